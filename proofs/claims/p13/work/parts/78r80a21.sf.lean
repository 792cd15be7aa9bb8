/-! 78r80a21.sf -/
section
/-! EVERY CALL ENDS, whatever was done before (laid by wip/am/p2k.py). -/
set_option maxRecDepth 100000 in
/-- GlacierMail$Rows.copyFrom -/
noncomputable def p2_s1668 : ck_Sum := (((1 : Nat), (0 : Nat), (0 : Nat)), (245 : Nat), [.inr (.inr (.inl (10 : Nat))), .inr (.inr (.inl (64 : Nat)))], ([], [], []), ([((10 : Nat), (3 : Int), (3 : Int)), ((11 : Nat), (0 : Int), (167 : Int))], []), [(.inr none, (245 : Nat), ([], [], []))])
set_option maxRecDepth 100000 in
theorem p2_s1668_s {X : Int → Int} {LX : Nat} : ck_Ok p2_O X LX 58 p2_s1668 := ck_okq (cuts := []) (f := 114) ⟨p2_nmu, ck_E0⟩ (by decide +kernel)
set_option maxRecDepth 100000 in
/-- GlacierMail$Rows.copyFrom -/
noncomputable def p2_s1669 : ck_Sum := (((1 : Nat), (0 : Nat), (0 : Nat)), (245 : Nat), [.inr (.inr (.inl (12 : Nat))), .inr (.inr (.inl (66 : Nat)))], ([], [], []), ([((12 : Nat), (3 : Int), (3 : Int)), ((13 : Nat), (0 : Int), (35 : Int))], []), [(.inr none, (245 : Nat), ([], [], []))])
set_option maxRecDepth 100000 in
theorem p2_s1669_s {X : Int → Int} {LX : Nat} : ck_Ok p2_O X LX 58 p2_s1669 := ck_okq (cuts := []) (f := 114) ⟨p2_nmu, ck_E0⟩ (by decide +kernel)
set_option maxRecDepth 100000 in
/-- GlacierMail$Rows.copyFrom -/
noncomputable def p2_s1670 : ck_Sum := (((1 : Nat), (0 : Nat), (0 : Nat)), (245 : Nat), [.inr (.inr (.inl (14 : Nat))), .inr (.inr (.inl (68 : Nat)))], ([], [], []), ([((14 : Nat), (3 : Int), (3 : Int)), ((15 : Nat), (0 : Int), (71 : Int))], []), [(.inr none, (245 : Nat), ([], [], []))])
set_option maxRecDepth 100000 in
theorem p2_s1670_s {X : Int → Int} {LX : Nat} : ck_Ok p2_O X LX 58 p2_s1670 := ck_okq (cuts := []) (f := 114) ⟨p2_nmu, ck_E0⟩ (by decide +kernel)
set_option maxRecDepth 100000 in
/-- GlacierMail$State.copyFrom -/
noncomputable def p2_s1671 : ck_Sum := (((2 : Nat), (0 : Nat), (0 : Nat)), (245 : Nat), [.inr (.inr (.inl (3 : Nat))), .inr (.inr (.inl (57 : Nat)))], ([], [((3 : Nat), (8 : Int), (0 : Nat)), ((57 : Nat), (8 : Int), (100057 : Nat))], []), (zl1, [((3 : Nat), (8 : Int))]), [(.inr none, (245 : Nat), ([], [((3 : Nat), (8 : Int), (100057 : Nat))], []))])
set_option maxRecDepth 100000 in
theorem p2_s1671_s {X : Int → Int} {LX : Nat} : ck_Ok p2_O X LX 57 p2_s1671 := ck_okq (cuts := []) (f := 204) ⟨p2_nmu, ck_E1 (ck_S1 p2_s1665_s (ck_S1 p2_s1666_s (ck_S1 p2_s1667_s (ck_S1 p2_s1668_s (ck_S1 p2_s1669_s (ck_S1 p2_s1670_s ck_S0)))))) ck_E0⟩ (by decide +kernel)
set_option maxRecDepth 100000 in
/-- GlacierMail$Rows.copyFrom -/
noncomputable def p2_s1672 : ck_Sum := (((1 : Nat), (0 : Nat), (0 : Nat)), (245 : Nat), [.inr (.inr (.inl (4 : Nat))), .inr (.inr (.inl (71 : Nat)))], ([], [], []), ([((4 : Nat), (3 : Int), (3 : Int)), ((5 : Nat), (0 : Int), (55 : Int))], []), [(.inr none, (245 : Nat), ([], [], []))])
set_option maxRecDepth 100000 in
theorem p2_s1672_s {X : Int → Int} {LX : Nat} : ck_Ok p2_O X LX 58 p2_s1672 := ck_okq (cuts := []) (f := 114) ⟨p2_nmu, ck_E0⟩ (by decide +kernel)
set_option maxRecDepth 100000 in
/-- GlacierMail$Rows.copyFrom -/
noncomputable def p2_s1673 : ck_Sum := (((1 : Nat), (0 : Nat), (0 : Nat)), (245 : Nat), [.inr (.inr (.inl (6 : Nat))), .inr (.inr (.inl (73 : Nat)))], ([], [], []), ([((6 : Nat), (3 : Int), (3 : Int)), ((7 : Nat), (0 : Int), (23 : Int))], []), [(.inr none, (245 : Nat), ([], [], []))])
set_option maxRecDepth 100000 in
theorem p2_s1673_s {X : Int → Int} {LX : Nat} : ck_Ok p2_O X LX 58 p2_s1673 := ck_okq (cuts := []) (f := 114) ⟨p2_nmu, ck_E0⟩ (by decide +kernel)
set_option maxRecDepth 100000 in
/-- GlacierMail$Rows.copyFrom -/
noncomputable def p2_s1674 : ck_Sum := (((1 : Nat), (0 : Nat), (0 : Nat)), (245 : Nat), [.inr (.inr (.inl (8 : Nat))), .inr (.inr (.inl (75 : Nat)))], ([], [], []), ([((8 : Nat), (3 : Int), (3 : Int)), ((9 : Nat), (0 : Int), (23 : Int))], []), [(.inr none, (245 : Nat), ([], [], []))])
set_option maxRecDepth 100000 in
theorem p2_s1674_s {X : Int → Int} {LX : Nat} : ck_Ok p2_O X LX 58 p2_s1674 := ck_okq (cuts := []) (f := 114) ⟨p2_nmu, ck_E0⟩ (by decide +kernel)
set_option maxRecDepth 100000 in
/-- GlacierMail$Rows.copyFrom -/
noncomputable def p2_s1675 : ck_Sum := (((1 : Nat), (0 : Nat), (0 : Nat)), (245 : Nat), [.inr (.inr (.inl (10 : Nat))), .inr (.inr (.inl (77 : Nat)))], ([], [], []), ([((10 : Nat), (3 : Int), (3 : Int)), ((11 : Nat), (0 : Int), (167 : Int))], []), [(.inr none, (245 : Nat), ([], [], []))])
set_option maxRecDepth 100000 in
theorem p2_s1675_s {X : Int → Int} {LX : Nat} : ck_Ok p2_O X LX 58 p2_s1675 := ck_okq (cuts := []) (f := 114) ⟨p2_nmu, ck_E0⟩ (by decide +kernel)
set_option maxRecDepth 100000 in
/-- GlacierMail$Rows.copyFrom -/
noncomputable def p2_s1676 : ck_Sum := (((1 : Nat), (0 : Nat), (0 : Nat)), (245 : Nat), [.inr (.inr (.inl (12 : Nat))), .inr (.inr (.inl (79 : Nat)))], ([], [], []), ([((12 : Nat), (3 : Int), (3 : Int)), ((13 : Nat), (0 : Int), (35 : Int))], []), [(.inr none, (245 : Nat), ([], [], []))])
set_option maxRecDepth 100000 in
theorem p2_s1676_s {X : Int → Int} {LX : Nat} : ck_Ok p2_O X LX 58 p2_s1676 := ck_okq (cuts := []) (f := 114) ⟨p2_nmu, ck_E0⟩ (by decide +kernel)
set_option maxRecDepth 100000 in
/-- GlacierMail$Rows.copyFrom -/
noncomputable def p2_s1677 : ck_Sum := (((1 : Nat), (0 : Nat), (0 : Nat)), (245 : Nat), [.inr (.inr (.inl (14 : Nat))), .inr (.inr (.inl (81 : Nat)))], ([], [], []), ([((14 : Nat), (3 : Int), (3 : Int)), ((15 : Nat), (0 : Int), (71 : Int))], []), [(.inr none, (245 : Nat), ([], [], []))])
set_option maxRecDepth 100000 in
theorem p2_s1677_s {X : Int → Int} {LX : Nat} : ck_Ok p2_O X LX 58 p2_s1677 := ck_okq (cuts := []) (f := 114) ⟨p2_nmu, ck_E0⟩ (by decide +kernel)
set_option maxRecDepth 100000 in
/-- GlacierMail$State.copyFrom -/
noncomputable def p2_s1678 : ck_Sum := (((2 : Nat), (0 : Nat), (0 : Nat)), (245 : Nat), [.inr (.inr (.inl (3 : Nat))), .inr (.inr (.inl (70 : Nat)))], ([], [((3 : Nat), (8 : Int), (0 : Nat)), ((70 : Nat), (8 : Int), (100070 : Nat))], []), (zl1, [((3 : Nat), (8 : Int))]), [(.inr none, (245 : Nat), ([], [((3 : Nat), (8 : Int), (100070 : Nat))], []))])
set_option maxRecDepth 100000 in
theorem p2_s1678_s {X : Int → Int} {LX : Nat} : ck_Ok p2_O X LX 57 p2_s1678 := ck_okq (cuts := []) (f := 204) ⟨p2_nmu, ck_E1 (ck_S1 p2_s1672_s (ck_S1 p2_s1673_s (ck_S1 p2_s1674_s (ck_S1 p2_s1675_s (ck_S1 p2_s1676_s (ck_S1 p2_s1677_s ck_S0)))))) ck_E0⟩ (by decide +kernel)
set_option maxRecDepth 100000 in
/-- GlacierMail$Rows.copyFrom -/
noncomputable def p2_s1679 : ck_Sum := (((1 : Nat), (0 : Nat), (0 : Nat)), (245 : Nat), [.inr (.inr (.inl (4 : Nat))), .inr (.inr (.inl (84 : Nat)))], ([], [], []), ([((4 : Nat), (3 : Int), (3 : Int)), ((5 : Nat), (0 : Int), (55 : Int))], []), [(.inr none, (245 : Nat), ([], [], []))])
set_option maxRecDepth 100000 in
theorem p2_s1679_s {X : Int → Int} {LX : Nat} : ck_Ok p2_O X LX 58 p2_s1679 := ck_okq (cuts := []) (f := 114) ⟨p2_nmu, ck_E0⟩ (by decide +kernel)
set_option maxRecDepth 100000 in
/-- GlacierMail$Rows.copyFrom -/
noncomputable def p2_s1680 : ck_Sum := (((1 : Nat), (0 : Nat), (0 : Nat)), (245 : Nat), [.inr (.inr (.inl (6 : Nat))), .inr (.inr (.inl (86 : Nat)))], ([], [], []), ([((6 : Nat), (3 : Int), (3 : Int)), ((7 : Nat), (0 : Int), (23 : Int))], []), [(.inr none, (245 : Nat), ([], [], []))])
set_option maxRecDepth 100000 in
theorem p2_s1680_s {X : Int → Int} {LX : Nat} : ck_Ok p2_O X LX 58 p2_s1680 := ck_okq (cuts := []) (f := 114) ⟨p2_nmu, ck_E0⟩ (by decide +kernel)
set_option maxRecDepth 100000 in
/-- GlacierMail$Rows.copyFrom -/
noncomputable def p2_s1681 : ck_Sum := (((1 : Nat), (0 : Nat), (0 : Nat)), (245 : Nat), [.inr (.inr (.inl (8 : Nat))), .inr (.inr (.inl (88 : Nat)))], ([], [], []), ([((8 : Nat), (3 : Int), (3 : Int)), ((9 : Nat), (0 : Int), (23 : Int))], []), [(.inr none, (245 : Nat), ([], [], []))])
set_option maxRecDepth 100000 in
theorem p2_s1681_s {X : Int → Int} {LX : Nat} : ck_Ok p2_O X LX 58 p2_s1681 := ck_okq (cuts := []) (f := 114) ⟨p2_nmu, ck_E0⟩ (by decide +kernel)
set_option maxRecDepth 100000 in
/-- GlacierMail$Rows.copyFrom -/
noncomputable def p2_s1682 : ck_Sum := (((1 : Nat), (0 : Nat), (0 : Nat)), (245 : Nat), [.inr (.inr (.inl (10 : Nat))), .inr (.inr (.inl (90 : Nat)))], ([], [], []), ([((10 : Nat), (3 : Int), (3 : Int)), ((11 : Nat), (0 : Int), (167 : Int))], []), [(.inr none, (245 : Nat), ([], [], []))])
set_option maxRecDepth 100000 in
theorem p2_s1682_s {X : Int → Int} {LX : Nat} : ck_Ok p2_O X LX 58 p2_s1682 := ck_okq (cuts := []) (f := 114) ⟨p2_nmu, ck_E0⟩ (by decide +kernel)
set_option maxRecDepth 100000 in
/-- GlacierMail$Rows.copyFrom -/
noncomputable def p2_s1683 : ck_Sum := (((1 : Nat), (0 : Nat), (0 : Nat)), (245 : Nat), [.inr (.inr (.inl (12 : Nat))), .inr (.inr (.inl (92 : Nat)))], ([], [], []), ([((12 : Nat), (3 : Int), (3 : Int)), ((13 : Nat), (0 : Int), (35 : Int))], []), [(.inr none, (245 : Nat), ([], [], []))])
set_option maxRecDepth 100000 in
theorem p2_s1683_s {X : Int → Int} {LX : Nat} : ck_Ok p2_O X LX 58 p2_s1683 := ck_okq (cuts := []) (f := 114) ⟨p2_nmu, ck_E0⟩ (by decide +kernel)
set_option maxRecDepth 100000 in
/-- GlacierMail$Rows.copyFrom -/
noncomputable def p2_s1684 : ck_Sum := (((1 : Nat), (0 : Nat), (0 : Nat)), (245 : Nat), [.inr (.inr (.inl (14 : Nat))), .inr (.inr (.inl (94 : Nat)))], ([], [], []), ([((14 : Nat), (3 : Int), (3 : Int)), ((15 : Nat), (0 : Int), (71 : Int))], []), [(.inr none, (245 : Nat), ([], [], []))])
set_option maxRecDepth 100000 in
theorem p2_s1684_s {X : Int → Int} {LX : Nat} : ck_Ok p2_O X LX 58 p2_s1684 := ck_okq (cuts := []) (f := 114) ⟨p2_nmu, ck_E0⟩ (by decide +kernel)
set_option maxRecDepth 100000 in
/-- GlacierMail$State.copyFrom -/
noncomputable def p2_s1685 : ck_Sum := (((2 : Nat), (0 : Nat), (0 : Nat)), (245 : Nat), [.inr (.inr (.inl (3 : Nat))), .inr (.inr (.inl (83 : Nat)))], ([], [((3 : Nat), (8 : Int), (0 : Nat)), ((83 : Nat), (8 : Int), (100083 : Nat))], []), (zl1, [((3 : Nat), (8 : Int))]), [(.inr none, (245 : Nat), ([], [((3 : Nat), (8 : Int), (100083 : Nat))], []))])
set_option maxRecDepth 100000 in
theorem p2_s1685_s {X : Int → Int} {LX : Nat} : ck_Ok p2_O X LX 57 p2_s1685 := ck_okq (cuts := []) (f := 204) ⟨p2_nmu, ck_E1 (ck_S1 p2_s1679_s (ck_S1 p2_s1680_s (ck_S1 p2_s1681_s (ck_S1 p2_s1682_s (ck_S1 p2_s1683_s (ck_S1 p2_s1684_s ck_S0)))))) ck_E0⟩ (by decide +kernel)
set_option maxRecDepth 100000 in
/-- GlacierMail$Rows.copyFrom -/
noncomputable def p2_s1686 : ck_Sum := (((1 : Nat), (0 : Nat), (0 : Nat)), (245 : Nat), [.inr (.inr (.inl (4 : Nat))), .inr (.inr (.inl (97 : Nat)))], ([], [], []), ([((4 : Nat), (3 : Int), (3 : Int)), ((5 : Nat), (0 : Int), (55 : Int))], []), [(.inr none, (245 : Nat), ([], [], []))])
set_option maxRecDepth 100000 in
theorem p2_s1686_s {X : Int → Int} {LX : Nat} : ck_Ok p2_O X LX 58 p2_s1686 := ck_okq (cuts := []) (f := 114) ⟨p2_nmu, ck_E0⟩ (by decide +kernel)
set_option maxRecDepth 100000 in
/-- GlacierMail$Rows.copyFrom -/
noncomputable def p2_s1687 : ck_Sum := (((1 : Nat), (0 : Nat), (0 : Nat)), (245 : Nat), [.inr (.inr (.inl (6 : Nat))), .inr (.inr (.inl (99 : Nat)))], ([], [], []), ([((6 : Nat), (3 : Int), (3 : Int)), ((7 : Nat), (0 : Int), (23 : Int))], []), [(.inr none, (245 : Nat), ([], [], []))])
set_option maxRecDepth 100000 in
theorem p2_s1687_s {X : Int → Int} {LX : Nat} : ck_Ok p2_O X LX 58 p2_s1687 := ck_okq (cuts := []) (f := 114) ⟨p2_nmu, ck_E0⟩ (by decide +kernel)
set_option maxRecDepth 100000 in
/-- GlacierMail$Rows.copyFrom -/
noncomputable def p2_s1688 : ck_Sum := (((1 : Nat), (0 : Nat), (0 : Nat)), (245 : Nat), [.inr (.inr (.inl (8 : Nat))), .inr (.inr (.inl (101 : Nat)))], ([], [], []), ([((8 : Nat), (3 : Int), (3 : Int)), ((9 : Nat), (0 : Int), (23 : Int))], []), [(.inr none, (245 : Nat), ([], [], []))])
set_option maxRecDepth 100000 in
theorem p2_s1688_s {X : Int → Int} {LX : Nat} : ck_Ok p2_O X LX 58 p2_s1688 := ck_okq (cuts := []) (f := 114) ⟨p2_nmu, ck_E0⟩ (by decide +kernel)
set_option maxRecDepth 100000 in
/-- GlacierMail$Rows.copyFrom -/
noncomputable def p2_s1689 : ck_Sum := (((1 : Nat), (0 : Nat), (0 : Nat)), (245 : Nat), [.inr (.inr (.inl (10 : Nat))), .inr (.inr (.inl (103 : Nat)))], ([], [], []), ([((10 : Nat), (3 : Int), (3 : Int)), ((11 : Nat), (0 : Int), (167 : Int))], []), [(.inr none, (245 : Nat), ([], [], []))])
set_option maxRecDepth 100000 in
theorem p2_s1689_s {X : Int → Int} {LX : Nat} : ck_Ok p2_O X LX 58 p2_s1689 := ck_okq (cuts := []) (f := 114) ⟨p2_nmu, ck_E0⟩ (by decide +kernel)
set_option maxRecDepth 100000 in
/-- GlacierMail$Rows.copyFrom -/
noncomputable def p2_s1690 : ck_Sum := (((1 : Nat), (0 : Nat), (0 : Nat)), (245 : Nat), [.inr (.inr (.inl (12 : Nat))), .inr (.inr (.inl (105 : Nat)))], ([], [], []), ([((12 : Nat), (3 : Int), (3 : Int)), ((13 : Nat), (0 : Int), (35 : Int))], []), [(.inr none, (245 : Nat), ([], [], []))])
set_option maxRecDepth 100000 in
theorem p2_s1690_s {X : Int → Int} {LX : Nat} : ck_Ok p2_O X LX 58 p2_s1690 := ck_okq (cuts := []) (f := 114) ⟨p2_nmu, ck_E0⟩ (by decide +kernel)
set_option maxRecDepth 100000 in
/-- GlacierMail$Rows.copyFrom -/
noncomputable def p2_s1691 : ck_Sum := (((1 : Nat), (0 : Nat), (0 : Nat)), (245 : Nat), [.inr (.inr (.inl (14 : Nat))), .inr (.inr (.inl (107 : Nat)))], ([], [], []), ([((14 : Nat), (3 : Int), (3 : Int)), ((15 : Nat), (0 : Int), (71 : Int))], []), [(.inr none, (245 : Nat), ([], [], []))])
set_option maxRecDepth 100000 in
theorem p2_s1691_s {X : Int → Int} {LX : Nat} : ck_Ok p2_O X LX 58 p2_s1691 := ck_okq (cuts := []) (f := 114) ⟨p2_nmu, ck_E0⟩ (by decide +kernel)
set_option maxRecDepth 100000 in
/-- GlacierMail$State.copyFrom -/
noncomputable def p2_s1692 : ck_Sum := (((2 : Nat), (0 : Nat), (0 : Nat)), (245 : Nat), [.inr (.inr (.inl (3 : Nat))), .inr (.inr (.inl (96 : Nat)))], ([], [((3 : Nat), (8 : Int), (0 : Nat)), ((96 : Nat), (8 : Int), (100096 : Nat))], []), (zl1, [((3 : Nat), (8 : Int))]), [(.inr none, (245 : Nat), ([], [((3 : Nat), (8 : Int), (100096 : Nat))], []))])
set_option maxRecDepth 100000 in
theorem p2_s1692_s {X : Int → Int} {LX : Nat} : ck_Ok p2_O X LX 57 p2_s1692 := ck_okq (cuts := []) (f := 204) ⟨p2_nmu, ck_E1 (ck_S1 p2_s1686_s (ck_S1 p2_s1687_s (ck_S1 p2_s1688_s (ck_S1 p2_s1689_s (ck_S1 p2_s1690_s (ck_S1 p2_s1691_s ck_S0)))))) ck_E0⟩ (by decide +kernel)
set_option maxRecDepth 100000 in
/-- GlacierMail$Rows.copyFrom -/
noncomputable def p2_s1693 : ck_Sum := (((1 : Nat), (0 : Nat), (0 : Nat)), (245 : Nat), [.inr (.inr (.inl (4 : Nat))), .inr (.inr (.inl (110 : Nat)))], ([], [], []), ([((4 : Nat), (3 : Int), (3 : Int)), ((5 : Nat), (0 : Int), (55 : Int))], []), [(.inr none, (245 : Nat), ([], [], []))])
set_option maxRecDepth 100000 in
theorem p2_s1693_s {X : Int → Int} {LX : Nat} : ck_Ok p2_O X LX 58 p2_s1693 := ck_okq (cuts := []) (f := 114) ⟨p2_nmu, ck_E0⟩ (by decide +kernel)
set_option maxRecDepth 100000 in
/-- GlacierMail$Rows.copyFrom -/
noncomputable def p2_s1694 : ck_Sum := (((1 : Nat), (0 : Nat), (0 : Nat)), (245 : Nat), [.inr (.inr (.inl (6 : Nat))), .inr (.inr (.inl (112 : Nat)))], ([], [], []), ([((6 : Nat), (3 : Int), (3 : Int)), ((7 : Nat), (0 : Int), (23 : Int))], []), [(.inr none, (245 : Nat), ([], [], []))])
set_option maxRecDepth 100000 in
theorem p2_s1694_s {X : Int → Int} {LX : Nat} : ck_Ok p2_O X LX 58 p2_s1694 := ck_okq (cuts := []) (f := 114) ⟨p2_nmu, ck_E0⟩ (by decide +kernel)
set_option maxRecDepth 100000 in
/-- GlacierMail$Rows.copyFrom -/
noncomputable def p2_s1695 : ck_Sum := (((1 : Nat), (0 : Nat), (0 : Nat)), (245 : Nat), [.inr (.inr (.inl (8 : Nat))), .inr (.inr (.inl (114 : Nat)))], ([], [], []), ([((8 : Nat), (3 : Int), (3 : Int)), ((9 : Nat), (0 : Int), (23 : Int))], []), [(.inr none, (245 : Nat), ([], [], []))])
set_option maxRecDepth 100000 in
theorem p2_s1695_s {X : Int → Int} {LX : Nat} : ck_Ok p2_O X LX 58 p2_s1695 := ck_okq (cuts := []) (f := 114) ⟨p2_nmu, ck_E0⟩ (by decide +kernel)
set_option maxRecDepth 100000 in
/-- GlacierMail$Rows.copyFrom -/
noncomputable def p2_s1696 : ck_Sum := (((1 : Nat), (0 : Nat), (0 : Nat)), (245 : Nat), [.inr (.inr (.inl (10 : Nat))), .inr (.inr (.inl (116 : Nat)))], ([], [], []), ([((10 : Nat), (3 : Int), (3 : Int)), ((11 : Nat), (0 : Int), (167 : Int))], []), [(.inr none, (245 : Nat), ([], [], []))])
set_option maxRecDepth 100000 in
theorem p2_s1696_s {X : Int → Int} {LX : Nat} : ck_Ok p2_O X LX 58 p2_s1696 := ck_okq (cuts := []) (f := 114) ⟨p2_nmu, ck_E0⟩ (by decide +kernel)
set_option maxRecDepth 100000 in
/-- GlacierMail$Rows.copyFrom -/
noncomputable def p2_s1697 : ck_Sum := (((1 : Nat), (0 : Nat), (0 : Nat)), (245 : Nat), [.inr (.inr (.inl (12 : Nat))), .inr (.inr (.inl (118 : Nat)))], ([], [], []), ([((12 : Nat), (3 : Int), (3 : Int)), ((13 : Nat), (0 : Int), (35 : Int))], []), [(.inr none, (245 : Nat), ([], [], []))])
set_option maxRecDepth 100000 in
theorem p2_s1697_s {X : Int → Int} {LX : Nat} : ck_Ok p2_O X LX 58 p2_s1697 := ck_okq (cuts := []) (f := 114) ⟨p2_nmu, ck_E0⟩ (by decide +kernel)
set_option maxRecDepth 100000 in
/-- GlacierMail$Rows.copyFrom -/
noncomputable def p2_s1698 : ck_Sum := (((1 : Nat), (0 : Nat), (0 : Nat)), (245 : Nat), [.inr (.inr (.inl (14 : Nat))), .inr (.inr (.inl (120 : Nat)))], ([], [], []), ([((14 : Nat), (3 : Int), (3 : Int)), ((15 : Nat), (0 : Int), (71 : Int))], []), [(.inr none, (245 : Nat), ([], [], []))])
set_option maxRecDepth 100000 in
theorem p2_s1698_s {X : Int → Int} {LX : Nat} : ck_Ok p2_O X LX 58 p2_s1698 := ck_okq (cuts := []) (f := 114) ⟨p2_nmu, ck_E0⟩ (by decide +kernel)
set_option maxRecDepth 100000 in
/-- GlacierMail$State.copyFrom -/
noncomputable def p2_s1699 : ck_Sum := (((2 : Nat), (0 : Nat), (0 : Nat)), (245 : Nat), [.inr (.inr (.inl (3 : Nat))), .inr (.inr (.inl (109 : Nat)))], ([], [((3 : Nat), (8 : Int), (0 : Nat)), ((109 : Nat), (8 : Int), (100109 : Nat))], []), (zl1, [((3 : Nat), (8 : Int))]), [(.inr none, (245 : Nat), ([], [((3 : Nat), (8 : Int), (100109 : Nat))], []))])
set_option maxRecDepth 100000 in
theorem p2_s1699_s {X : Int → Int} {LX : Nat} : ck_Ok p2_O X LX 57 p2_s1699 := ck_okq (cuts := []) (f := 204) ⟨p2_nmu, ck_E1 (ck_S1 p2_s1693_s (ck_S1 p2_s1694_s (ck_S1 p2_s1695_s (ck_S1 p2_s1696_s (ck_S1 p2_s1697_s (ck_S1 p2_s1698_s ck_S0)))))) ck_E0⟩ (by decide +kernel)
set_option maxRecDepth 100000 in
/-- GlacierMail$Rows.copyFrom -/
noncomputable def p2_s1700 : ck_Sum := (((1 : Nat), (0 : Nat), (0 : Nat)), (245 : Nat), [.inr (.inr (.inl (4 : Nat))), .inr (.inr (.inl (123 : Nat)))], ([], [], []), ([((4 : Nat), (3 : Int), (3 : Int)), ((5 : Nat), (0 : Int), (55 : Int))], []), [(.inr none, (245 : Nat), ([], [], []))])
set_option maxRecDepth 100000 in
theorem p2_s1700_s {X : Int → Int} {LX : Nat} : ck_Ok p2_O X LX 58 p2_s1700 := ck_okq (cuts := []) (f := 114) ⟨p2_nmu, ck_E0⟩ (by decide +kernel)
set_option maxRecDepth 100000 in
/-- GlacierMail$Rows.copyFrom -/
noncomputable def p2_s1701 : ck_Sum := (((1 : Nat), (0 : Nat), (0 : Nat)), (245 : Nat), [.inr (.inr (.inl (6 : Nat))), .inr (.inr (.inl (125 : Nat)))], ([], [], []), ([((6 : Nat), (3 : Int), (3 : Int)), ((7 : Nat), (0 : Int), (23 : Int))], []), [(.inr none, (245 : Nat), ([], [], []))])
set_option maxRecDepth 100000 in
theorem p2_s1701_s {X : Int → Int} {LX : Nat} : ck_Ok p2_O X LX 58 p2_s1701 := ck_okq (cuts := []) (f := 114) ⟨p2_nmu, ck_E0⟩ (by decide +kernel)
set_option maxRecDepth 100000 in
/-- GlacierMail$Rows.copyFrom -/
noncomputable def p2_s1702 : ck_Sum := (((1 : Nat), (0 : Nat), (0 : Nat)), (245 : Nat), [.inr (.inr (.inl (8 : Nat))), .inr (.inr (.inl (127 : Nat)))], ([], [], []), ([((8 : Nat), (3 : Int), (3 : Int)), ((9 : Nat), (0 : Int), (23 : Int))], []), [(.inr none, (245 : Nat), ([], [], []))])
set_option maxRecDepth 100000 in
theorem p2_s1702_s {X : Int → Int} {LX : Nat} : ck_Ok p2_O X LX 58 p2_s1702 := ck_okq (cuts := []) (f := 114) ⟨p2_nmu, ck_E0⟩ (by decide +kernel)
set_option maxRecDepth 100000 in
/-- GlacierMail$Rows.copyFrom -/
noncomputable def p2_s1703 : ck_Sum := (((1 : Nat), (0 : Nat), (0 : Nat)), (245 : Nat), [.inr (.inr (.inl (10 : Nat))), .inr (.inr (.inl (129 : Nat)))], ([], [], []), ([((10 : Nat), (3 : Int), (3 : Int)), ((11 : Nat), (0 : Int), (167 : Int))], []), [(.inr none, (245 : Nat), ([], [], []))])
set_option maxRecDepth 100000 in
theorem p2_s1703_s {X : Int → Int} {LX : Nat} : ck_Ok p2_O X LX 58 p2_s1703 := ck_okq (cuts := []) (f := 114) ⟨p2_nmu, ck_E0⟩ (by decide +kernel)
set_option maxRecDepth 100000 in
/-- GlacierMail$Rows.copyFrom -/
noncomputable def p2_s1704 : ck_Sum := (((1 : Nat), (0 : Nat), (0 : Nat)), (245 : Nat), [.inr (.inr (.inl (12 : Nat))), .inr (.inr (.inl (131 : Nat)))], ([], [], []), ([((12 : Nat), (3 : Int), (3 : Int)), ((13 : Nat), (0 : Int), (35 : Int))], []), [(.inr none, (245 : Nat), ([], [], []))])
set_option maxRecDepth 100000 in
theorem p2_s1704_s {X : Int → Int} {LX : Nat} : ck_Ok p2_O X LX 58 p2_s1704 := ck_okq (cuts := []) (f := 114) ⟨p2_nmu, ck_E0⟩ (by decide +kernel)
set_option maxRecDepth 100000 in
/-- GlacierMail$Rows.copyFrom -/
noncomputable def p2_s1705 : ck_Sum := (((1 : Nat), (0 : Nat), (0 : Nat)), (245 : Nat), [.inr (.inr (.inl (14 : Nat))), .inr (.inr (.inl (133 : Nat)))], ([], [], []), ([((14 : Nat), (3 : Int), (3 : Int)), ((15 : Nat), (0 : Int), (71 : Int))], []), [(.inr none, (245 : Nat), ([], [], []))])
set_option maxRecDepth 100000 in
theorem p2_s1705_s {X : Int → Int} {LX : Nat} : ck_Ok p2_O X LX 58 p2_s1705 := ck_okq (cuts := []) (f := 114) ⟨p2_nmu, ck_E0⟩ (by decide +kernel)
set_option maxRecDepth 100000 in
/-- GlacierMail$State.copyFrom -/
noncomputable def p2_s1706 : ck_Sum := (((2 : Nat), (0 : Nat), (0 : Nat)), (245 : Nat), [.inr (.inr (.inl (3 : Nat))), .inr (.inr (.inl (122 : Nat)))], ([], [((3 : Nat), (8 : Int), (0 : Nat)), ((122 : Nat), (8 : Int), (100122 : Nat))], []), (zl1, [((3 : Nat), (8 : Int))]), [(.inr none, (245 : Nat), ([], [((3 : Nat), (8 : Int), (100122 : Nat))], []))])
set_option maxRecDepth 100000 in
theorem p2_s1706_s {X : Int → Int} {LX : Nat} : ck_Ok p2_O X LX 57 p2_s1706 := ck_okq (cuts := []) (f := 204) ⟨p2_nmu, ck_E1 (ck_S1 p2_s1700_s (ck_S1 p2_s1701_s (ck_S1 p2_s1702_s (ck_S1 p2_s1703_s (ck_S1 p2_s1704_s (ck_S1 p2_s1705_s ck_S0)))))) ck_E0⟩ (by decide +kernel)
set_option maxRecDepth 100000 in
/-- GlacierMail$Rows.copyFrom -/
noncomputable def p2_s1707 : ck_Sum := (((1 : Nat), (0 : Nat), (0 : Nat)), (245 : Nat), [.inr (.inr (.inl (4 : Nat))), .inr (.inr (.inl (136 : Nat)))], ([], [], []), ([((4 : Nat), (3 : Int), (3 : Int)), ((5 : Nat), (0 : Int), (55 : Int))], []), [(.inr none, (245 : Nat), ([], [], []))])
set_option maxRecDepth 100000 in
theorem p2_s1707_s {X : Int → Int} {LX : Nat} : ck_Ok p2_O X LX 58 p2_s1707 := ck_okq (cuts := []) (f := 114) ⟨p2_nmu, ck_E0⟩ (by decide +kernel)
set_option maxRecDepth 100000 in
/-- GlacierMail$Rows.copyFrom -/
noncomputable def p2_s1708 : ck_Sum := (((1 : Nat), (0 : Nat), (0 : Nat)), (245 : Nat), [.inr (.inr (.inl (6 : Nat))), .inr (.inr (.inl (138 : Nat)))], ([], [], []), ([((6 : Nat), (3 : Int), (3 : Int)), ((7 : Nat), (0 : Int), (23 : Int))], []), [(.inr none, (245 : Nat), ([], [], []))])
set_option maxRecDepth 100000 in
theorem p2_s1708_s {X : Int → Int} {LX : Nat} : ck_Ok p2_O X LX 58 p2_s1708 := ck_okq (cuts := []) (f := 114) ⟨p2_nmu, ck_E0⟩ (by decide +kernel)
set_option maxRecDepth 100000 in
/-- GlacierMail$Rows.copyFrom -/
noncomputable def p2_s1709 : ck_Sum := (((1 : Nat), (0 : Nat), (0 : Nat)), (245 : Nat), [.inr (.inr (.inl (8 : Nat))), .inr (.inr (.inl (140 : Nat)))], ([], [], []), ([((8 : Nat), (3 : Int), (3 : Int)), ((9 : Nat), (0 : Int), (23 : Int))], []), [(.inr none, (245 : Nat), ([], [], []))])
set_option maxRecDepth 100000 in
theorem p2_s1709_s {X : Int → Int} {LX : Nat} : ck_Ok p2_O X LX 58 p2_s1709 := ck_okq (cuts := []) (f := 114) ⟨p2_nmu, ck_E0⟩ (by decide +kernel)
set_option maxRecDepth 100000 in
/-- GlacierMail$Rows.copyFrom -/
noncomputable def p2_s1710 : ck_Sum := (((1 : Nat), (0 : Nat), (0 : Nat)), (245 : Nat), [.inr (.inr (.inl (10 : Nat))), .inr (.inr (.inl (142 : Nat)))], ([], [], []), ([((10 : Nat), (3 : Int), (3 : Int)), ((11 : Nat), (0 : Int), (167 : Int))], []), [(.inr none, (245 : Nat), ([], [], []))])
set_option maxRecDepth 100000 in
theorem p2_s1710_s {X : Int → Int} {LX : Nat} : ck_Ok p2_O X LX 58 p2_s1710 := ck_okq (cuts := []) (f := 114) ⟨p2_nmu, ck_E0⟩ (by decide +kernel)
set_option maxRecDepth 100000 in
/-- GlacierMail$Rows.copyFrom -/
noncomputable def p2_s1711 : ck_Sum := (((1 : Nat), (0 : Nat), (0 : Nat)), (245 : Nat), [.inr (.inr (.inl (12 : Nat))), .inr (.inr (.inl (144 : Nat)))], ([], [], []), ([((12 : Nat), (3 : Int), (3 : Int)), ((13 : Nat), (0 : Int), (35 : Int))], []), [(.inr none, (245 : Nat), ([], [], []))])
set_option maxRecDepth 100000 in
theorem p2_s1711_s {X : Int → Int} {LX : Nat} : ck_Ok p2_O X LX 58 p2_s1711 := ck_okq (cuts := []) (f := 114) ⟨p2_nmu, ck_E0⟩ (by decide +kernel)
set_option maxRecDepth 100000 in
/-- GlacierMail$Rows.copyFrom -/
noncomputable def p2_s1712 : ck_Sum := (((1 : Nat), (0 : Nat), (0 : Nat)), (245 : Nat), [.inr (.inr (.inl (14 : Nat))), .inr (.inr (.inl (146 : Nat)))], ([], [], []), ([((14 : Nat), (3 : Int), (3 : Int)), ((15 : Nat), (0 : Int), (71 : Int))], []), [(.inr none, (245 : Nat), ([], [], []))])
set_option maxRecDepth 100000 in
theorem p2_s1712_s {X : Int → Int} {LX : Nat} : ck_Ok p2_O X LX 58 p2_s1712 := ck_okq (cuts := []) (f := 114) ⟨p2_nmu, ck_E0⟩ (by decide +kernel)
set_option maxRecDepth 100000 in
/-- GlacierMail$State.copyFrom -/
noncomputable def p2_s1713 : ck_Sum := (((2 : Nat), (0 : Nat), (0 : Nat)), (245 : Nat), [.inr (.inr (.inl (3 : Nat))), .inr (.inr (.inl (135 : Nat)))], ([], [((3 : Nat), (8 : Int), (0 : Nat)), ((135 : Nat), (8 : Int), (100135 : Nat))], []), (zl1, [((3 : Nat), (8 : Int))]), [(.inr none, (245 : Nat), ([], [((3 : Nat), (8 : Int), (100135 : Nat))], []))])
set_option maxRecDepth 100000 in
theorem p2_s1713_s {X : Int → Int} {LX : Nat} : ck_Ok p2_O X LX 57 p2_s1713 := ck_okq (cuts := []) (f := 204) ⟨p2_nmu, ck_E1 (ck_S1 p2_s1707_s (ck_S1 p2_s1708_s (ck_S1 p2_s1709_s (ck_S1 p2_s1710_s (ck_S1 p2_s1711_s (ck_S1 p2_s1712_s ck_S0)))))) ck_E0⟩ (by decide +kernel)
set_option maxRecDepth 100000 in
/-- GlacierMail$Rows.copyFrom -/
noncomputable def p2_s1714 : ck_Sum := (((1 : Nat), (0 : Nat), (0 : Nat)), (245 : Nat), [.inr (.inr (.inl (4 : Nat))), .inr (.inr (.inl (149 : Nat)))], ([], [], []), ([((4 : Nat), (3 : Int), (3 : Int)), ((5 : Nat), (0 : Int), (55 : Int))], []), [(.inr none, (245 : Nat), ([], [], []))])
set_option maxRecDepth 100000 in
theorem p2_s1714_s {X : Int → Int} {LX : Nat} : ck_Ok p2_O X LX 58 p2_s1714 := ck_okq (cuts := []) (f := 114) ⟨p2_nmu, ck_E0⟩ (by decide +kernel)
set_option maxRecDepth 100000 in
/-- GlacierMail$Rows.copyFrom -/
noncomputable def p2_s1715 : ck_Sum := (((1 : Nat), (0 : Nat), (0 : Nat)), (245 : Nat), [.inr (.inr (.inl (6 : Nat))), .inr (.inr (.inl (151 : Nat)))], ([], [], []), ([((6 : Nat), (3 : Int), (3 : Int)), ((7 : Nat), (0 : Int), (23 : Int))], []), [(.inr none, (245 : Nat), ([], [], []))])
set_option maxRecDepth 100000 in
theorem p2_s1715_s {X : Int → Int} {LX : Nat} : ck_Ok p2_O X LX 58 p2_s1715 := ck_okq (cuts := []) (f := 114) ⟨p2_nmu, ck_E0⟩ (by decide +kernel)
set_option maxRecDepth 100000 in
/-- GlacierMail$Rows.copyFrom -/
noncomputable def p2_s1716 : ck_Sum := (((1 : Nat), (0 : Nat), (0 : Nat)), (245 : Nat), [.inr (.inr (.inl (8 : Nat))), .inr (.inr (.inl (153 : Nat)))], ([], [], []), ([((8 : Nat), (3 : Int), (3 : Int)), ((9 : Nat), (0 : Int), (23 : Int))], []), [(.inr none, (245 : Nat), ([], [], []))])
set_option maxRecDepth 100000 in
theorem p2_s1716_s {X : Int → Int} {LX : Nat} : ck_Ok p2_O X LX 58 p2_s1716 := ck_okq (cuts := []) (f := 114) ⟨p2_nmu, ck_E0⟩ (by decide +kernel)
set_option maxRecDepth 100000 in
/-- GlacierMail$Rows.copyFrom -/
noncomputable def p2_s1717 : ck_Sum := (((1 : Nat), (0 : Nat), (0 : Nat)), (245 : Nat), [.inr (.inr (.inl (10 : Nat))), .inr (.inr (.inl (155 : Nat)))], ([], [], []), ([((10 : Nat), (3 : Int), (3 : Int)), ((11 : Nat), (0 : Int), (167 : Int))], []), [(.inr none, (245 : Nat), ([], [], []))])
set_option maxRecDepth 100000 in
theorem p2_s1717_s {X : Int → Int} {LX : Nat} : ck_Ok p2_O X LX 58 p2_s1717 := ck_okq (cuts := []) (f := 114) ⟨p2_nmu, ck_E0⟩ (by decide +kernel)
set_option maxRecDepth 100000 in
/-- GlacierMail$Rows.copyFrom -/
noncomputable def p2_s1718 : ck_Sum := (((1 : Nat), (0 : Nat), (0 : Nat)), (245 : Nat), [.inr (.inr (.inl (12 : Nat))), .inr (.inr (.inl (157 : Nat)))], ([], [], []), ([((12 : Nat), (3 : Int), (3 : Int)), ((13 : Nat), (0 : Int), (35 : Int))], []), [(.inr none, (245 : Nat), ([], [], []))])
set_option maxRecDepth 100000 in
theorem p2_s1718_s {X : Int → Int} {LX : Nat} : ck_Ok p2_O X LX 58 p2_s1718 := ck_okq (cuts := []) (f := 114) ⟨p2_nmu, ck_E0⟩ (by decide +kernel)
set_option maxRecDepth 100000 in
/-- GlacierMail$Rows.copyFrom -/
noncomputable def p2_s1719 : ck_Sum := (((1 : Nat), (0 : Nat), (0 : Nat)), (245 : Nat), [.inr (.inr (.inl (14 : Nat))), .inr (.inr (.inl (159 : Nat)))], ([], [], []), ([((14 : Nat), (3 : Int), (3 : Int)), ((15 : Nat), (0 : Int), (71 : Int))], []), [(.inr none, (245 : Nat), ([], [], []))])
set_option maxRecDepth 100000 in
theorem p2_s1719_s {X : Int → Int} {LX : Nat} : ck_Ok p2_O X LX 58 p2_s1719 := ck_okq (cuts := []) (f := 114) ⟨p2_nmu, ck_E0⟩ (by decide +kernel)
set_option maxRecDepth 100000 in
/-- GlacierMail$State.copyFrom -/
noncomputable def p2_s1720 : ck_Sum := (((2 : Nat), (0 : Nat), (0 : Nat)), (245 : Nat), [.inr (.inr (.inl (3 : Nat))), .inr (.inr (.inl (148 : Nat)))], ([], [((3 : Nat), (8 : Int), (0 : Nat)), ((148 : Nat), (8 : Int), (100148 : Nat))], []), (zl1, [((3 : Nat), (8 : Int))]), [(.inr none, (245 : Nat), ([], [((3 : Nat), (8 : Int), (100148 : Nat))], []))])
set_option maxRecDepth 100000 in
theorem p2_s1720_s {X : Int → Int} {LX : Nat} : ck_Ok p2_O X LX 57 p2_s1720 := ck_okq (cuts := []) (f := 204) ⟨p2_nmu, ck_E1 (ck_S1 p2_s1714_s (ck_S1 p2_s1715_s (ck_S1 p2_s1716_s (ck_S1 p2_s1717_s (ck_S1 p2_s1718_s (ck_S1 p2_s1719_s ck_S0)))))) ck_E0⟩ (by decide +kernel)
set_option maxRecDepth 100000 in
/-- GlacierMail$Rows.copyFrom -/
noncomputable def p2_s1721 : ck_Sum := (((1 : Nat), (0 : Nat), (0 : Nat)), (245 : Nat), [.inr (.inr (.inl (4 : Nat))), .inr (.inr (.inl (162 : Nat)))], ([], [], []), ([((4 : Nat), (3 : Int), (3 : Int)), ((5 : Nat), (0 : Int), (55 : Int))], []), [(.inr none, (245 : Nat), ([], [], []))])
set_option maxRecDepth 100000 in
theorem p2_s1721_s {X : Int → Int} {LX : Nat} : ck_Ok p2_O X LX 58 p2_s1721 := ck_okq (cuts := []) (f := 114) ⟨p2_nmu, ck_E0⟩ (by decide +kernel)
set_option maxRecDepth 100000 in
/-- GlacierMail$Rows.copyFrom -/
noncomputable def p2_s1722 : ck_Sum := (((1 : Nat), (0 : Nat), (0 : Nat)), (245 : Nat), [.inr (.inr (.inl (6 : Nat))), .inr (.inr (.inl (164 : Nat)))], ([], [], []), ([((6 : Nat), (3 : Int), (3 : Int)), ((7 : Nat), (0 : Int), (23 : Int))], []), [(.inr none, (245 : Nat), ([], [], []))])
set_option maxRecDepth 100000 in
theorem p2_s1722_s {X : Int → Int} {LX : Nat} : ck_Ok p2_O X LX 58 p2_s1722 := ck_okq (cuts := []) (f := 114) ⟨p2_nmu, ck_E0⟩ (by decide +kernel)
set_option maxRecDepth 100000 in
/-- GlacierMail$Rows.copyFrom -/
noncomputable def p2_s1723 : ck_Sum := (((1 : Nat), (0 : Nat), (0 : Nat)), (245 : Nat), [.inr (.inr (.inl (8 : Nat))), .inr (.inr (.inl (166 : Nat)))], ([], [], []), ([((8 : Nat), (3 : Int), (3 : Int)), ((9 : Nat), (0 : Int), (23 : Int))], []), [(.inr none, (245 : Nat), ([], [], []))])
set_option maxRecDepth 100000 in
theorem p2_s1723_s {X : Int → Int} {LX : Nat} : ck_Ok p2_O X LX 58 p2_s1723 := ck_okq (cuts := []) (f := 114) ⟨p2_nmu, ck_E0⟩ (by decide +kernel)
set_option maxRecDepth 100000 in
/-- GlacierMail$Rows.copyFrom -/
noncomputable def p2_s1724 : ck_Sum := (((1 : Nat), (0 : Nat), (0 : Nat)), (245 : Nat), [.inr (.inr (.inl (10 : Nat))), .inr (.inr (.inl (168 : Nat)))], ([], [], []), ([((10 : Nat), (3 : Int), (3 : Int)), ((11 : Nat), (0 : Int), (167 : Int))], []), [(.inr none, (245 : Nat), ([], [], []))])
set_option maxRecDepth 100000 in
theorem p2_s1724_s {X : Int → Int} {LX : Nat} : ck_Ok p2_O X LX 58 p2_s1724 := ck_okq (cuts := []) (f := 114) ⟨p2_nmu, ck_E0⟩ (by decide +kernel)
set_option maxRecDepth 100000 in
/-- GlacierMail$Rows.copyFrom -/
noncomputable def p2_s1725 : ck_Sum := (((1 : Nat), (0 : Nat), (0 : Nat)), (245 : Nat), [.inr (.inr (.inl (12 : Nat))), .inr (.inr (.inl (170 : Nat)))], ([], [], []), ([((12 : Nat), (3 : Int), (3 : Int)), ((13 : Nat), (0 : Int), (35 : Int))], []), [(.inr none, (245 : Nat), ([], [], []))])
set_option maxRecDepth 100000 in
theorem p2_s1725_s {X : Int → Int} {LX : Nat} : ck_Ok p2_O X LX 58 p2_s1725 := ck_okq (cuts := []) (f := 114) ⟨p2_nmu, ck_E0⟩ (by decide +kernel)
set_option maxRecDepth 100000 in
/-- GlacierMail$Rows.copyFrom -/
noncomputable def p2_s1726 : ck_Sum := (((1 : Nat), (0 : Nat), (0 : Nat)), (245 : Nat), [.inr (.inr (.inl (14 : Nat))), .inr (.inr (.inl (172 : Nat)))], ([], [], []), ([((14 : Nat), (3 : Int), (3 : Int)), ((15 : Nat), (0 : Int), (71 : Int))], []), [(.inr none, (245 : Nat), ([], [], []))])
set_option maxRecDepth 100000 in
theorem p2_s1726_s {X : Int → Int} {LX : Nat} : ck_Ok p2_O X LX 58 p2_s1726 := ck_okq (cuts := []) (f := 114) ⟨p2_nmu, ck_E0⟩ (by decide +kernel)
set_option maxRecDepth 100000 in
/-- GlacierMail$State.copyFrom -/
noncomputable def p2_s1727 : ck_Sum := (((2 : Nat), (0 : Nat), (0 : Nat)), (245 : Nat), [.inr (.inr (.inl (3 : Nat))), .inr (.inr (.inl (161 : Nat)))], ([], [((3 : Nat), (8 : Int), (0 : Nat)), ((161 : Nat), (8 : Int), (100161 : Nat))], []), (zl1, [((3 : Nat), (8 : Int))]), [(.inr none, (245 : Nat), ([], [((3 : Nat), (8 : Int), (100161 : Nat))], []))])
set_option maxRecDepth 100000 in
theorem p2_s1727_s {X : Int → Int} {LX : Nat} : ck_Ok p2_O X LX 57 p2_s1727 := ck_okq (cuts := []) (f := 204) ⟨p2_nmu, ck_E1 (ck_S1 p2_s1721_s (ck_S1 p2_s1722_s (ck_S1 p2_s1723_s (ck_S1 p2_s1724_s (ck_S1 p2_s1725_s (ck_S1 p2_s1726_s ck_S0)))))) ck_E0⟩ (by decide +kernel)
set_option maxRecDepth 100000 in
/-- GlacierMail$Rows.copyFrom -/
noncomputable def p2_s1728 : ck_Sum := (((1 : Nat), (0 : Nat), (0 : Nat)), (245 : Nat), [.inr (.inr (.inl (4 : Nat))), .inr (.inr (.inl (175 : Nat)))], ([], [], []), ([((4 : Nat), (3 : Int), (3 : Int)), ((5 : Nat), (0 : Int), (55 : Int))], []), [(.inr none, (245 : Nat), ([], [], []))])
set_option maxRecDepth 100000 in
theorem p2_s1728_s {X : Int → Int} {LX : Nat} : ck_Ok p2_O X LX 58 p2_s1728 := ck_okq (cuts := []) (f := 114) ⟨p2_nmu, ck_E0⟩ (by decide +kernel)
set_option maxRecDepth 100000 in
/-- GlacierMail$Rows.copyFrom -/
noncomputable def p2_s1729 : ck_Sum := (((1 : Nat), (0 : Nat), (0 : Nat)), (245 : Nat), [.inr (.inr (.inl (6 : Nat))), .inr (.inr (.inl (177 : Nat)))], ([], [], []), ([((6 : Nat), (3 : Int), (3 : Int)), ((7 : Nat), (0 : Int), (23 : Int))], []), [(.inr none, (245 : Nat), ([], [], []))])
set_option maxRecDepth 100000 in
theorem p2_s1729_s {X : Int → Int} {LX : Nat} : ck_Ok p2_O X LX 58 p2_s1729 := ck_okq (cuts := []) (f := 114) ⟨p2_nmu, ck_E0⟩ (by decide +kernel)
set_option maxRecDepth 100000 in
/-- GlacierMail$Rows.copyFrom -/
noncomputable def p2_s1730 : ck_Sum := (((1 : Nat), (0 : Nat), (0 : Nat)), (245 : Nat), [.inr (.inr (.inl (8 : Nat))), .inr (.inr (.inl (179 : Nat)))], ([], [], []), ([((8 : Nat), (3 : Int), (3 : Int)), ((9 : Nat), (0 : Int), (23 : Int))], []), [(.inr none, (245 : Nat), ([], [], []))])
set_option maxRecDepth 100000 in
theorem p2_s1730_s {X : Int → Int} {LX : Nat} : ck_Ok p2_O X LX 58 p2_s1730 := ck_okq (cuts := []) (f := 114) ⟨p2_nmu, ck_E0⟩ (by decide +kernel)
set_option maxRecDepth 100000 in
/-- GlacierMail$Rows.copyFrom -/
noncomputable def p2_s1731 : ck_Sum := (((1 : Nat), (0 : Nat), (0 : Nat)), (245 : Nat), [.inr (.inr (.inl (10 : Nat))), .inr (.inr (.inl (181 : Nat)))], ([], [], []), ([((10 : Nat), (3 : Int), (3 : Int)), ((11 : Nat), (0 : Int), (167 : Int))], []), [(.inr none, (245 : Nat), ([], [], []))])
set_option maxRecDepth 100000 in
theorem p2_s1731_s {X : Int → Int} {LX : Nat} : ck_Ok p2_O X LX 58 p2_s1731 := ck_okq (cuts := []) (f := 114) ⟨p2_nmu, ck_E0⟩ (by decide +kernel)
set_option maxRecDepth 100000 in
/-- GlacierMail$Rows.copyFrom -/
noncomputable def p2_s1732 : ck_Sum := (((1 : Nat), (0 : Nat), (0 : Nat)), (245 : Nat), [.inr (.inr (.inl (12 : Nat))), .inr (.inr (.inl (183 : Nat)))], ([], [], []), ([((12 : Nat), (3 : Int), (3 : Int)), ((13 : Nat), (0 : Int), (35 : Int))], []), [(.inr none, (245 : Nat), ([], [], []))])
set_option maxRecDepth 100000 in
theorem p2_s1732_s {X : Int → Int} {LX : Nat} : ck_Ok p2_O X LX 58 p2_s1732 := ck_okq (cuts := []) (f := 114) ⟨p2_nmu, ck_E0⟩ (by decide +kernel)
set_option maxRecDepth 100000 in
/-- GlacierMail$Rows.copyFrom -/
noncomputable def p2_s1733 : ck_Sum := (((1 : Nat), (0 : Nat), (0 : Nat)), (245 : Nat), [.inr (.inr (.inl (14 : Nat))), .inr (.inr (.inl (185 : Nat)))], ([], [], []), ([((14 : Nat), (3 : Int), (3 : Int)), ((15 : Nat), (0 : Int), (71 : Int))], []), [(.inr none, (245 : Nat), ([], [], []))])
set_option maxRecDepth 100000 in
theorem p2_s1733_s {X : Int → Int} {LX : Nat} : ck_Ok p2_O X LX 58 p2_s1733 := ck_okq (cuts := []) (f := 114) ⟨p2_nmu, ck_E0⟩ (by decide +kernel)
set_option maxRecDepth 100000 in
/-- GlacierMail$State.copyFrom -/
noncomputable def p2_s1734 : ck_Sum := (((2 : Nat), (0 : Nat), (0 : Nat)), (245 : Nat), [.inr (.inr (.inl (3 : Nat))), .inr (.inr (.inl (174 : Nat)))], ([], [((3 : Nat), (8 : Int), (0 : Nat)), ((174 : Nat), (8 : Int), (100174 : Nat))], []), (zl1, [((3 : Nat), (8 : Int))]), [(.inr none, (245 : Nat), ([], [((3 : Nat), (8 : Int), (100174 : Nat))], []))])
set_option maxRecDepth 100000 in
theorem p2_s1734_s {X : Int → Int} {LX : Nat} : ck_Ok p2_O X LX 57 p2_s1734 := ck_okq (cuts := []) (f := 204) ⟨p2_nmu, ck_E1 (ck_S1 p2_s1728_s (ck_S1 p2_s1729_s (ck_S1 p2_s1730_s (ck_S1 p2_s1731_s (ck_S1 p2_s1732_s (ck_S1 p2_s1733_s ck_S0)))))) ck_E0⟩ (by decide +kernel)
set_option maxRecDepth 100000 in
/-- GlacierMail$Rows.copyFrom -/
noncomputable def p2_s1735 : ck_Sum := (((1 : Nat), (0 : Nat), (0 : Nat)), (245 : Nat), [.inr (.inr (.inl (4 : Nat))), .inr (.inr (.inl (188 : Nat)))], ([], [], []), ([((4 : Nat), (3 : Int), (3 : Int)), ((5 : Nat), (0 : Int), (55 : Int))], []), [(.inr none, (245 : Nat), ([], [], []))])
set_option maxRecDepth 100000 in
theorem p2_s1735_s {X : Int → Int} {LX : Nat} : ck_Ok p2_O X LX 58 p2_s1735 := ck_okq (cuts := []) (f := 114) ⟨p2_nmu, ck_E0⟩ (by decide +kernel)
set_option maxRecDepth 100000 in
/-- GlacierMail$Rows.copyFrom -/
noncomputable def p2_s1736 : ck_Sum := (((1 : Nat), (0 : Nat), (0 : Nat)), (245 : Nat), [.inr (.inr (.inl (6 : Nat))), .inr (.inr (.inl (190 : Nat)))], ([], [], []), ([((6 : Nat), (3 : Int), (3 : Int)), ((7 : Nat), (0 : Int), (23 : Int))], []), [(.inr none, (245 : Nat), ([], [], []))])
set_option maxRecDepth 100000 in
theorem p2_s1736_s {X : Int → Int} {LX : Nat} : ck_Ok p2_O X LX 58 p2_s1736 := ck_okq (cuts := []) (f := 114) ⟨p2_nmu, ck_E0⟩ (by decide +kernel)
set_option maxRecDepth 100000 in
/-- GlacierMail$Rows.copyFrom -/
noncomputable def p2_s1737 : ck_Sum := (((1 : Nat), (0 : Nat), (0 : Nat)), (245 : Nat), [.inr (.inr (.inl (8 : Nat))), .inr (.inr (.inl (192 : Nat)))], ([], [], []), ([((8 : Nat), (3 : Int), (3 : Int)), ((9 : Nat), (0 : Int), (23 : Int))], []), [(.inr none, (245 : Nat), ([], [], []))])
set_option maxRecDepth 100000 in
theorem p2_s1737_s {X : Int → Int} {LX : Nat} : ck_Ok p2_O X LX 58 p2_s1737 := ck_okq (cuts := []) (f := 114) ⟨p2_nmu, ck_E0⟩ (by decide +kernel)
set_option maxRecDepth 100000 in
/-- GlacierMail$Rows.copyFrom -/
noncomputable def p2_s1738 : ck_Sum := (((1 : Nat), (0 : Nat), (0 : Nat)), (245 : Nat), [.inr (.inr (.inl (10 : Nat))), .inr (.inr (.inl (194 : Nat)))], ([], [], []), ([((10 : Nat), (3 : Int), (3 : Int)), ((11 : Nat), (0 : Int), (167 : Int))], []), [(.inr none, (245 : Nat), ([], [], []))])
set_option maxRecDepth 100000 in
theorem p2_s1738_s {X : Int → Int} {LX : Nat} : ck_Ok p2_O X LX 58 p2_s1738 := ck_okq (cuts := []) (f := 114) ⟨p2_nmu, ck_E0⟩ (by decide +kernel)
set_option maxRecDepth 100000 in
/-- GlacierMail$Rows.copyFrom -/
noncomputable def p2_s1739 : ck_Sum := (((1 : Nat), (0 : Nat), (0 : Nat)), (245 : Nat), [.inr (.inr (.inl (12 : Nat))), .inr (.inr (.inl (196 : Nat)))], ([], [], []), ([((12 : Nat), (3 : Int), (3 : Int)), ((13 : Nat), (0 : Int), (35 : Int))], []), [(.inr none, (245 : Nat), ([], [], []))])
set_option maxRecDepth 100000 in
theorem p2_s1739_s {X : Int → Int} {LX : Nat} : ck_Ok p2_O X LX 58 p2_s1739 := ck_okq (cuts := []) (f := 114) ⟨p2_nmu, ck_E0⟩ (by decide +kernel)
set_option maxRecDepth 100000 in
/-- GlacierMail$Rows.copyFrom -/
noncomputable def p2_s1740 : ck_Sum := (((1 : Nat), (0 : Nat), (0 : Nat)), (245 : Nat), [.inr (.inr (.inl (14 : Nat))), .inr (.inr (.inl (198 : Nat)))], ([], [], []), ([((14 : Nat), (3 : Int), (3 : Int)), ((15 : Nat), (0 : Int), (71 : Int))], []), [(.inr none, (245 : Nat), ([], [], []))])
set_option maxRecDepth 100000 in
theorem p2_s1740_s {X : Int → Int} {LX : Nat} : ck_Ok p2_O X LX 58 p2_s1740 := ck_okq (cuts := []) (f := 114) ⟨p2_nmu, ck_E0⟩ (by decide +kernel)
set_option maxRecDepth 100000 in
/-- GlacierMail$State.copyFrom -/
noncomputable def p2_s1741 : ck_Sum := (((2 : Nat), (0 : Nat), (0 : Nat)), (245 : Nat), [.inr (.inr (.inl (3 : Nat))), .inr (.inr (.inl (187 : Nat)))], ([], [((3 : Nat), (8 : Int), (0 : Nat)), ((187 : Nat), (8 : Int), (100187 : Nat))], []), (zl1, [((3 : Nat), (8 : Int))]), [(.inr none, (245 : Nat), ([], [((3 : Nat), (8 : Int), (100187 : Nat))], []))])
set_option maxRecDepth 100000 in
theorem p2_s1741_s {X : Int → Int} {LX : Nat} : ck_Ok p2_O X LX 57 p2_s1741 := ck_okq (cuts := []) (f := 204) ⟨p2_nmu, ck_E1 (ck_S1 p2_s1735_s (ck_S1 p2_s1736_s (ck_S1 p2_s1737_s (ck_S1 p2_s1738_s (ck_S1 p2_s1739_s (ck_S1 p2_s1740_s ck_S0)))))) ck_E0⟩ (by decide +kernel)
set_option maxRecDepth 100000 in
/-- GlacierMail$History.takeBack -/
noncomputable def p2_s1742 : ck_Sum := (((3 : Nat), (0 : Nat), (0 : Nat)), (245 : Nat), [.inr (.inr (.inl (42 : Nat))), .inr (.inr (.inl (3 : Nat)))], ([], zl102, []), (zl208, [((3 : Nat), (8 : Int))]), [(.inr (some (.inl (ck_one 1))), (245 : Nat), ([], [((3 : Nat), (8 : Int), (100044 : Nat))], zl209)), (.inr (some (.inl (ck_one 1))), (245 : Nat), ([], [((3 : Nat), (8 : Int), (100057 : Nat))], zl209)), (.inr (some (.inl (ck_one 1))), (245 : Nat), ([], [((3 : Nat), (8 : Int), (100070 : Nat))], zl209)), (.inr (some (.inl (ck_one 1))), (245 : Nat), ([], [((3 : Nat), (8 : Int), (100083 : Nat))], zl209)), (.inr (some (.inl (ck_one 1))), (245 : Nat), ([], [((3 : Nat), (8 : Int), (100096 : Nat))], zl209)), (.inr (some (.inl (ck_one 1))), (245 : Nat), ([], [((3 : Nat), (8 : Int), (100109 : Nat))], zl209)), (.inr (some (.inl (ck_one 1))), (245 : Nat), ([], [((3 : Nat), (8 : Int), (100122 : Nat))], zl209)), (.inr (some (.inl (ck_one 1))), (245 : Nat), ([], [((3 : Nat), (8 : Int), (100135 : Nat))], zl209)), (.inr (some (.inl (ck_one 1))), (245 : Nat), ([], [((3 : Nat), (8 : Int), (100148 : Nat))], zl209)), (.inr (some (.inl (ck_one 1))), (245 : Nat), ([], [((3 : Nat), (8 : Int), (100161 : Nat))], zl209)), (.inr (some (.inl (ck_one 1))), (245 : Nat), ([], [((3 : Nat), (8 : Int), (100174 : Nat))], zl209)), (.inr (some (.inl (ck_one 1))), (245 : Nat), ([], [((3 : Nat), (8 : Int), (100187 : Nat))], zl209)), (.inr (some (.inl (ck_one 0))), (245 : Nat), ([], [((3 : Nat), (8 : Int), (0 : Nat))], [((42 : Nat), (2 : Int), (2 : Int), ck_one 0)]))])
set_option maxRecDepth 100000 in
theorem p2_s1742_s {X : Int → Int} {LX : Nat} : ck_Ok p2_O X LX 55 p2_s1742 := ck_okq (cuts := []) (f := 132) ⟨p2_nmu, ck_E1 (ck_S1 p2_s1657_s ck_S0) (ck_E1 (ck_S1 p2_s1664_s (ck_S1 p2_s1671_s (ck_S1 p2_s1678_s (ck_S1 p2_s1685_s (ck_S1 p2_s1692_s (ck_S1 p2_s1699_s (ck_S1 p2_s1706_s (ck_S1 p2_s1713_s (ck_S1 p2_s1720_s (ck_S1 p2_s1727_s (ck_S1 p2_s1734_s (ck_S1 p2_s1741_s ck_S0)))))))))))) ck_E0)⟩ (by decide +kernel)
set_option maxRecDepth 100000 in
/-- GlacierMail.undo -/
noncomputable def p2_s1743 : ck_Sum := (((4 : Nat), (0 : Nat), (0 : Nat)), (245 : Nat), [.inr (.inr (.inl (1 : Nat)))], ([], zl102, []), (zl210, [((3 : Nat), (8 : Int))]), [(.inr (some (.inl (ck_one 1))), (245 : Nat), ([], [((3 : Nat), (8 : Int), (100044 : Nat))], zl211)), (.inr (some (.inl (ck_one 0))), (245 : Nat), ([], [((3 : Nat), (8 : Int), (0 : Nat))], [((42 : Nat), (2 : Int), (2 : Int), ck_one 0), ((1 : Nat), (15 : Int), (15 : Int), ck_one 0)])), (.inr (some (.inl (ck_one 1))), (245 : Nat), ([], [((3 : Nat), (8 : Int), (100187 : Nat))], zl211)), (.inr (some (.inl (ck_one 1))), (245 : Nat), ([], [((3 : Nat), (8 : Int), (100174 : Nat))], zl211)), (.inr (some (.inl (ck_one 1))), (245 : Nat), ([], [((3 : Nat), (8 : Int), (100161 : Nat))], zl211)), (.inr (some (.inl (ck_one 1))), (245 : Nat), ([], [((3 : Nat), (8 : Int), (100148 : Nat))], zl211)), (.inr (some (.inl (ck_one 1))), (245 : Nat), ([], [((3 : Nat), (8 : Int), (100135 : Nat))], zl211)), (.inr (some (.inl (ck_one 1))), (245 : Nat), ([], [((3 : Nat), (8 : Int), (100122 : Nat))], zl211)), (.inr (some (.inl (ck_one 1))), (245 : Nat), ([], [((3 : Nat), (8 : Int), (100109 : Nat))], zl211)), (.inr (some (.inl (ck_one 1))), (245 : Nat), ([], [((3 : Nat), (8 : Int), (100096 : Nat))], zl211)), (.inr (some (.inl (ck_one 1))), (245 : Nat), ([], [((3 : Nat), (8 : Int), (100083 : Nat))], zl211)), (.inr (some (.inl (ck_one 1))), (245 : Nat), ([], [((3 : Nat), (8 : Int), (100070 : Nat))], zl211)), (.inr (some (.inl (ck_one 1))), (245 : Nat), ([], [((3 : Nat), (8 : Int), (100057 : Nat))], zl211))])
set_option maxRecDepth 100000 in
theorem p2_s1743_s {X : Int → Int} {LX : Nat} : ck_Ok p2_O X LX 54 p2_s1743 := ck_okq (cuts := []) (f := 88) ⟨p2_nmu, ck_E1 (ck_S1 p2_s1742_s ck_S0) ck_E0⟩ (by decide +kernel)
set_option maxRecDepth 100000 in
/-- GlacierMailModel.undo -/
noncomputable def p2_s1744 : ck_Sum := (((0 : Nat), (0 : Nat), (0 : Nat)), (245 : Nat), [.inr (.inr (.inl (226 : Nat)))], ([], [], [((227 : Nat), (2 : Int), (2 : Int), ((0 : Int), (8 : Int), [((20 : Nat), (0 : Int))])), ((227 : Nat), (3 : Int), (3 : Int), ((0 : Int), (8 : Int), [((21 : Nat), (0 : Int))])), ((227 : Nat), (4 : Int), (4 : Int), ((0 : Int), (24 : Int), [((22 : Nat), (0 : Int))])), ((227 : Nat), (5 : Int), (5 : Int), ((0 : Int), (8 : Int), [((23 : Nat), (0 : Int))])), ((227 : Nat), (6 : Int), (6 : Int), ((0 : Int), (6 : Int), [((24 : Nat), (0 : Int))])), ((227 : Nat), (7 : Int), (7 : Int), ((0 : Int), (12 : Int), [((25 : Nat), (0 : Int))])), ((227 : Nat), (14 : Int), (14 : Int), ((0 : Int), (24 : Int), [((26 : Nat), (0 : Int))])), ((226 : Nat), (6 : Int), (6 : Int), ((0 : Int), (12 : Int), [((27 : Nat), (0 : Int))])), ((227 : Nat), (9 : Int), (9 : Int), ((0 : Int), (299 : Int), [((11 : Nat), (0 : Int))]))]), ([((226 : Nat), (0 : Int), (0 : Int)), ((226 : Nat), (6 : Int), (6 : Int)), ((227 : Nat), (0 : Int), (394 : Int))], []), [(.inr (some (.inl (ck_one 0))), (245 : Nat), ([], [], [((226 : Nat), (6 : Int), (6 : Int), ((0 : Int), (0 : Int), [((27 : Nat), (0 : Int))])), ((226 : Nat), (0 : Int), (0 : Int), ck_one 0), ((227 : Nat), (2 : Int), (2 : Int), ((0 : Int), (8 : Int), [((20 : Nat), (0 : Int))])), ((227 : Nat), (3 : Int), (3 : Int), ((0 : Int), (8 : Int), [((21 : Nat), (0 : Int))])), ((227 : Nat), (4 : Int), (4 : Int), ((0 : Int), (24 : Int), [((22 : Nat), (0 : Int))])), ((227 : Nat), (5 : Int), (5 : Int), ((0 : Int), (8 : Int), [((23 : Nat), (0 : Int))])), ((227 : Nat), (6 : Int), (6 : Int), ((0 : Int), (6 : Int), [((24 : Nat), (0 : Int))])), ((227 : Nat), (7 : Int), (7 : Int), ((0 : Int), (12 : Int), [((25 : Nat), (0 : Int))])), ((227 : Nat), (14 : Int), (14 : Int), ((0 : Int), (24 : Int), [((26 : Nat), (0 : Int))])), ((227 : Nat), (9 : Int), (9 : Int), ((0 : Int), (299 : Int), [((11 : Nat), (0 : Int))]))])), (.inr (some (.inl (ck_one 1))), (245 : Nat), ([], [], [((226 : Nat), (6 : Int), (6 : Int), ((0 : Int), (11 : Int), [((27 : Nat), (-1 : Int))])), ((226 : Nat), (0 : Int), (0 : Int), ck_one 0)]))])
noncomputable def p2_s1744_E : List (Nat × List ck_Sum) := []
set_option maxRecDepth 100000 in
noncomputable def p2_s1744_C26 : ck_C := ([some (.inr (.inr (.inl (226 : Nat)))), some (.inl (ck_one 0))], ([], [], [((226 : Nat), (6 : Int), (6 : Int), ((0 : Int), (11 : Int), [((27 : Nat), (-1 : Int))])), ((226 : Nat), (0 : Int), (0 : Int), ck_one 0), ((227 : Nat), (2 : Int), (2 : Int), ((0 : Int), (8 : Int), [((20 : Nat), (0 : Int))])), ((227 : Nat), (3 : Int), (3 : Int), ((0 : Int), (8 : Int), [((21 : Nat), (0 : Int))])), ((227 : Nat), (4 : Int), (4 : Int), ((0 : Int), (24 : Int), [((22 : Nat), (0 : Int))])), ((227 : Nat), (5 : Int), (5 : Int), ((0 : Int), (8 : Int), [((23 : Nat), (0 : Int))])), ((227 : Nat), (6 : Int), (6 : Int), ((0 : Int), (6 : Int), [((24 : Nat), (0 : Int))])), ((227 : Nat), (7 : Int), (7 : Int), ((0 : Int), (12 : Int), [((25 : Nat), (0 : Int))])), ((227 : Nat), (14 : Int), (14 : Int), ((0 : Int), (24 : Int), [((26 : Nat), (0 : Int))])), ((227 : Nat), (9 : Int), (9 : Int), ((0 : Int), (299 : Int), [((11 : Nat), (0 : Int))]))]), (0 : Nat), .inl (1 : Nat), true)
set_option maxRecDepth 100000 in
noncomputable def p2_s1744_Z : List (Nat × ck_C) := [((26 : Nat), p2_s1744_C26)]
set_option maxRecDepth 100000 in
theorem p2_s1744_a : (decide (p2_s1744.2.2.1.length ≤ gm_ml 238) && ck_go p2_O none [] p2_s1744_E 238 p2_s1744.1.1 p2_s1744.2.1 p2_s1744.2.2.2.2.1 p2_s1744.2.2.2.2.2 p2_s1744_Z 150 false [(26, p2_s1744_C26, 0, 0, 245)] p2_s1744.1.2.1 p2_s1744.1.2.2 0 (p2_s1744.2.2.1.map some ++ List.replicate (gm_ml 238 - p2_s1744.2.2.1.length) none) [] p2_s1744.2.1 p2_s1744.2.2.2.1) = true := by decide +kernel
theorem p2_s1744_u : ck_cu p2_s1744_Z = true := by decide +kernel
theorem p2_s1744_h {X : Int → Int} {LX : Nat} : ck_nmu p2_O ∧ ck_OkE p2_O X LX p2_s1744_E := ⟨p2_nmu, ck_E0⟩
set_option maxRecDepth 100000 in
theorem p2_s1744_g26 : ck_go p2_O none [] p2_s1744_E 238 p2_s1744.1.1 p2_s1744.2.1 p2_s1744.2.2.2.2.1 p2_s1744.2.2.2.2.2 p2_s1744_Z 150 false [] 0 0 60 (p2_s1744_C26.1.set 1 (some (.inl (ck_one 395)))) [] 245 (p2_s1744_C26.2.1.1, p2_s1744_C26.2.1.2.1, ck_cws [(227, 0, 394)] p2_s1744_C26.2.1.2.2) = true := by decide +kernel
theorem p2_s1744_y26 {X : Int → Int} {LX : Nat} {σ σ0 : Nat → Int} {K0 : gm_K} {R0 : gm_R} {M0 : gm_M} (hσ : ∀ s, s < 100 → σ s = σ0 s) : ck_Hy p2_O X LX 238 p2_s1744.1.1 p2_s1744.2.2.2.2.1 p2_s1744.2.1 K0 R0 M0 (ck_Q p2_O σ0 p2_s1744.2.2.2.2.1 p2_s1744.2.1 K0 R0 M0 p2_s1744.2.2.2.2.2) σ (26, p2_s1744_C26, 0, 0, 245) := by
  refine ck_cpH (v := 1) (A := 227) (B := 230) (N := 395) (wa := 0) (wb := 394) (pc' := 60) p2_s1744_u p2_s1744_h hσ ⟨by decide, by decide⟩ (by decide +kernel) (fun bc bs L K R M hS => ?_) p2_s1744_g26 (fun _ h => nomatch h)
  · obtain ⟨hF, hl, -, hf, -⟩ := hS
    obtain ⟨u0, l0, g0⟩ := hl.2 0 (.inr (.inr (.inl 226))) rfl
    cases g0
    obtain ⟨u1, lv, x1, rfl, -, e1, e2, -⟩ := hl.2 1 (.inl (ck_one 0)) rfl
    have e1 : (0 : Int) ≤ x1 := e1
    have e2 : x1 ≤ (0 : Int) := e2
    have e3 : x1 = 0 := by omega
    subst e3
    have h6 := (ck_fi_s hf (show ck_fi p2_s1744_C26.2.1 226 6 6 = some (0, 11, [(27, (-1))]) by decide +kernel)).2 6 (Int.le_refl _) (Int.le_refl _)
    have h61 : (0 : Int) ≤ M 226 6 := h6.2.1
    have h62 : M 226 6 ≤ (11 : Int) := h6.2.2.1
    have h63 : M 226 ((6 : Nat) : Int) = M 226 6 := rfl
    have kA : (K 227).2 = 2093 := (md_kd hF md_o.1.2).2
    have kB : (K 230).2 = 4740 := (md_kd hF md_o.2.2).2
    refine ⟨0, 395 * M 226 ((6 : Nat) : Int), ⟨by omega, by omega⟩, gm_Fx_cpy hF (md_un hF ⟨by omega, by omega⟩) (jj_undo (K := K) hF.2.2.2.2 ⟨by omega, by omega⟩), fun Q hx => ?_⟩
    exact cp_lp (iv := .iload_n 1) (v := 1) (ixA := 13) (ixB := 23) (jA := 1) (jB := 4) (A := 227) (B := 230) (mo := 226) (p := 26) (qA := 38) (qB := 52) (N := 395) (offe := 30) (offb := (-31)) (by decide) (md_mo hF) (md_kd hF md_o.1.2).1 (md_kd hF md_o.2.2).1 (md_rf hF md_r.1.1) (md_rf hF md_r.2.2) (by decide +kernel) (by decide +kernel) (by decide +kernel) (by decide +kernel) ⟨by omega, ⟨by omega, by omega⟩, ⟨by omega, by omega⟩, by omega, by omega⟩ (fun e => absurd e (by decide)) (by decide) (by decide +kernel) l0 lv ⟨rfl, rfl⟩ ⟨gm_vr 226, l0, by simp [gm_sort]⟩ (by decide +kernel) (by decide +kernel) (by decide +kernel) (by decide) (by decide +kernel) (by decide +kernel) (cp_sg_i (iv := .iload_n 1) lv ⟨rfl, rfl⟩ (by decide +kernel)) (by decide +kernel) (by decide +kernel) (cp_sg_cr (iv := .iload_n 1) (c := 395) (ix := 79) (j := 6) (by decide) l0 lv ⟨rfl, rfl⟩ (by decide +kernel) (md_mo hF) (by decide +kernel) (by decide +kernel) (by decide +kernel) (by decide +kernel) (by decide +kernel) (by decide +kernel) (by decide +kernel) (by decide +kernel)) (by decide +kernel) (by decide +kernel) (by decide +kernel) (by decide +kernel) (by decide) (by decide) hx
theorem p2_s1744_s {X : Int → Int} {LX : Nat} : ck_Ok p2_O X LX 238 p2_s1744 := by
  refine ck_ok_st (cuts := p2_s1744_Z) p2_s1744_u p2_s1744_h p2_s1744_a (fun h hm => ?_)
  rcases List.mem_cons.mp hm with rfl | hm
  · exact ⟨by unfold p2_s1744_Z; exact List.mem_cons_self, fun σ K0 R0 M0 => p2_s1744_y26 (fun _ _ => rfl)⟩
  cases hm
set_option maxRecDepth 100000 in
/-- GlacierMail$Rows.copyFrom -/
noncomputable def p2_s1745 : ck_Sum := (((1 : Nat), (0 : Nat), (0 : Nat)), (245 : Nat), [.inr (.inr (.inl (30 : Nat))), .inr (.inr (.inl (4 : Nat)))], ([], [], []), ([((30 : Nat), (3 : Int), (3 : Int)), ((31 : Nat), (0 : Int), (55 : Int))], []), [(.inr none, (245 : Nat), ([], [], []))])
set_option maxRecDepth 100000 in
theorem p2_s1745_s {X : Int → Int} {LX : Nat} : ck_Ok p2_O X LX 58 p2_s1745 := ck_okq (cuts := []) (f := 114) ⟨p2_nmu, ck_E0⟩ (by decide +kernel)
set_option maxRecDepth 100000 in
/-- GlacierMail$Rows.copyFrom -/
noncomputable def p2_s1746 : ck_Sum := (((1 : Nat), (0 : Nat), (0 : Nat)), (245 : Nat), [.inr (.inr (.inl (32 : Nat))), .inr (.inr (.inl (6 : Nat)))], ([], [], []), ([((32 : Nat), (3 : Int), (3 : Int)), ((33 : Nat), (0 : Int), (23 : Int))], []), [(.inr none, (245 : Nat), ([], [], []))])
set_option maxRecDepth 100000 in
theorem p2_s1746_s {X : Int → Int} {LX : Nat} : ck_Ok p2_O X LX 58 p2_s1746 := ck_okq (cuts := []) (f := 114) ⟨p2_nmu, ck_E0⟩ (by decide +kernel)
set_option maxRecDepth 100000 in
/-- GlacierMail$Rows.copyFrom -/
noncomputable def p2_s1747 : ck_Sum := (((1 : Nat), (0 : Nat), (0 : Nat)), (245 : Nat), [.inr (.inr (.inl (34 : Nat))), .inr (.inr (.inl (8 : Nat)))], ([], [], []), ([((34 : Nat), (3 : Int), (3 : Int)), ((35 : Nat), (0 : Int), (23 : Int))], []), [(.inr none, (245 : Nat), ([], [], []))])
set_option maxRecDepth 100000 in
theorem p2_s1747_s {X : Int → Int} {LX : Nat} : ck_Ok p2_O X LX 58 p2_s1747 := ck_okq (cuts := []) (f := 114) ⟨p2_nmu, ck_E0⟩ (by decide +kernel)
set_option maxRecDepth 100000 in
/-- GlacierMail$Rows.copyFrom -/
noncomputable def p2_s1748 : ck_Sum := (((1 : Nat), (0 : Nat), (0 : Nat)), (245 : Nat), [.inr (.inr (.inl (36 : Nat))), .inr (.inr (.inl (10 : Nat)))], ([], [], []), ([((36 : Nat), (3 : Int), (3 : Int)), ((37 : Nat), (0 : Int), (167 : Int))], []), [(.inr none, (245 : Nat), ([], [], []))])
set_option maxRecDepth 100000 in
theorem p2_s1748_s {X : Int → Int} {LX : Nat} : ck_Ok p2_O X LX 58 p2_s1748 := ck_okq (cuts := []) (f := 114) ⟨p2_nmu, ck_E0⟩ (by decide +kernel)
set_option maxRecDepth 100000 in
/-- GlacierMail$Rows.copyFrom -/
noncomputable def p2_s1749 : ck_Sum := (((1 : Nat), (0 : Nat), (0 : Nat)), (245 : Nat), [.inr (.inr (.inl (38 : Nat))), .inr (.inr (.inl (12 : Nat)))], ([], [], []), ([((38 : Nat), (3 : Int), (3 : Int)), ((39 : Nat), (0 : Int), (35 : Int))], []), [(.inr none, (245 : Nat), ([], [], []))])
set_option maxRecDepth 100000 in
theorem p2_s1749_s {X : Int → Int} {LX : Nat} : ck_Ok p2_O X LX 58 p2_s1749 := ck_okq (cuts := []) (f := 114) ⟨p2_nmu, ck_E0⟩ (by decide +kernel)
set_option maxRecDepth 100000 in
/-- GlacierMail$Rows.copyFrom -/
noncomputable def p2_s1750 : ck_Sum := (((1 : Nat), (0 : Nat), (0 : Nat)), (245 : Nat), [.inr (.inr (.inl (40 : Nat))), .inr (.inr (.inl (14 : Nat)))], ([], [], []), ([((40 : Nat), (3 : Int), (3 : Int)), ((41 : Nat), (0 : Int), (71 : Int))], []), [(.inr none, (245 : Nat), ([], [], []))])
set_option maxRecDepth 100000 in
theorem p2_s1750_s {X : Int → Int} {LX : Nat} : ck_Ok p2_O X LX 58 p2_s1750 := ck_okq (cuts := []) (f := 114) ⟨p2_nmu, ck_E0⟩ (by decide +kernel)
set_option maxRecDepth 100000 in
/-- GlacierMail$State.copyFrom -/
noncomputable def p2_s1751 : ck_Sum := (((2 : Nat), (0 : Nat), (0 : Nat)), (245 : Nat), [.inr (.inr (.inl (29 : Nat))), .inr (.inr (.inl (3 : Nat)))], ([], [((3 : Nat), (8 : Int), (0 : Nat)), ((29 : Nat), (8 : Int), (100029 : Nat))], [((3 : Nat), (6 : Int), (6 : Int), ((0 : Int), (299 : Int), [((10 : Nat), (0 : Int))]))]), (zl212, [((29 : Nat), (8 : Int))]), [(.inr none, (245 : Nat), ([], [((29 : Nat), (8 : Int), (0 : Nat))], [((29 : Nat), (6 : Int), (6 : Int), ((0 : Int), (299 : Int), [((10 : Nat), (0 : Int))]))]))])
set_option maxRecDepth 100000 in
theorem p2_s1751_s {X : Int → Int} {LX : Nat} : ck_Ok p2_O X LX 57 p2_s1751 := ck_okq (cuts := []) (f := 204) ⟨p2_nmu, ck_E1 (ck_S1 p2_s1745_s (ck_S1 p2_s1746_s (ck_S1 p2_s1747_s (ck_S1 p2_s1748_s (ck_S1 p2_s1749_s (ck_S1 p2_s1750_s ck_S0)))))) ck_E0⟩ (by decide +kernel)
set_option maxRecDepth 100000 in
/-- GlacierMail.image -/
noncomputable def p2_s1752 : ck_Sum := (((3 : Nat), (0 : Nat), (0 : Nat)), (245 : Nat), [.inr (.inr (.inl (1 : Nat)))], ([], [((3 : Nat), (8 : Int), (0 : Nat)), ((29 : Nat), (8 : Int), (100029 : Nat))], [((3 : Nat), (6 : Int), (6 : Int), ((0 : Int), (299 : Int), [((10 : Nat), (0 : Int))]))]), (zl213, [((29 : Nat), (8 : Int))]), [(.inr none, (245 : Nat), ([], [((29 : Nat), (8 : Int), (0 : Nat))], zl214))])
set_option maxRecDepth 100000 in
theorem p2_s1752_s {X : Int → Int} {LX : Nat} : ck_Ok p2_O X LX 59 p2_s1752 := ck_okq (cuts := []) (f := 88) ⟨p2_nmu, ck_E1 (ck_S1 p2_s1751_s ck_S0) ck_E0⟩ (by decide +kernel)
set_option maxRecDepth 100000 in
/-- GlacierMailModel.image -/
noncomputable def p2_s1753 : ck_Sum := (((0 : Nat), (0 : Nat), (0 : Nat)), (245 : Nat), [.inr (.inr (.inl (226 : Nat)))], ([], [], [((226 : Nat), (5 : Int), (5 : Int), ((0 : Int), (1 : Int), [((8 : Nat), (0 : Int))]))]), ([((226 : Nat), (0 : Int), (0 : Int)), ((226 : Nat), (5 : Int), (5 : Int)), ((228 : Nat), (0 : Int), (1243 : Int))], []), [(.inr none, (245 : Nat), ([], [], [((226 : Nat), (5 : Int), (5 : Int), ck_one 1), ((226 : Nat), (0 : Int), (0 : Int), ck_one 0)]))])
noncomputable def p2_s1753_E : List (Nat × List ck_Sum) := []
set_option maxRecDepth 100000 in
noncomputable def p2_s1753_C7 : ck_C := ([some (.inr (.inr (.inl (226 : Nat)))), some (.inl (ck_one 0))], ([], [], [((226 : Nat), (0 : Int), (0 : Int), ck_one 0), ((226 : Nat), (5 : Int), (5 : Int), ((0 : Int), (1 : Int), [((8 : Nat), (0 : Int))]))]), (0 : Nat), .inl (1 : Nat), true)
set_option maxRecDepth 100000 in
noncomputable def p2_s1753_Z : List (Nat × ck_C) := [((7 : Nat), p2_s1753_C7)]
set_option maxRecDepth 100000 in
theorem p2_s1753_a : (decide (p2_s1753.2.2.1.length ≤ gm_ml 236) && ck_go p2_O none [] p2_s1753_E 236 p2_s1753.1.1 p2_s1753.2.1 p2_s1753.2.2.2.2.1 p2_s1753.2.2.2.2.2 p2_s1753_Z 114 false [(7, p2_s1753_C7, 0, 0, 245)] p2_s1753.1.2.1 p2_s1753.1.2.2 0 (p2_s1753.2.2.1.map some ++ List.replicate (gm_ml 236 - p2_s1753.2.2.1.length) none) [] p2_s1753.2.1 p2_s1753.2.2.2.1) = true := by decide +kernel
theorem p2_s1753_u : ck_cu p2_s1753_Z = true := by decide +kernel
theorem p2_s1753_h {X : Int → Int} {LX : Nat} : ck_nmu p2_O ∧ ck_OkE p2_O X LX p2_s1753_E := ⟨p2_nmu, ck_E0⟩
set_option maxRecDepth 100000 in
theorem p2_s1753_g7 : ck_go p2_O none [] p2_s1753_E 236 p2_s1753.1.1 p2_s1753.2.1 p2_s1753.2.2.2.2.1 p2_s1753.2.2.2.2.2 p2_s1753_Z 114 false [] 0 0 32 (p2_s1753_C7.1.set 1 (some (.inl (ck_one 1244)))) [] 245 (p2_s1753_C7.2.1.1, p2_s1753_C7.2.1.2.1, ck_cws [(228, 0, 1243)] p2_s1753_C7.2.1.2.2) = true := by decide +kernel
set_option maxRecDepth 100000 in
theorem p2_s1753_t7 : cp_tc p2_O 228 227 0 0 1244 = true := by decide +kernel
theorem p2_s1753_y7 {X : Int → Int} {LX : Nat} {σ σ0 : Nat → Int} {K0 : gm_K} {R0 : gm_R} {M0 : gm_M} (hσ : ∀ s, s < 100 → σ s = σ0 s) : ck_Hy p2_O X LX 236 p2_s1753.1.1 p2_s1753.2.2.2.2.1 p2_s1753.2.1 K0 R0 M0 (ck_Q p2_O σ0 p2_s1753.2.2.2.2.1 p2_s1753.2.1 K0 R0 M0 p2_s1753.2.2.2.2.2) σ (7, p2_s1753_C7, 0, 0, 245) := by
  refine ck_cpH (v := 1) (A := 228) (B := 227) (N := 1244) (wa := 0) (wb := 1243) (pc' := 32) p2_s1753_u p2_s1753_h hσ ⟨by decide, by decide⟩ (by decide +kernel) (fun bc bs L K R M hS => ?_) p2_s1753_g7 (fun _ h => nomatch h)
  · obtain ⟨hF, hl, -, hf, -⟩ := hS
    obtain ⟨u0, l0, g0⟩ := hl.2 0 (.inr (.inr (.inl 226))) rfl
    cases g0
    obtain ⟨u1, lv, x1, rfl, -, e1, e2, -⟩ := hl.2 1 (.inl (ck_one 0)) rfl
    have e1 : (0 : Int) ≤ x1 := e1
    have e2 : x1 ≤ (0 : Int) := e2
    have e3 : x1 = 0 := by omega
    subst e3
    have kA : (K 228).2 = 1244 := (md_kd hF md_o.2.1.1).2
    have kB : (K 227).2 = 2093 := (md_kd hF md_o.1.2).2
    refine ⟨0, 0, ⟨by omega, by omega⟩, gm_Fx_cpy hF (cp_tc_s hF p2_s1753_t7) (jj_image (K := K) hF.2.2.2.2), fun Q hx => ?_⟩
    exact cp_lp (iv := .iload_n 1) (v := 1) (ixA := 17) (ixB := 13) (jA := 2) (jB := 1) (A := 228) (B := 227) (mo := 226) (p := 7) (qA := 19) (qB := 24) (N := 1244) (offe := 21) (offb := (-22)) (by decide) (md_mo hF) (md_kd hF md_o.2.1.1).1 (md_kd hF md_o.1.2).1 (md_rf hF md_r.1.2) (md_rf hF md_r.1.1) (by decide +kernel) (by decide +kernel) (by decide +kernel) (by decide +kernel) ⟨by omega, ⟨by omega, by omega⟩, ⟨by omega, by omega⟩, by omega, by omega⟩ (fun e => absurd e (by decide)) (by decide) (by decide +kernel) l0 lv ⟨rfl, rfl⟩ ⟨gm_vr 226, l0, by simp [gm_sort]⟩ (by decide +kernel) (by decide +kernel) (by decide +kernel) (by decide) (by decide +kernel) (by decide +kernel) (cp_sg_i (iv := .iload_n 1) lv ⟨rfl, rfl⟩ (by decide +kernel)) (by decide +kernel) (by decide +kernel) (cp_sg_i (iv := .iload_n 1) lv ⟨rfl, rfl⟩ (by decide +kernel)) (by decide +kernel) (by decide +kernel) (by decide +kernel) (by decide +kernel) (by decide) (by decide) hx
theorem p2_s1753_s {X : Int → Int} {LX : Nat} : ck_Ok p2_O X LX 236 p2_s1753 := by
  refine ck_ok_st (cuts := p2_s1753_Z) p2_s1753_u p2_s1753_h p2_s1753_a (fun h hm => ?_)
  rcases List.mem_cons.mp hm with rfl | hm
  · exact ⟨by unfold p2_s1753_Z; exact List.mem_cons_self, fun σ K0 R0 M0 => p2_s1753_y7 (fun _ _ => rfl)⟩
  cases hm
set_option maxRecDepth 100000 in
/-- GlacierMail$Rows.copyFrom -/
noncomputable def p2_s1754 : ck_Sum := (((1 : Nat), (0 : Nat), (0 : Nat)), (245 : Nat), [.inr (.inr (.inl (4 : Nat))), .inr (.inr (.inl (30 : Nat)))], ([], [], []), ([((4 : Nat), (3 : Int), (3 : Int)), ((5 : Nat), (0 : Int), (55 : Int))], []), [(.inr none, (245 : Nat), ([], [], []))])
set_option maxRecDepth 100000 in
theorem p2_s1754_s {X : Int → Int} {LX : Nat} : ck_Ok p2_O X LX 58 p2_s1754 := ck_okq (cuts := []) (f := 114) ⟨p2_nmu, ck_E0⟩ (by decide +kernel)
set_option maxRecDepth 100000 in
/-- GlacierMail$Rows.copyFrom -/
noncomputable def p2_s1755 : ck_Sum := (((1 : Nat), (0 : Nat), (0 : Nat)), (245 : Nat), [.inr (.inr (.inl (6 : Nat))), .inr (.inr (.inl (32 : Nat)))], ([], [], []), ([((6 : Nat), (3 : Int), (3 : Int)), ((7 : Nat), (0 : Int), (23 : Int))], []), [(.inr none, (245 : Nat), ([], [], []))])
set_option maxRecDepth 100000 in
theorem p2_s1755_s {X : Int → Int} {LX : Nat} : ck_Ok p2_O X LX 58 p2_s1755 := ck_okq (cuts := []) (f := 114) ⟨p2_nmu, ck_E0⟩ (by decide +kernel)
set_option maxRecDepth 100000 in
/-- GlacierMail$Rows.copyFrom -/
noncomputable def p2_s1756 : ck_Sum := (((1 : Nat), (0 : Nat), (0 : Nat)), (245 : Nat), [.inr (.inr (.inl (8 : Nat))), .inr (.inr (.inl (34 : Nat)))], ([], [], []), ([((8 : Nat), (3 : Int), (3 : Int)), ((9 : Nat), (0 : Int), (23 : Int))], []), [(.inr none, (245 : Nat), ([], [], []))])
set_option maxRecDepth 100000 in
theorem p2_s1756_s {X : Int → Int} {LX : Nat} : ck_Ok p2_O X LX 58 p2_s1756 := ck_okq (cuts := []) (f := 114) ⟨p2_nmu, ck_E0⟩ (by decide +kernel)
set_option maxRecDepth 100000 in
/-- GlacierMail$Rows.copyFrom -/
noncomputable def p2_s1757 : ck_Sum := (((1 : Nat), (0 : Nat), (0 : Nat)), (245 : Nat), [.inr (.inr (.inl (10 : Nat))), .inr (.inr (.inl (36 : Nat)))], ([], [], []), ([((10 : Nat), (3 : Int), (3 : Int)), ((11 : Nat), (0 : Int), (167 : Int))], []), [(.inr none, (245 : Nat), ([], [], []))])
set_option maxRecDepth 100000 in
theorem p2_s1757_s {X : Int → Int} {LX : Nat} : ck_Ok p2_O X LX 58 p2_s1757 := ck_okq (cuts := []) (f := 114) ⟨p2_nmu, ck_E0⟩ (by decide +kernel)
end
/-! 78r80a22.sf -/
section
/-! EVERY CALL ENDS, whatever was done before (laid by wip/am/p2k.py). -/
set_option maxRecDepth 100000 in
/-- GlacierMail$Rows.copyFrom -/
noncomputable def p2_s1758 : ck_Sum := (((1 : Nat), (0 : Nat), (0 : Nat)), (245 : Nat), [.inr (.inr (.inl (12 : Nat))), .inr (.inr (.inl (38 : Nat)))], ([], [], []), ([((12 : Nat), (3 : Int), (3 : Int)), ((13 : Nat), (0 : Int), (35 : Int))], []), [(.inr none, (245 : Nat), ([], [], []))])
set_option maxRecDepth 100000 in
theorem p2_s1758_s {X : Int → Int} {LX : Nat} : ck_Ok p2_O X LX 58 p2_s1758 := ck_okq (cuts := []) (f := 114) ⟨p2_nmu, ck_E0⟩ (by decide +kernel)
set_option maxRecDepth 100000 in
/-- GlacierMail$Rows.copyFrom -/
noncomputable def p2_s1759 : ck_Sum := (((1 : Nat), (0 : Nat), (0 : Nat)), (245 : Nat), [.inr (.inr (.inl (14 : Nat))), .inr (.inr (.inl (40 : Nat)))], ([], [], []), ([((14 : Nat), (3 : Int), (3 : Int)), ((15 : Nat), (0 : Int), (71 : Int))], []), [(.inr none, (245 : Nat), ([], [], []))])
set_option maxRecDepth 100000 in
theorem p2_s1759_s {X : Int → Int} {LX : Nat} : ck_Ok p2_O X LX 58 p2_s1759 := ck_okq (cuts := []) (f := 114) ⟨p2_nmu, ck_E0⟩ (by decide +kernel)
set_option maxRecDepth 100000 in
/-- GlacierMail$State.copyFrom -/
noncomputable def p2_s1760 : ck_Sum := (((2 : Nat), (0 : Nat), (0 : Nat)), (245 : Nat), [.inr (.inr (.inl (3 : Nat))), .inr (.inr (.inl (29 : Nat)))], ([], [((3 : Nat), (8 : Int), (0 : Nat)), ((29 : Nat), (8 : Int), (100029 : Nat))], []), (zl1, [((3 : Nat), (8 : Int))]), [(.inr none, (245 : Nat), ([], [((3 : Nat), (8 : Int), (100029 : Nat))], []))])
set_option maxRecDepth 100000 in
theorem p2_s1760_s {X : Int → Int} {LX : Nat} : ck_Ok p2_O X LX 57 p2_s1760 := ck_okq (cuts := []) (f := 204) ⟨p2_nmu, ck_E1 (ck_S1 p2_s1754_s (ck_S1 p2_s1755_s (ck_S1 p2_s1756_s (ck_S1 p2_s1757_s (ck_S1 p2_s1758_s (ck_S1 p2_s1759_s ck_S0)))))) ck_E0⟩ (by decide +kernel)
set_option maxRecDepth 100000 in
/-- GlacierMail.back -/
noncomputable def p2_s1761 : ck_Sum := (((4 : Nat), (0 : Nat), (0 : Nat)), (245 : Nat), [.inr (.inr (.inl (1 : Nat)))], ([], [((3 : Nat), (8 : Int), (0 : Nat)), ((29 : Nat), (8 : Int), (100029 : Nat))], [((1 : Nat), (6 : Int), (6 : Int), ((0 : Int), (1 : Int), [((9 : Nat), (0 : Int))]))]), (zl215, [((3 : Nat), (8 : Int))]), [(.inr (some (.inl (ck_one 1))), (245 : Nat), ([], [((3 : Nat), (8 : Int), (100029 : Nat))], zl216)), (.inr (some (.inl (ck_one 0))), (245 : Nat), ([], [((3 : Nat), (8 : Int), (0 : Nat))], [((1 : Nat), (6 : Int), (6 : Int), ((0 : Int), (0 : Int), [((9 : Nat), (0 : Int))]))]))])
set_option maxRecDepth 100000 in
theorem p2_s1761_s {X : Int → Int} {LX : Nat} : ck_Ok p2_O X LX 60 p2_s1761 := ck_okq (cuts := []) (f := 94) ⟨p2_nmu, ck_E1 (ck_S1 p2_s1760_s ck_S0) (ck_E1 (ck_S1 p2_s144_s ck_S0) ck_E0)⟩ (by decide +kernel)
set_option maxRecDepth 100000 in
/-- GlacierMailModel.back -/
noncomputable def p2_s1762 : ck_Sum := (((1 : Nat), (0 : Nat), (0 : Nat)), (245 : Nat), [.inr (.inr (.inl (226 : Nat)))], ([], [], [((227 : Nat), (2 : Int), (2 : Int), ((0 : Int), (8 : Int), [((20 : Nat), (0 : Int))])), ((227 : Nat), (3 : Int), (3 : Int), ((0 : Int), (8 : Int), [((21 : Nat), (0 : Int))])), ((227 : Nat), (4 : Int), (4 : Int), ((0 : Int), (24 : Int), [((22 : Nat), (0 : Int))])), ((227 : Nat), (5 : Int), (5 : Int), ((0 : Int), (8 : Int), [((23 : Nat), (0 : Int))])), ((227 : Nat), (6 : Int), (6 : Int), ((0 : Int), (6 : Int), [((24 : Nat), (0 : Int))])), ((227 : Nat), (7 : Int), (7 : Int), ((0 : Int), (12 : Int), [((25 : Nat), (0 : Int))])), ((227 : Nat), (14 : Int), (14 : Int), ((0 : Int), (24 : Int), [((26 : Nat), (0 : Int))])), ((226 : Nat), (6 : Int), (6 : Int), ((0 : Int), (12 : Int), [((27 : Nat), (0 : Int))])), ((226 : Nat), (5 : Int), (5 : Int), ((0 : Int), (1 : Int), [((8 : Nat), (0 : Int))])), ((227 : Nat), (9 : Int), (9 : Int), ((0 : Int), (299 : Int), [((11 : Nat), (0 : Int))]))]), ([((226 : Nat), (0 : Int), (0 : Int)), ((226 : Nat), (6 : Int), (6 : Int)), ((226 : Nat), (26 : Int), (26 : Int)), ((227 : Nat), (0 : Int), (1243 : Int)), ((234 : Nat), (0 : Int), (299 : Int))], []), [(.inr (some (.inl (ck_one 0))), (245 : Nat), ([], [], [((226 : Nat), (5 : Int), (5 : Int), ((0 : Int), (0 : Int), [((8 : Nat), (0 : Int))])), ((226 : Nat), (0 : Int), (0 : Int), ck_one 0), ((227 : Nat), (2 : Int), (2 : Int), ((0 : Int), (8 : Int), [((20 : Nat), (0 : Int))])), ((227 : Nat), (3 : Int), (3 : Int), ((0 : Int), (8 : Int), [((21 : Nat), (0 : Int))])), ((227 : Nat), (4 : Int), (4 : Int), ((0 : Int), (24 : Int), [((22 : Nat), (0 : Int))])), ((227 : Nat), (5 : Int), (5 : Int), ((0 : Int), (8 : Int), [((23 : Nat), (0 : Int))])), ((227 : Nat), (6 : Int), (6 : Int), ((0 : Int), (6 : Int), [((24 : Nat), (0 : Int))])), ((227 : Nat), (7 : Int), (7 : Int), ((0 : Int), (12 : Int), [((25 : Nat), (0 : Int))])), ((227 : Nat), (14 : Int), (14 : Int), ((0 : Int), (24 : Int), [((26 : Nat), (0 : Int))])), ((226 : Nat), (6 : Int), (6 : Int), ((0 : Int), (12 : Int), [((27 : Nat), (0 : Int))])), ((227 : Nat), (9 : Int), (9 : Int), ((0 : Int), (299 : Int), [((11 : Nat), (0 : Int))]))])), (.inr (some (.inl (ck_one 1))), (245 : Nat), ([], [], [((226 : Nat), (26 : Int), (26 : Int), ck_one (-1)), ((226 : Nat), (6 : Int), (6 : Int), ck_one 0), ((226 : Nat), (5 : Int), (5 : Int), ((1 : Int), (1 : Int), [((8 : Nat), (0 : Int))])), ((226 : Nat), (0 : Int), (0 : Int), ck_one 0)]))])
noncomputable def p2_s1762_E : List (Nat × List ck_Sum) := [((235 : Nat), [p2_s245])]
set_option maxRecDepth 100000 in
noncomputable def p2_s1762_C16 : ck_C := ([some (.inr (.inr (.inl (226 : Nat)))), some (.inl (ck_one 0))], ([], [], [((226 : Nat), (5 : Int), (5 : Int), ((1 : Int), (1 : Int), [((8 : Nat), (0 : Int))])), ((226 : Nat), (0 : Int), (0 : Int), ck_one 0), ((227 : Nat), (2 : Int), (2 : Int), ((0 : Int), (8 : Int), [((20 : Nat), (0 : Int))])), ((227 : Nat), (3 : Int), (3 : Int), ((0 : Int), (8 : Int), [((21 : Nat), (0 : Int))])), ((227 : Nat), (4 : Int), (4 : Int), ((0 : Int), (24 : Int), [((22 : Nat), (0 : Int))])), ((227 : Nat), (5 : Int), (5 : Int), ((0 : Int), (8 : Int), [((23 : Nat), (0 : Int))])), ((227 : Nat), (6 : Int), (6 : Int), ((0 : Int), (6 : Int), [((24 : Nat), (0 : Int))])), ((227 : Nat), (7 : Int), (7 : Int), ((0 : Int), (12 : Int), [((25 : Nat), (0 : Int))])), ((227 : Nat), (14 : Int), (14 : Int), ((0 : Int), (24 : Int), [((26 : Nat), (0 : Int))])), ((226 : Nat), (6 : Int), (6 : Int), ((0 : Int), (12 : Int), [((27 : Nat), (0 : Int))])), ((227 : Nat), (9 : Int), (9 : Int), ((0 : Int), (299 : Int), [((11 : Nat), (0 : Int))]))]), (0 : Nat), .inl (1 : Nat), true)
set_option maxRecDepth 100000 in
noncomputable def p2_s1762_Z : List (Nat × ck_C) := [((16 : Nat), p2_s1762_C16)]
set_option maxRecDepth 100000 in
theorem p2_s1762_a : (decide (p2_s1762.2.2.1.length ≤ gm_ml 237) && ck_go p2_O none [] p2_s1762_E 237 p2_s1762.1.1 p2_s1762.2.1 p2_s1762.2.2.2.2.1 p2_s1762.2.2.2.2.2 p2_s1762_Z 126 false [(16, p2_s1762_C16, 0, 0, 245)] p2_s1762.1.2.1 p2_s1762.1.2.2 0 (p2_s1762.2.2.1.map some ++ List.replicate (gm_ml 237 - p2_s1762.2.2.1.length) none) [] p2_s1762.2.1 p2_s1762.2.2.2.1) = true := by decide +kernel
theorem p2_s1762_u : ck_cu p2_s1762_Z = true := by decide +kernel
theorem p2_s1762_h {X : Int → Int} {LX : Nat} : ck_nmu p2_O ∧ ck_OkE p2_O X LX p2_s1762_E := ⟨p2_nmu, ck_E1 (ck_S1 p2_s245_s ck_S0) ck_E0⟩
set_option maxRecDepth 100000 in
theorem p2_s1762_g16 : ck_go p2_O none [] p2_s1762_E 237 p2_s1762.1.1 p2_s1762.2.1 p2_s1762.2.2.2.2.1 p2_s1762.2.2.2.2.2 p2_s1762_Z 126 false [] 0 0 41 (p2_s1762_C16.1.set 1 (some (.inl (ck_one 1244)))) [] 245 (p2_s1762_C16.2.1.1, p2_s1762_C16.2.1.2.1, ck_cws [(227, 0, 1243)] p2_s1762_C16.2.1.2.2) = true := by decide +kernel
set_option maxRecDepth 100000 in
theorem p2_s1762_t16 : cp_tc p2_O 227 228 0 0 1244 = true := by decide +kernel
theorem p2_s1762_y16 {X : Int → Int} {LX : Nat} {σ σ0 : Nat → Int} {K0 : gm_K} {R0 : gm_R} {M0 : gm_M} (hσ : ∀ s, s < 100 → σ s = σ0 s) : ck_Hy p2_O X LX 237 p2_s1762.1.1 p2_s1762.2.2.2.2.1 p2_s1762.2.1 K0 R0 M0 (ck_Q p2_O σ0 p2_s1762.2.2.2.2.1 p2_s1762.2.1 K0 R0 M0 p2_s1762.2.2.2.2.2) σ (16, p2_s1762_C16, 0, 0, 245) := by
  refine ck_cpH (v := 1) (A := 227) (B := 228) (N := 1244) (wa := 0) (wb := 1243) (pc' := 41) p2_s1762_u p2_s1762_h hσ ⟨by decide, by decide⟩ (by decide +kernel) (fun bc bs L K R M hS => ?_) p2_s1762_g16 (fun _ h => nomatch h)
  · obtain ⟨hF, hl, -, hf, -⟩ := hS
    obtain ⟨u0, l0, g0⟩ := hl.2 0 (.inr (.inr (.inl 226))) rfl
    cases g0
    obtain ⟨u1, lv, x1, rfl, -, e1, e2, -⟩ := hl.2 1 (.inl (ck_one 0)) rfl
    have e1 : (0 : Int) ≤ x1 := e1
    have e2 : x1 ≤ (0 : Int) := e2
    have e3 : x1 = 0 := by omega
    subst e3
    have kA : (K 227).2 = 2093 := (md_kd hF md_o.1.2).2
    have kB : (K 228).2 = 1244 := (md_kd hF md_o.2.1.1).2
    refine ⟨0, 0, ⟨by omega, by omega⟩, gm_Fx_cpy hF (cp_tc_s hF p2_s1762_t16) (jj_back (K := K) hF.2.2.2.2), fun Q hx => ?_⟩
    exact cp_lp (iv := .iload_n 1) (v := 1) (ixA := 13) (ixB := 17) (jA := 1) (jB := 2) (A := 227) (B := 228) (mo := 226) (p := 16) (qA := 28) (qB := 33) (N := 1244) (offe := 21) (offb := (-22)) (by decide) (md_mo hF) (md_kd hF md_o.1.2).1 (md_kd hF md_o.2.1.1).1 (md_rf hF md_r.1.1) (md_rf hF md_r.1.2) (by decide +kernel) (by decide +kernel) (by decide +kernel) (by decide +kernel) ⟨by omega, ⟨by omega, by omega⟩, ⟨by omega, by omega⟩, by omega, by omega⟩ (fun e => absurd e (by decide)) (by decide) (by decide +kernel) l0 lv ⟨rfl, rfl⟩ ⟨gm_vr 226, l0, by simp [gm_sort]⟩ (by decide +kernel) (by decide +kernel) (by decide +kernel) (by decide) (by decide +kernel) (by decide +kernel) (cp_sg_i (iv := .iload_n 1) lv ⟨rfl, rfl⟩ (by decide +kernel)) (by decide +kernel) (by decide +kernel) (cp_sg_i (iv := .iload_n 1) lv ⟨rfl, rfl⟩ (by decide +kernel)) (by decide +kernel) (by decide +kernel) (by decide +kernel) (by decide +kernel) (by decide) (by decide) hx
theorem p2_s1762_s {X : Int → Int} {LX : Nat} : ck_Ok p2_O X LX 237 p2_s1762 := by
  refine ck_ok_st (cuts := p2_s1762_Z) p2_s1762_u p2_s1762_h p2_s1762_a (fun h hm => ?_)
  rcases List.mem_cons.mp hm with rfl | hm
  · exact ⟨by unfold p2_s1762_Z; exact List.mem_cons_self, fun σ K0 R0 M0 => p2_s1762_y16 (fun _ _ => rfl)⟩
  cases hm
set_option maxRecDepth 100000 in
/-- GlacierMail.count -/
noncomputable def p2_s1763 : ck_Sum := (((0 : Nat), (0 : Nat), (0 : Nat)), (245 : Nat), [.inr (.inr (.inl (1 : Nat))), .inl ((-2147483648 : Int), (-1 : Int), [])], ([], [], []), ([], []), [(.inr (some (.inl (ck_one (-1)))), (245 : Nat), ([], [], []))])
set_option maxRecDepth 100000 in
theorem p2_s1763_s {X : Int → Int} {LX : Nat} : ck_Ok p2_O X LX 63 p2_s1763 := ck_okq (cuts := []) (f := 78) ⟨p2_nmu, ck_E0⟩ (by decide +kernel)
set_option maxRecDepth 100000 in
/-- GlacierMail$History.size -/
noncomputable def p2_s1764 : ck_Sum := (((0 : Nat), (0 : Nat), (0 : Nat)), (245 : Nat), [.inr (.inr (.inl (42 : Nat)))], ([], [], []), ([], []), [(.inr (some (.inl ((0 : Int), (12 : Int), []))), (245 : Nat), ([], [], []))])
set_option maxRecDepth 100000 in
theorem p2_s1764_s {X : Int → Int} {LX : Nat} : ck_Ok p2_O X LX 69 p2_s1764 := ck_okq (cuts := []) (f := 76) ⟨p2_nmu, ck_E0⟩ (by decide +kernel)
set_option maxRecDepth 100000 in
/-- GlacierMail$Rows.size -/
noncomputable def p2_s1767 : ck_Sum := (((0 : Nat), (0 : Nat), (0 : Nat)), (245 : Nat), [.inr (.inr (.inl (14 : Nat)))], ([], [], []), ([], []), [(.inr (some (.inl ((0 : Int), (24 : Int), []))), (245 : Nat), ([], [], []))])
set_option maxRecDepth 100000 in
theorem p2_s1767_s {X : Int → Int} {LX : Nat} : ck_Ok p2_O X LX 9 p2_s1767 := ck_okq (cuts := []) (f := 76) ⟨p2_nmu, ck_E0⟩ (by decide +kernel)
set_option maxRecDepth 100000 in
/-- GlacierMail.lawLines -/
noncomputable def p2_s1769 : ck_Sum := (((0 : Nat), (0 : Nat), (0 : Nat)), (245 : Nat), [.inr (.inr (.inl (1 : Nat)))], ([], [((3 : Nat), (8 : Int), (0 : Nat))], []), ([], []), [(.inr (some (.inl (ck_one (-1)))), (245 : Nat), ([], [], []))])
set_option maxRecDepth 100000 in
theorem p2_s1769_s {X : Int → Int} {LX : Nat} : ck_Ok p2_O X LX 64 p2_s1769 := ck_okq (cuts := []) (f := 84) ⟨p2_nmu, ck_E0⟩ (by decide +kernel)
set_option maxRecDepth 100000 in
/-- GlacierMail.count -/
noncomputable def p2_s1770 : ck_Sum := (((1 : Nat), (0 : Nat), (0 : Nat)), (245 : Nat), [.inr (.inr (.inl (1 : Nat))), .inl ((0 : Int), (9 : Int), [])], ([], [((3 : Nat), (8 : Int), (0 : Nat))], [((3 : Nat), (6 : Int), (6 : Int), ((0 : Int), (299 : Int), [((10 : Nat), (0 : Int))]))]), ([], []), [(.inr (some (.inl ((0 : Int), (2147483647 : Int), []))), (245 : Nat), ([], [], [])), (.inr (some (.inl ((-2147483648 : Int), (-1 : Int), []))), (245 : Nat), ([], [], []))])
set_option maxRecDepth 100000 in
theorem p2_s1770_s {X : Int → Int} {LX : Nat} : ck_Ok p2_O X LX 63 p2_s1770 := ck_okq (cuts := []) (f := 84) ⟨p2_nmu, ck_E1 (ck_S1 p2_s1769_s ck_S0) (ck_E1 (ck_S1 p2_s1441_s (ck_S1 p2_s139_s (ck_S1 p2_s331_s (ck_S1 p2_s320_s (ck_S1 p2_s135_s ck_S0))))) ck_E0)⟩ (by decide +kernel)
set_option maxRecDepth 100000 in
/-- GlacierMailModel.in -/
noncomputable def p2_s1771 : ck_Sum := (((0 : Nat), (0 : Nat), (0 : Nat)), (245 : Nat), [.inl ((-2147483648 : Int), (-1 : Int), []), .inl (ck_one 0), .inl (ck_one 13)], ([], [], []), ([], []), [(.inr (some (.inl (ck_one 0))), (245 : Nat), ([], [], []))])
set_option maxRecDepth 100000 in
theorem p2_s1771_s {X : Int → Int} {LX : Nat} : ck_Ok p2_O X LX 286 p2_s1771 := ck_okq (cuts := []) (f := 80) ⟨p2_nmu, ck_E0⟩ (by decide +kernel)
set_option maxRecDepth 100000 in
/-- GlacierMailModel.count -/
noncomputable def p2_s1772 : ck_Sum := (((1 : Nat), (0 : Nat), (0 : Nat)), (245 : Nat), [.inr (.inr (.inl (226 : Nat))), .inl ((-2147483648 : Int), (-1 : Int), [])], ([], [], []), ([((226 : Nat), (0 : Int), (0 : Int))], []), [(.inr (some (.inl (ck_one (-1)))), (245 : Nat), ([], [], [((226 : Nat), (0 : Int), (0 : Int), ck_one 0)]))])
set_option maxRecDepth 100000 in
theorem p2_s1772_s {X : Int → Int} {LX : Nat} : ck_Ok p2_O X LX 368 p2_s1772 := ck_okq (cuts := []) (f := 98) ⟨p2_nmu, ck_E1 (ck_S1 p2_s1771_s ck_S0) ck_E0⟩ (by decide +kernel)
set_option maxRecDepth 100000 in
/-- GlacierMailModel.in -/
noncomputable def p2_s1773 : ck_Sum := (((0 : Nat), (0 : Nat), (0 : Nat)), (245 : Nat), [.inl ((18 : Int), (2147483647 : Int), []), .inl (ck_one 0), .inl (ck_one 13)], ([], [], []), ([], []), [(.inr (some (.inl (ck_one 0))), (245 : Nat), ([], [], []))])
set_option maxRecDepth 100000 in
theorem p2_s1773_s {X : Int → Int} {LX : Nat} : ck_Ok p2_O X LX 286 p2_s1773 := ck_okq (cuts := []) (f := 86) ⟨p2_nmu, ck_E0⟩ (by decide +kernel)
set_option maxRecDepth 100000 in
/-- GlacierMailModel.in -/
noncomputable def p2_s1774 : ck_Sum := (((0 : Nat), (0 : Nat), (0 : Nat)), (245 : Nat), [.inl (ck_one 13), .inl (ck_one 0), .inl (ck_one 13)], ([], [], []), ([], []), [(.inr (some (.inl (ck_one 1))), (245 : Nat), ([], [], []))])
set_option maxRecDepth 100000 in
theorem p2_s1774_s {X : Int → Int} {LX : Nat} : ck_Ok p2_O X LX 286 p2_s1774 := ck_okq (cuts := []) (f := 88) ⟨p2_nmu, ck_E0⟩ (by decide +kernel)
set_option maxRecDepth 100000 in
/-- GlacierMailModel.in -/
noncomputable def p2_s1775 : ck_Sum := (((0 : Nat), (0 : Nat), (0 : Nat)), (245 : Nat), [.inl (ck_one 12), .inl (ck_one 0), .inl (ck_one 13)], ([], [], []), ([], []), [(.inr (some (.inl (ck_one 1))), (245 : Nat), ([], [], []))])
set_option maxRecDepth 100000 in
theorem p2_s1775_s {X : Int → Int} {LX : Nat} : ck_Ok p2_O X LX 286 p2_s1775 := ck_okq (cuts := []) (f := 88) ⟨p2_nmu, ck_E0⟩ (by decide +kernel)
set_option maxRecDepth 100000 in
/-- GlacierMailModel.in -/
noncomputable def p2_s1776 : ck_Sum := (((0 : Nat), (0 : Nat), (0 : Nat)), (245 : Nat), [.inl (ck_one 11), .inl (ck_one 0), .inl (ck_one 13)], ([], [], []), ([], []), [(.inr (some (.inl (ck_one 1))), (245 : Nat), ([], [], []))])
set_option maxRecDepth 100000 in
theorem p2_s1776_s {X : Int → Int} {LX : Nat} : ck_Ok p2_O X LX 286 p2_s1776 := ck_okq (cuts := []) (f := 88) ⟨p2_nmu, ck_E0⟩ (by decide +kernel)
set_option maxRecDepth 100000 in
/-- GlacierMailModel.in -/
noncomputable def p2_s1777 : ck_Sum := (((0 : Nat), (0 : Nat), (0 : Nat)), (245 : Nat), [.inl (ck_one 10), .inl (ck_one 0), .inl (ck_one 13)], ([], [], []), ([], []), [(.inr (some (.inl (ck_one 1))), (245 : Nat), ([], [], []))])
set_option maxRecDepth 100000 in
theorem p2_s1777_s {X : Int → Int} {LX : Nat} : ck_Ok p2_O X LX 286 p2_s1777 := ck_okq (cuts := []) (f := 88) ⟨p2_nmu, ck_E0⟩ (by decide +kernel)
set_option maxRecDepth 100000 in
/-- GlacierMailModel.in -/
noncomputable def p2_s1779 : ck_Sum := (((0 : Nat), (0 : Nat), (0 : Nat)), (245 : Nat), [.inl ((0 : Int), (7 : Int), []), .inl (ck_one 0), .inl (ck_one 13)], ([], [], []), ([], []), [(.inr (some (.inl (ck_one 1))), (245 : Nat), ([], [], []))])
set_option maxRecDepth 100000 in
theorem p2_s1779_s {X : Int → Int} {LX : Nat} : ck_Ok p2_O X LX 286 p2_s1779 := ck_okq (cuts := []) (f := 88) ⟨p2_nmu, ck_E0⟩ (by decide +kernel)
set_option maxRecDepth 100000 in
/-- GlacierMailModel.in -/
noncomputable def p2_s1780 : ck_Sum := (((0 : Nat), (0 : Nat), (0 : Nat)), (245 : Nat), [.inl (ck_one 9), .inl (ck_one 0), .inl (ck_one 13)], ([], [], []), ([], []), [(.inr (some (.inl (ck_one 1))), (245 : Nat), ([], [], []))])
set_option maxRecDepth 100000 in
theorem p2_s1780_s {X : Int → Int} {LX : Nat} : ck_Ok p2_O X LX 286 p2_s1780 := ck_okq (cuts := []) (f := 88) ⟨p2_nmu, ck_E0⟩ (by decide +kernel)
set_option maxRecDepth 100000 in
/-- GlacierMailModel.count -/
noncomputable def p2_s1781 : ck_Sum := (((1 : Nat), (0 : Nat), (0 : Nat)), (245 : Nat), [.inr (.inr (.inl (226 : Nat))), .inl ((0 : Int), (9 : Int), [])], ([], [], [((227 : Nat), (9 : Int), (9 : Int), ((0 : Int), (299 : Int), [((11 : Nat), (0 : Int))]))]), ([((226 : Nat), (0 : Int), (0 : Int))], []), [(.inr (some (.inl ((0 : Int), (299 : Int), []))), (245 : Nat), ([], [], [((226 : Nat), (0 : Int), (0 : Int), ck_one 0)])), (.inr (some (.inl (ck_one (-1)))), (245 : Nat), ([], [], [((227 : Nat), (8 : Int), (8 : Int), ck_one 0), ((226 : Nat), (0 : Int), (0 : Int), ck_one 0)]))])
set_option maxRecDepth 100000 in
theorem p2_s1781_s {X : Int → Int} {LX : Nat} : ck_Ok p2_O X LX 368 p2_s1781 := ck_okq (cuts := []) (f := 108) ⟨p2_nmu, ck_E1 (ck_S1 p2_s1779_s (ck_S1 p2_s1780_s ck_S0)) ck_E0⟩ (by decide +kernel)
end
/-! 78r86a00.sl -/
section
/-! EVERY CALL OF THE CLASS ENDS, under a law (laid by wip/am/p2l.py). -/
set_option maxRecDepth 100000 in
/-- GlacierMail.putNumber -/
noncomputable def pl_s0 : ck_Sum := (((0 : Nat), (0 : Nat), (0 : Nat)), (249 : Nat), [.inr (.inr (.inl (1 : Nat))), .inl ((-2147483648 : Int), (2147483647 : Int), [])], ([], [], [((1 : Nat), (1 : Int), (1 : Int), ((0 : Int), (380 : Int), [((6 : Nat), (0 : Int))]))]), ([((1 : Nat), (1 : Int), (1 : Int)), ((2 : Nat), (0 : Int), (383 : Int))], []), [(.inr none, (249 : Nat), ([], [], [((1 : Nat), (1 : Int), (1 : Int), ((4 : Int), (384 : Int), [((6 : Nat), (4 : Int))]))]))])
set_option maxRecDepth 100000 in
theorem pl_s0_s {X : Int → Int} {LX : Nat} : ck_Ok p2_OL X LX 20 pl_s0 := ck_okq (cuts := []) (f := 280) ⟨pl_nmu, ck_E0⟩ (by decide +kernel)
set_option maxRecDepth 100000 in
/-- GlacierMail.putNumber -/
noncomputable def pl_s1 : ck_Sum := (((0 : Nat), (0 : Nat), (0 : Nat)), (249 : Nat), [.inr (.inr (.inl (1 : Nat))), .inl ((-2147483648 : Int), (2147483647 : Int), [])], ([], [], [((1 : Nat), (1 : Int), (1 : Int), ((4 : Int), (384 : Int), [((6 : Nat), (0 : Int))]))]), ([((1 : Nat), (1 : Int), (1 : Int)), ((2 : Nat), (4 : Int), (387 : Int))], []), [(.inr none, (249 : Nat), ([], [], [((1 : Nat), (1 : Int), (1 : Int), ((8 : Int), (388 : Int), [((6 : Nat), (4 : Int))]))]))])
set_option maxRecDepth 100000 in
theorem pl_s1_s {X : Int → Int} {LX : Nat} : ck_Ok p2_OL X LX 20 pl_s1 := ck_okq (cuts := []) (f := 280) ⟨pl_nmu, ck_E0⟩ (by decide +kernel)
set_option maxRecDepth 100000 in
/-- GlacierMail.putNumber -/
noncomputable def pl_s2 : ck_Sum := (((0 : Nat), (0 : Nat), (0 : Nat)), (249 : Nat), [.inr (.inr (.inl (1 : Nat))), .inl ((-2147483648 : Int), (2147483647 : Int), [])], ([], [], [((1 : Nat), (1 : Int), (1 : Int), ((8 : Int), (388 : Int), [((6 : Nat), (0 : Int))]))]), ([((1 : Nat), (1 : Int), (1 : Int)), ((2 : Nat), (8 : Int), (391 : Int))], []), [(.inr none, (249 : Nat), ([], [], [((1 : Nat), (1 : Int), (1 : Int), ((12 : Int), (392 : Int), [((6 : Nat), (4 : Int))]))]))])
set_option maxRecDepth 100000 in
theorem pl_s2_s {X : Int → Int} {LX : Nat} : ck_Ok p2_OL X LX 20 pl_s2 := ck_okq (cuts := []) (f := 280) ⟨pl_nmu, ck_E0⟩ (by decide +kernel)
set_option maxRecDepth 100000 in
/-- GlacierMail.putNumber -/
noncomputable def pl_s3 : ck_Sum := (((0 : Nat), (0 : Nat), (0 : Nat)), (249 : Nat), [.inr (.inr (.inl (1 : Nat))), .inl ((-2147483648 : Int), (2147483647 : Int), [])], ([], [], [((1 : Nat), (1 : Int), (1 : Int), ((12 : Int), (392 : Int), [((6 : Nat), (0 : Int))]))]), ([((1 : Nat), (1 : Int), (1 : Int)), ((2 : Nat), (12 : Int), (395 : Int))], []), [(.inr none, (249 : Nat), ([], [], [((1 : Nat), (1 : Int), (1 : Int), ((16 : Int), (396 : Int), [((6 : Nat), (4 : Int))]))]))])
set_option maxRecDepth 100000 in
theorem pl_s3_s {X : Int → Int} {LX : Nat} : ck_Ok p2_OL X LX 20 pl_s3 := ck_okq (cuts := []) (f := 280) ⟨pl_nmu, ck_E0⟩ (by decide +kernel)
set_option maxRecDepth 100000 in
/-- GlacierMail.putNumber -/
noncomputable def pl_s4 : ck_Sum := (((0 : Nat), (0 : Nat), (0 : Nat)), (249 : Nat), [.inr (.inr (.inl (1 : Nat))), .inl ((-2147483648 : Int), (2147483647 : Int), [])], ([], [], [((1 : Nat), (1 : Int), (1 : Int), ((16 : Int), (396 : Int), [((6 : Nat), (0 : Int))]))]), ([((1 : Nat), (1 : Int), (1 : Int)), ((2 : Nat), (16 : Int), (399 : Int))], []), [(.inr none, (249 : Nat), ([], [], [((1 : Nat), (1 : Int), (1 : Int), ((20 : Int), (400 : Int), [((6 : Nat), (4 : Int))]))]))])
set_option maxRecDepth 100000 in
theorem pl_s4_s {X : Int → Int} {LX : Nat} : ck_Ok p2_OL X LX 20 pl_s4 := ck_okq (cuts := []) (f := 280) ⟨pl_nmu, ck_E0⟩ (by decide +kernel)
set_option maxRecDepth 100000 in
/-- GlacierMail.feed -/
noncomputable def pl_s5 : ck_Sum := (((1 : Nat), (0 : Nat), (0 : Nat)), (249 : Nat), [.inr (.inr (.inl (1 : Nat))), .inl ((-2147483648 : Int), (2147483647 : Int), []), .inl ((-2147483648 : Int), (2147483647 : Int), []), .inl ((-2147483648 : Int), (2147483647 : Int), []), .inl ((-2147483648 : Int), (2147483647 : Int), []), .inl ((-2147483648 : Int), (2147483647 : Int), [])], ([], [], [((1 : Nat), (1 : Int), (1 : Int), ((0 : Int), (400 : Int), [((6 : Nat), (0 : Int))]))]), ([((1 : Nat), (1 : Int), (1 : Int)), ((2 : Nat), (0 : Int), (399 : Int))], []), [(.inr (some (.inl ((20 : Int), (400 : Int), [((6 : Nat), (20 : Int))]))), (249 : Nat), ([], [], [((1 : Nat), (1 : Int), (1 : Int), ((20 : Int), (400 : Int), [((6 : Nat), (20 : Int))]))])), (.inr (some (.inl (ck_one (-1)))), (249 : Nat), ([], [], [((1 : Nat), (1 : Int), (1 : Int), ((381 : Int), (400 : Int), [((6 : Nat), (0 : Int))]))]))])
set_option maxRecDepth 100000 in
theorem pl_s5_s {X : Int → Int} {LX : Nat} : ck_Ok p2_OL X LX 19 pl_s5 := ck_okq (cuts := []) (f := 118) ⟨pl_nmu, ck_E1 (ck_S1 pl_s0_s (ck_S1 pl_s1_s (ck_S1 pl_s2_s (ck_S1 pl_s3_s (ck_S1 pl_s4_s ck_S0))))) ck_E0⟩ (by decide +kernel)
set_option maxRecDepth 100000 in
/-- GlacierMail$Rows.copyFrom -/
noncomputable def pl_s7 : ck_Sum := (((1 : Nat), (0 : Nat), (0 : Nat)), (249 : Nat), [.inr (.inr (.inl (17 : Nat))), .inr (.inr (.inl (4 : Nat)))], ([], [], []), ([((17 : Nat), (3 : Int), (3 : Int)), ((18 : Nat), (0 : Int), (55 : Int))], []), [(.inr none, (249 : Nat), ([], [], []))])
set_option maxRecDepth 100000 in
theorem pl_s7_s {X : Int → Int} {LX : Nat} : ck_Ok p2_OL X LX 58 pl_s7 := ck_okq (cuts := []) (f := 114) ⟨pl_nmu, ck_E0⟩ (by decide +kernel)
set_option maxRecDepth 100000 in
/-- GlacierMail$Rows.copyFrom -/
noncomputable def pl_s8 : ck_Sum := (((1 : Nat), (0 : Nat), (0 : Nat)), (249 : Nat), [.inr (.inr (.inl (19 : Nat))), .inr (.inr (.inl (6 : Nat)))], ([], [], []), ([((19 : Nat), (3 : Int), (3 : Int)), ((20 : Nat), (0 : Int), (23 : Int))], []), [(.inr none, (249 : Nat), ([], [], []))])
set_option maxRecDepth 100000 in
theorem pl_s8_s {X : Int → Int} {LX : Nat} : ck_Ok p2_OL X LX 58 pl_s8 := ck_okq (cuts := []) (f := 114) ⟨pl_nmu, ck_E0⟩ (by decide +kernel)
set_option maxRecDepth 100000 in
/-- GlacierMail$Rows.copyFrom -/
noncomputable def pl_s9 : ck_Sum := (((1 : Nat), (0 : Nat), (0 : Nat)), (249 : Nat), [.inr (.inr (.inl (21 : Nat))), .inr (.inr (.inl (8 : Nat)))], ([], [], []), ([((21 : Nat), (3 : Int), (3 : Int)), ((22 : Nat), (0 : Int), (23 : Int))], []), [(.inr none, (249 : Nat), ([], [], []))])
set_option maxRecDepth 100000 in
theorem pl_s9_s {X : Int → Int} {LX : Nat} : ck_Ok p2_OL X LX 58 pl_s9 := ck_okq (cuts := []) (f := 114) ⟨pl_nmu, ck_E0⟩ (by decide +kernel)
set_option maxRecDepth 100000 in
/-- GlacierMail$Rows.copyFrom -/
noncomputable def pl_s10 : ck_Sum := (((1 : Nat), (0 : Nat), (0 : Nat)), (249 : Nat), [.inr (.inr (.inl (23 : Nat))), .inr (.inr (.inl (10 : Nat)))], ([], [], []), ([((23 : Nat), (3 : Int), (3 : Int)), ((24 : Nat), (0 : Int), (167 : Int))], []), [(.inr none, (249 : Nat), ([], [], []))])
set_option maxRecDepth 100000 in
theorem pl_s10_s {X : Int → Int} {LX : Nat} : ck_Ok p2_OL X LX 58 pl_s10 := ck_okq (cuts := []) (f := 114) ⟨pl_nmu, ck_E0⟩ (by decide +kernel)
set_option maxRecDepth 100000 in
/-- GlacierMail$Rows.copyFrom -/
noncomputable def pl_s11 : ck_Sum := (((1 : Nat), (0 : Nat), (0 : Nat)), (249 : Nat), [.inr (.inr (.inl (25 : Nat))), .inr (.inr (.inl (12 : Nat)))], ([], [], []), ([((25 : Nat), (3 : Int), (3 : Int)), ((26 : Nat), (0 : Int), (35 : Int))], []), [(.inr none, (249 : Nat), ([], [], []))])
set_option maxRecDepth 100000 in
theorem pl_s11_s {X : Int → Int} {LX : Nat} : ck_Ok p2_OL X LX 58 pl_s11 := ck_okq (cuts := []) (f := 114) ⟨pl_nmu, ck_E0⟩ (by decide +kernel)
set_option maxRecDepth 100000 in
/-- GlacierMail$Rows.copyFrom -/
noncomputable def pl_s12 : ck_Sum := (((1 : Nat), (0 : Nat), (0 : Nat)), (249 : Nat), [.inr (.inr (.inl (27 : Nat))), .inr (.inr (.inl (14 : Nat)))], ([], [], []), ([((27 : Nat), (3 : Int), (3 : Int)), ((28 : Nat), (0 : Int), (71 : Int))], []), [(.inr none, (249 : Nat), ([], [], []))])
set_option maxRecDepth 100000 in
theorem pl_s12_s {X : Int → Int} {LX : Nat} : ck_Ok p2_OL X LX 58 pl_s12 := ck_okq (cuts := []) (f := 114) ⟨pl_nmu, ck_E0⟩ (by decide +kernel)
set_option maxRecDepth 100000 in
/-- GlacierMail$State.copyFrom -/
noncomputable def pl_s13 : ck_Sum := (((2 : Nat), (0 : Nat), (0 : Nat)), (249 : Nat), [.inr (.inr (.inl (16 : Nat))), .inr (.inr (.inl (3 : Nat)))], ([], [((3 : Nat), (8 : Int), (246 : Nat)), ((16 : Nat), (8 : Int), (100016 : Nat))], [((3 : Nat), (6 : Int), (6 : Int), ((0 : Int), (299 : Int), [((10 : Nat), (0 : Int))]))]), (zl0, [((16 : Nat), (8 : Int))]), [(.inr none, (249 : Nat), ([], [((16 : Nat), (8 : Int), (246 : Nat))], [((16 : Nat), (6 : Int), (6 : Int), ((0 : Int), (299 : Int), [((10 : Nat), (0 : Int))]))]))])
set_option maxRecDepth 100000 in
theorem pl_s13_s {X : Int → Int} {LX : Nat} : ck_Ok p2_OL X LX 57 pl_s13 := ck_okq (cuts := []) (f := 204) ⟨pl_nmu, ck_E1 (ck_S1 pl_s7_s (ck_S1 pl_s8_s (ck_S1 pl_s9_s (ck_S1 pl_s10_s (ck_S1 pl_s11_s (ck_S1 pl_s12_s ck_S0)))))) ck_E0⟩ (by decide +kernel)
set_option maxRecDepth 100000 in
/-- GlacierMail$Rows.copyFrom -/
noncomputable def pl_s14 : ck_Sum := (((1 : Nat), (0 : Nat), (0 : Nat)), (249 : Nat), [.inr (.inr (.inl (4 : Nat))), .inr (.inr (.inl (17 : Nat)))], ([], [], []), ([((4 : Nat), (3 : Int), (3 : Int)), ((5 : Nat), (0 : Int), (55 : Int))], []), [(.inr none, (249 : Nat), ([], [], []))])
set_option maxRecDepth 100000 in
theorem pl_s14_s {X : Int → Int} {LX : Nat} : ck_Ok p2_OL X LX 58 pl_s14 := ck_okq (cuts := []) (f := 114) ⟨pl_nmu, ck_E0⟩ (by decide +kernel)
set_option maxRecDepth 100000 in
/-- GlacierMail$Rows.copyFrom -/
noncomputable def pl_s15 : ck_Sum := (((1 : Nat), (0 : Nat), (0 : Nat)), (249 : Nat), [.inr (.inr (.inl (6 : Nat))), .inr (.inr (.inl (19 : Nat)))], ([], [], []), ([((6 : Nat), (3 : Int), (3 : Int)), ((7 : Nat), (0 : Int), (23 : Int))], []), [(.inr none, (249 : Nat), ([], [], []))])
set_option maxRecDepth 100000 in
theorem pl_s15_s {X : Int → Int} {LX : Nat} : ck_Ok p2_OL X LX 58 pl_s15 := ck_okq (cuts := []) (f := 114) ⟨pl_nmu, ck_E0⟩ (by decide +kernel)
set_option maxRecDepth 100000 in
/-- GlacierMail$Rows.copyFrom -/
noncomputable def pl_s16 : ck_Sum := (((1 : Nat), (0 : Nat), (0 : Nat)), (249 : Nat), [.inr (.inr (.inl (8 : Nat))), .inr (.inr (.inl (21 : Nat)))], ([], [], []), ([((8 : Nat), (3 : Int), (3 : Int)), ((9 : Nat), (0 : Int), (23 : Int))], []), [(.inr none, (249 : Nat), ([], [], []))])
set_option maxRecDepth 100000 in
theorem pl_s16_s {X : Int → Int} {LX : Nat} : ck_Ok p2_OL X LX 58 pl_s16 := ck_okq (cuts := []) (f := 114) ⟨pl_nmu, ck_E0⟩ (by decide +kernel)
set_option maxRecDepth 100000 in
/-- GlacierMail$Rows.copyFrom -/
noncomputable def pl_s17 : ck_Sum := (((1 : Nat), (0 : Nat), (0 : Nat)), (249 : Nat), [.inr (.inr (.inl (10 : Nat))), .inr (.inr (.inl (23 : Nat)))], ([], [], []), ([((10 : Nat), (3 : Int), (3 : Int)), ((11 : Nat), (0 : Int), (167 : Int))], []), [(.inr none, (249 : Nat), ([], [], []))])
set_option maxRecDepth 100000 in
theorem pl_s17_s {X : Int → Int} {LX : Nat} : ck_Ok p2_OL X LX 58 pl_s17 := ck_okq (cuts := []) (f := 114) ⟨pl_nmu, ck_E0⟩ (by decide +kernel)
set_option maxRecDepth 100000 in
/-- GlacierMail$Rows.copyFrom -/
noncomputable def pl_s18 : ck_Sum := (((1 : Nat), (0 : Nat), (0 : Nat)), (249 : Nat), [.inr (.inr (.inl (12 : Nat))), .inr (.inr (.inl (25 : Nat)))], ([], [], []), ([((12 : Nat), (3 : Int), (3 : Int)), ((13 : Nat), (0 : Int), (35 : Int))], []), [(.inr none, (249 : Nat), ([], [], []))])
set_option maxRecDepth 100000 in
theorem pl_s18_s {X : Int → Int} {LX : Nat} : ck_Ok p2_OL X LX 58 pl_s18 := ck_okq (cuts := []) (f := 114) ⟨pl_nmu, ck_E0⟩ (by decide +kernel)
set_option maxRecDepth 100000 in
/-- GlacierMail$Rows.copyFrom -/
noncomputable def pl_s19 : ck_Sum := (((1 : Nat), (0 : Nat), (0 : Nat)), (249 : Nat), [.inr (.inr (.inl (14 : Nat))), .inr (.inr (.inl (27 : Nat)))], ([], [], []), ([((14 : Nat), (3 : Int), (3 : Int)), ((15 : Nat), (0 : Int), (71 : Int))], []), [(.inr none, (249 : Nat), ([], [], []))])
set_option maxRecDepth 100000 in
theorem pl_s19_s {X : Int → Int} {LX : Nat} : ck_Ok p2_OL X LX 58 pl_s19 := ck_okq (cuts := []) (f := 114) ⟨pl_nmu, ck_E0⟩ (by decide +kernel)
set_option maxRecDepth 100000 in
/-- GlacierMail$State.copyFrom -/
noncomputable def pl_s20 : ck_Sum := (((2 : Nat), (0 : Nat), (0 : Nat)), (249 : Nat), [.inr (.inr (.inl (3 : Nat))), .inr (.inr (.inl (16 : Nat)))], ([], [((3 : Nat), (8 : Int), (246 : Nat)), ((16 : Nat), (8 : Int), (246 : Nat))], []), (zl1, [((3 : Nat), (8 : Int))]), [(.inr none, (249 : Nat), ([], [((3 : Nat), (8 : Int), (246 : Nat))], []))])
set_option maxRecDepth 100000 in
theorem pl_s20_s {X : Int → Int} {LX : Nat} : ck_Ok p2_OL X LX 57 pl_s20 := ck_okq (cuts := []) (f := 204) ⟨pl_nmu, ck_E1 (ck_S1 pl_s14_s (ck_S1 pl_s15_s (ck_S1 pl_s16_s (ck_S1 pl_s17_s (ck_S1 pl_s18_s (ck_S1 pl_s19_s ck_S0)))))) ck_E0⟩ (by decide +kernel)
set_option maxRecDepth 100000 in
/-- GlacierMail$ValleyReader.clear -/
noncomputable def pl_s21 : ck_Sum := (((0 : Nat), (0 : Nat), (0 : Nat)), (249 : Nat), [.inr (.inr (.inl (213 : Nat)))], ([], [], []), ([], []), [(.inr none, (249 : Nat), ([], [], []))])
set_option maxRecDepth 100000 in
theorem pl_s21_s {X : Int → Int} {LX : Nat} : ck_Ok p2_OL X LX 74 pl_s21 := ck_okq (cuts := []) (f := 72) ⟨pl_nmu, ck_E0⟩ (by decide +kernel)
set_option maxRecDepth 100000 in
/-- GlacierMail$Words.isSmall -/
noncomputable def pl_s22 : ck_Sum := (((0 : Nat), (0 : Nat), (0 : Nat)), (249 : Nat), [.inl ((-128 : Int), (127 : Int), [])], ([], [], []), ([], []), [(.inr (some (.inl (ck_one 0))), (249 : Nat), ([], [], [])), (.inr (some (.inl (ck_one 1))), (249 : Nat), ([], [], []))])
set_option maxRecDepth 100000 in
theorem pl_s22_s {X : Int → Int} {LX : Nat} : ck_Ok p2_OL X LX 77 pl_s22 := ck_okq (cuts := []) (f := 88) ⟨pl_nmu, ck_E0⟩ (by decide +kernel)
set_option maxRecDepth 100000 in
/-- GlacierMail$Words.isDigit -/
noncomputable def pl_s23 : ck_Sum := (((0 : Nat), (0 : Nat), (0 : Nat)), (249 : Nat), [.inl ((-128 : Int), (127 : Int), [])], ([], [], []), ([], []), [(.inr (some (.inl (ck_one 0))), (249 : Nat), ([], [], [])), (.inr (some (.inl (ck_one 1))), (249 : Nat), ([], [], []))])
set_option maxRecDepth 100000 in
theorem pl_s23_s {X : Int → Int} {LX : Nat} : ck_Ok p2_OL X LX 78 pl_s23 := ck_okq (cuts := []) (f := 88) ⟨pl_nmu, ck_E0⟩ (by decide +kernel)
set_option maxRecDepth 100000 in
/-- GlacierMail$Words.next -/
noncomputable def pl_s24 : ck_Sum := (((1 : Nat), (0 : Nat), (0 : Nat)), (249 : Nat), [.inr (.inr (.inl (214 : Nat)))], ([], [], [((214 : Nat), (3 : Int), (3 : Int), ((0 : Int), (400 : Int), [((12 : Nat), (0 : Int))]))]), ([((214 : Nat), (3 : Int), (4 : Int)), ((214 : Nat), (6 : Int), (7 : Int))], []), [(.inr none, (249 : Nat), ([], [], [((214 : Nat), (3 : Int), (3 : Int), ((0 : Int), (400 : Int), [((1000012 : Nat), (0 : Int))]))]))])
set_option maxRecDepth 100000 in
theorem pl_s24_s {X : Int → Int} {LX : Nat} : ck_Ok p2_OL X LX 76 pl_s24 := ck_okq (cuts := [((0 : Nat), [some (.inr (.inr (.inl (214 : Nat)))), none], ([], [], [((214 : Nat), (3 : Int), (3 : Int), ((0 : Int), (400 : Int), [((1000012 : Nat), (0 : Int))]))]), (100 : Nat), .inr ((214 : Nat), (3 : Int)), true), ((160 : Nat), [some (.inr (.inr (.inl (214 : Nat)))), none], ([], [], [((214 : Nat), (6 : Int), (6 : Int), ck_one 258), ((214 : Nat), (2 : Int), (2 : Int), ((1 : Int), (400 : Int), [])), ((214 : Nat), (3 : Int), (3 : Int), ((0 : Int), (400 : Int), [((1000100 : Nat), (0 : Int)), ((1000012 : Nat), (0 : Int))])), ((214 : Nat), (4 : Int), (4 : Int), ((0 : Int), (400 : Int), [((100 : Nat), (0 : Int))]))]), (300 : Nat), .inr ((214 : Nat), (3 : Int)), true), ((94 : Nat), [some (.inr (.inr (.inl (214 : Nat)))), none], ([], [], [((214 : Nat), (6 : Int), (6 : Int), ck_one 257), ((214 : Nat), (2 : Int), (2 : Int), ((1 : Int), (400 : Int), [])), ((214 : Nat), (3 : Int), (3 : Int), ((0 : Int), (400 : Int), [((1000100 : Nat), (0 : Int)), ((1000012 : Nat), (0 : Int))])), ((214 : Nat), (7 : Int), (7 : Int), ck_one (-1)), ((214 : Nat), (4 : Int), (4 : Int), ((0 : Int), (400 : Int), [((100 : Nat), (0 : Int)), ((1000012 : Nat), (0 : Int))]))]), (500 : Nat), .inr ((214 : Nat), (3 : Int)), true)]) (f := 562) ⟨pl_nmu, ck_E1 (ck_S1 pl_s22_s ck_S0) (ck_E1 (ck_S1 pl_s23_s ck_S0) ck_E0)⟩ (by decide +kernel)
set_option maxRecDepth 100000 in
/-- GlacierMail$Words.start -/
noncomputable def pl_s25 : ck_Sum := (((2 : Nat), (0 : Nat), (0 : Nat)), (249 : Nat), [.inr (.inr (.inl (214 : Nat))), .inl ((0 : Int), (400 : Int), [])], ([], [], [((214 : Nat), (3 : Int), (3 : Int), ((0 : Int), (400 : Int), [((12 : Nat), (0 : Int))]))]), ([((214 : Nat), (2 : Int), (7 : Int))], []), [(.inr none, (249 : Nat), ([], [], [((214 : Nat), (5 : Int), (5 : Int), ck_one (-1))]))])
set_option maxRecDepth 100000 in
theorem pl_s25_s {X : Int → Int} {LX : Nat} : ck_Ok p2_OL X LX 75 pl_s25 := ck_okq (cuts := []) (f := 102) ⟨pl_nmu, ck_E1 (ck_S1 pl_s24_s ck_S0) ck_E0⟩ (by decide +kernel)
set_option maxRecDepth 100000 in
/-- GlacierMail$Words.refuse -/
noncomputable def pl_s26 : ck_Sum := (((0 : Nat), (0 : Nat), (0 : Nat)), (249 : Nat), [.inr (.inr (.inl (214 : Nat)))], ([], [], []), ([((214 : Nat), (5 : Int), (5 : Int))], []), [(.inr (some (.inl (ck_one 0))), (249 : Nat), ([], [], [((214 : Nat), (5 : Int), (5 : Int), ((0 : Int), (400 : Int), []))]))])
set_option maxRecDepth 100000 in
theorem pl_s26_s {X : Int → Int} {LX : Nat} : ck_Ok p2_OL X LX 93 pl_s26 := ck_okq (cuts := []) (f := 90) ⟨pl_nmu, ck_E0⟩ (by decide +kernel)
set_option maxRecDepth 100000 in
/-- GlacierMail$Words.wrong -/
noncomputable def pl_s27 : ck_Sum := (((0 : Nat), (0 : Nat), (0 : Nat)), (249 : Nat), [.inr (.inr (.inl (214 : Nat)))], ([], [], []), ([], []), zl217)
set_option maxRecDepth 100000 in
theorem pl_s27_s {X : Int → Int} {LX : Nat} : ck_Ok p2_OL X LX 121 pl_s27 := ck_okq (cuts := []) (f := 76) ⟨pl_nmu, ck_E0⟩ (by decide +kernel)
set_option maxRecDepth 100000 in
/-- GlacierMail$Words.isWord -/
noncomputable def pl_s28 : ck_Sum := (((6 : Nat), (0 : Nat), (0 : Nat)), (249 : Nat), [.inr (.inr (.inl (214 : Nat))), .inr (.inr (.inr (17 : Nat)))], ([], [], [((214 : Nat), (3 : Int), (3 : Int), ((0 : Int), (400 : Int), [((12 : Nat), (0 : Int))]))]), ([], []), zl218)
set_option maxRecDepth 100000 in
theorem pl_s28_s {X : Int → Int} {LX : Nat} : ck_Ok p2_OL X LX 81 pl_s28 := ck_okq (cuts := []) (f := 360) ⟨pl_nmu, ck_E0⟩ (by decide +kernel)
set_option maxRecDepth 100000 in
/-- GlacierMail$Words.isWord -/
noncomputable def pl_s29 : ck_Sum := (((6 : Nat), (0 : Nat), (0 : Nat)), (249 : Nat), [.inr (.inr (.inl (214 : Nat))), .inr (.inr (.inr (18 : Nat)))], ([], [], [((214 : Nat), (3 : Int), (3 : Int), ((0 : Int), (400 : Int), [((12 : Nat), (0 : Int))]))]), ([], []), zl219)
set_option maxRecDepth 100000 in
theorem pl_s29_s {X : Int → Int} {LX : Nat} : ck_Ok p2_OL X LX 81 pl_s29 := ck_okq (cuts := []) (f := 310) ⟨pl_nmu, ck_E0⟩ (by decide +kernel)
set_option maxRecDepth 100000 in
/-- GlacierMail$Words.isWord -/
noncomputable def pl_s30 : ck_Sum := (((6 : Nat), (0 : Nat), (0 : Nat)), (249 : Nat), [.inr (.inr (.inl (214 : Nat))), .inr (.inr (.inr (19 : Nat)))], ([], [], [((214 : Nat), (3 : Int), (3 : Int), ((0 : Int), (400 : Int), [((12 : Nat), (0 : Int))]))]), ([], []), [(.inr (some (.inl (ck_one 0))), (249 : Nat), ([], [], [])), (.inr (some (.inl (ck_one 1))), (249 : Nat), ([], [], zl5))])
set_option maxRecDepth 100000 in
theorem pl_s30_s {X : Int → Int} {LX : Nat} : ck_Ok p2_OL X LX 81 pl_s30 := ck_okq (cuts := []) (f := 460) ⟨pl_nmu, ck_E0⟩ (by decide +kernel)
set_option maxRecDepth 100000 in
/-- GlacierMail$Words.isWord -/
noncomputable def pl_s31 : ck_Sum := (((6 : Nat), (0 : Nat), (0 : Nat)), (249 : Nat), [.inr (.inr (.inl (214 : Nat))), .inr (.inr (.inr (20 : Nat)))], ([], [], [((214 : Nat), (3 : Int), (3 : Int), ((0 : Int), (400 : Int), [((12 : Nat), (0 : Int))]))]), ([], []), zl219)
set_option maxRecDepth 100000 in
theorem pl_s31_s {X : Int → Int} {LX : Nat} : ck_Ok p2_OL X LX 81 pl_s31 := ck_okq (cuts := []) (f := 310) ⟨pl_nmu, ck_E0⟩ (by decide +kernel)
set_option maxRecDepth 100000 in
/-- GlacierMail$Words.isWord -/
noncomputable def pl_s32 : ck_Sum := (((6 : Nat), (0 : Nat), (0 : Nat)), (249 : Nat), [.inr (.inr (.inl (214 : Nat))), .inr (.inr (.inr (22 : Nat)))], ([], [], [((214 : Nat), (3 : Int), (3 : Int), ((0 : Int), (400 : Int), [((12 : Nat), (0 : Int))]))]), ([], []), zl220)
set_option maxRecDepth 100000 in
theorem pl_s32_s {X : Int → Int} {LX : Nat} : ck_Ok p2_OL X LX 81 pl_s32 := ck_okq (cuts := []) (f := 410) ⟨pl_nmu, ck_E0⟩ (by decide +kernel)
set_option maxRecDepth 100000 in
/-- GlacierMail$Words.isWord -/
noncomputable def pl_s33 : ck_Sum := (((6 : Nat), (0 : Nat), (0 : Nat)), (249 : Nat), [.inr (.inr (.inl (214 : Nat))), .inr (.inr (.inr (23 : Nat)))], ([], [], [((214 : Nat), (3 : Int), (3 : Int), ((0 : Int), (400 : Int), [((12 : Nat), (0 : Int))]))]), ([], []), zl219)
set_option maxRecDepth 100000 in
theorem pl_s33_s {X : Int → Int} {LX : Nat} : ck_Ok p2_OL X LX 81 pl_s33 := ck_okq (cuts := []) (f := 310) ⟨pl_nmu, ck_E0⟩ (by decide +kernel)
set_option maxRecDepth 100000 in
/-- GlacierMail$Words.isWord -/
noncomputable def pl_s34 : ck_Sum := (((6 : Nat), (0 : Nat), (0 : Nat)), (249 : Nat), [.inr (.inr (.inl (214 : Nat))), .inr (.inr (.inr (24 : Nat)))], ([], [], [((214 : Nat), (3 : Int), (3 : Int), ((0 : Int), (400 : Int), [((12 : Nat), (0 : Int))]))]), ([], []), zl218)
set_option maxRecDepth 100000 in
theorem pl_s34_s {X : Int → Int} {LX : Nat} : ck_Ok p2_OL X LX 81 pl_s34 := ck_okq (cuts := []) (f := 360) ⟨pl_nmu, ck_E0⟩ (by decide +kernel)
set_option maxRecDepth 100000 in
/-- GlacierMail$Words.isWord -/
noncomputable def pl_s35 : ck_Sum := (((6 : Nat), (0 : Nat), (0 : Nat)), (249 : Nat), [.inr (.inr (.inl (214 : Nat))), .inr (.inr (.inr (25 : Nat)))], ([], [], [((214 : Nat), (3 : Int), (3 : Int), ((0 : Int), (400 : Int), [((12 : Nat), (0 : Int))]))]), ([], []), zl220)
set_option maxRecDepth 100000 in
theorem pl_s35_s {X : Int → Int} {LX : Nat} : ck_Ok p2_OL X LX 81 pl_s35 := ck_okq (cuts := []) (f := 410) ⟨pl_nmu, ck_E0⟩ (by decide +kernel)
set_option maxRecDepth 100000 in
/-- GlacierMail$Words.isWord -/
noncomputable def pl_s36 : ck_Sum := (((6 : Nat), (0 : Nat), (0 : Nat)), (249 : Nat), [.inr (.inr (.inl (214 : Nat))), .inr (.inr (.inr (27 : Nat)))], ([], [], [((214 : Nat), (3 : Int), (3 : Int), ((0 : Int), (400 : Int), [((12 : Nat), (0 : Int))]))]), ([], []), zl219)
set_option maxRecDepth 100000 in
theorem pl_s36_s {X : Int → Int} {LX : Nat} : ck_Ok p2_OL X LX 81 pl_s36 := ck_okq (cuts := []) (f := 310) ⟨pl_nmu, ck_E0⟩ (by decide +kernel)
set_option maxRecDepth 100000 in
/-- GlacierMail$Words.isWord -/
noncomputable def pl_s37 : ck_Sum := (((6 : Nat), (0 : Nat), (0 : Nat)), (249 : Nat), [.inr (.inr (.inl (214 : Nat))), .inr (.inr (.inr (28 : Nat)))], ([], [], [((214 : Nat), (3 : Int), (3 : Int), ((0 : Int), (400 : Int), [((12 : Nat), (0 : Int))]))]), ([], []), zl218)
set_option maxRecDepth 100000 in
theorem pl_s37_s {X : Int → Int} {LX : Nat} : ck_Ok p2_OL X LX 81 pl_s37 := ck_okq (cuts := []) (f := 360) ⟨pl_nmu, ck_E0⟩ (by decide +kernel)
set_option maxRecDepth 100000 in
/-- GlacierMail$Rows.isFull -/
noncomputable def pl_s38 : ck_Sum := (((0 : Nat), (0 : Nat), (0 : Nat)), (249 : Nat), [.inr (.inr (.inl (25 : Nat)))], ([], [], []), ([], []), [(.inr (some (.inl (ck_one 0))), (249 : Nat), ([], [], [((25 : Nat), (3 : Int), (3 : Int), ((0 : Int), (5 : Int), []))])), (.inr (some (.inl (ck_one 1))), (249 : Nat), ([], [], [((25 : Nat), (3 : Int), (3 : Int), ck_one 6)]))])
set_option maxRecDepth 100000 in
theorem pl_s38_s {X : Int → Int} {LX : Nat} : ck_Ok p2_OL X LX 108 pl_s38 := ck_okq (cuts := []) (f := 86) ⟨pl_nmu, ck_E0⟩ (by decide +kernel)
set_option maxRecDepth 100000 in
/-- GlacierMail$Rows.add -/
noncomputable def pl_s39 : ck_Sum := (((0 : Nat), (0 : Nat), (0 : Nat)), (249 : Nat), [.inr (.inr (.inl (25 : Nat)))], ([], [], []), ([((25 : Nat), (3 : Int), (3 : Int))], []), [(.inr (some (.inl ((0 : Int), (5 : Int), []))), (249 : Nat), ([], [], [((25 : Nat), (3 : Int), (3 : Int), ((1 : Int), (6 : Int), []))])), (.inr (some (.inl (ck_one (-1)))), (249 : Nat), ([], [], [((25 : Nat), (3 : Int), (3 : Int), ck_one 6)]))])
set_option maxRecDepth 100000 in
theorem pl_s39_s {X : Int → Int} {LX : Nat} : ck_Ok p2_OL X LX 102 pl_s39 := ck_okq (cuts := []) (f := 102) ⟨pl_nmu, ck_E0⟩ (by decide +kernel)
set_option maxRecDepth 100000 in
/-- GlacierMail$Words.needNumber -/
noncomputable def pl_s40 : ck_Sum := (((2 : Nat), (0 : Nat), (0 : Nat)), (249 : Nat), [.inr (.inr (.inl (214 : Nat))), .inl (ck_one 0), .inl (ck_one 20)], ([], [], [((214 : Nat), (3 : Int), (3 : Int), ((0 : Int), (400 : Int), [((12 : Nat), (0 : Int))]))]), ([((214 : Nat), (3 : Int), (7 : Int))], []), [(.inr (some (.inl (ck_one (-1)))), (249 : Nat), ([], [], zl7)), (.inr (some (.inl ((0 : Int), (20 : Int), []))), (249 : Nat), ([], [], [((214 : Nat), (3 : Int), (3 : Int), ((0 : Int), (400 : Int), [((1000012 : Nat), (0 : Int))]))]))])
set_option maxRecDepth 100000 in
theorem pl_s40_s {X : Int → Int} {LX : Nat} : ck_Ok p2_OL X LX 94 pl_s40 := ck_okq (cuts := []) (f := 106) ⟨pl_nmu, ck_E1 (ck_S1 pl_s26_s ck_S0) (ck_E1 (ck_S1 pl_s24_s ck_S0) ck_E0)⟩ (by decide +kernel)
set_option maxRecDepth 100000 in
/-- GlacierMail$Rows.put -/
noncomputable def pl_s41 : ck_Sum := (((0 : Nat), (0 : Nat), (0 : Nat)), (249 : Nat), [.inr (.inr (.inl (25 : Nat))), .inl ((0 : Int), (5 : Int), []), .inl ((0 : Int), (5 : Int), []), .inl ((0 : Int), (20 : Int), [])], ([], [], []), ([((26 : Nat), (0 : Int), (35 : Int))], []), [(.inr none, (249 : Nat), ([], [], []))])
set_option maxRecDepth 100000 in
theorem pl_s41_s {X : Int → Int} {LX : Nat} : ck_Ok p2_OL X LX 45 pl_s41 := ck_okq (cuts := []) (f := 116) ⟨pl_nmu, ck_E0⟩ (by decide +kernel)
set_option maxRecDepth 100000 in
/-- GlacierMail$ValleyReader.readSpeeds -/
noncomputable def pl_s42 : ck_Sum := (((3 : Nat), (0 : Nat), (0 : Nat)), (249 : Nat), [.inr (.inr (.inl (213 : Nat))), .inr (.inr (.inl (25 : Nat))), .inl ((0 : Int), (5 : Int), []), .inl (ck_one 0)], ([], [], [((214 : Nat), (3 : Int), (3 : Int), ((0 : Int), (400 : Int), [((12 : Nat), (0 : Int))]))]), ([((26 : Nat), (0 : Int), (35 : Int)), ((214 : Nat), (3 : Int), (7 : Int))], []), zl221)
set_option maxRecDepth 100000 in
theorem pl_s42_s {X : Int → Int} {LX : Nat} : ck_Ok p2_OL X LX 109 pl_s42 := ck_okq (cuts := [((3 : Nat), [some (.inr (.inr (.inl (213 : Nat)))), some (.inr (.inr (.inl (25 : Nat)))), some (.inl ((0 : Int), (5 : Int), [])), some (.inl (ck_one 0)), some (.inl ((0 : Int), (6 : Int), [])), none], ([], [], [((214 : Nat), (3 : Int), (3 : Int), ((0 : Int), (400 : Int), [((1000012 : Nat), (0 : Int))]))]), (100 : Nat), .inl (4 : Nat), true)]) (f := 186) ⟨pl_nmu, ck_E1 (ck_S1 pl_s40_s ck_S0) (ck_E1 (ck_S1 pl_s41_s ck_S0) ck_E0)⟩ (by decide +kernel)
set_option maxRecDepth 100000 in
/-- GlacierMail$Rows.put -/
noncomputable def pl_s43 : ck_Sum := (((0 : Nat), (0 : Nat), (0 : Nat)), (249 : Nat), [.inr (.inr (.inl (25 : Nat))), .inl (ck_one (-1)), .inl ((0 : Int), (5 : Int), []), .inl ((0 : Int), (20 : Int), [])], ([], [], []), ([], []), [(.inr none, (249 : Nat), ([], [], []))])
set_option maxRecDepth 100000 in
theorem pl_s43_s {X : Int → Int} {LX : Nat} : ck_Ok p2_OL X LX 45 pl_s43 := ck_okq (cuts := []) (f := 76) ⟨pl_nmu, ck_E0⟩ (by decide +kernel)
set_option maxRecDepth 100000 in
/-- GlacierMail$ValleyReader.readSpeeds -/
noncomputable def pl_s44 : ck_Sum := (((3 : Nat), (0 : Nat), (0 : Nat)), (249 : Nat), [.inr (.inr (.inl (213 : Nat))), .inr (.inr (.inl (25 : Nat))), .inl (ck_one (-1)), .inl (ck_one 0)], ([], [], [((214 : Nat), (3 : Int), (3 : Int), ((0 : Int), (400 : Int), [((12 : Nat), (0 : Int))]))]), ([((214 : Nat), (3 : Int), (7 : Int))], []), zl221)
set_option maxRecDepth 100000 in
theorem pl_s44_s {X : Int → Int} {LX : Nat} : ck_Ok p2_OL X LX 109 pl_s44 := ck_okq (cuts := [((3 : Nat), [some (.inr (.inr (.inl (213 : Nat)))), some (.inr (.inr (.inl (25 : Nat)))), some (.inl (ck_one (-1))), some (.inl (ck_one 0)), some (.inl ((0 : Int), (6 : Int), [])), none], ([], [], [((214 : Nat), (3 : Int), (3 : Int), ((0 : Int), (400 : Int), [((1000012 : Nat), (0 : Int))]))]), (100 : Nat), .inl (4 : Nat), true)]) (f := 186) ⟨pl_nmu, ck_E1 (ck_S1 pl_s40_s ck_S0) (ck_E1 (ck_S1 pl_s43_s ck_S0) ck_E0)⟩ (by decide +kernel)
set_option maxRecDepth 100000 in
/-- GlacierMail$ValleyReader.readTable -/
noncomputable def pl_s45 : ck_Sum := (((4 : Nat), (0 : Nat), (0 : Nat)), (249 : Nat), [.inr (.inr (.inl (213 : Nat)))], ([], [], [((214 : Nat), (3 : Int), (3 : Int), ((0 : Int), (400 : Int), [((12 : Nat), (0 : Int))]))]), ([((25 : Nat), (3 : Int), (3 : Int)), ((26 : Nat), (0 : Int), (35 : Int)), ((214 : Nat), (3 : Int), (7 : Int))], []), [(.inr (some (.inl (ck_one 1))), (249 : Nat), ([], [], zl9)), (.inr (some (.inl (ck_one 0))), (249 : Nat), ([], [], zl10))])
set_option maxRecDepth 100000 in
theorem pl_s45_s {X : Int → Int} {LX : Nat} : ck_Ok p2_OL X LX 120 pl_s45 := ck_okq (cuts := []) (f := 108) ⟨pl_nmu, ck_E1 (ck_S1 pl_s38_s ck_S0) (ck_E1 (ck_S1 pl_s24_s ck_S0) (ck_E1 (ck_S1 pl_s39_s ck_S0) (ck_E1 (ck_S1 pl_s42_s (ck_S1 pl_s44_s ck_S0)) (ck_E1 (ck_S1 pl_s26_s ck_S0) ck_E0))))⟩ (by decide +kernel)
set_option maxRecDepth 100000 in
/-- GlacierMail$Rows.isFull -/
noncomputable def pl_s46 : ck_Sum := (((0 : Nat), (0 : Nat), (0 : Nat)), (249 : Nat), [.inr (.inr (.inl (23 : Nat)))], ([], [], []), ([], []), [(.inr (some (.inl (ck_one 0))), (249 : Nat), ([], [], [((23 : Nat), (3 : Int), (3 : Int), ((0 : Int), (23 : Int), []))])), (.inr (some (.inl (ck_one 1))), (249 : Nat), ([], [], [((23 : Nat), (3 : Int), (3 : Int), ck_one 24)]))])
set_option maxRecDepth 100000 in
theorem pl_s46_s {X : Int → Int} {LX : Nat} : ck_Ok p2_OL X LX 108 pl_s46 := ck_okq (cuts := []) (f := 86) ⟨pl_nmu, ck_E0⟩ (by decide +kernel)
set_option maxRecDepth 100000 in
/-- GlacierMail$Words.needNumber -/
noncomputable def pl_s47 : ck_Sum := (((2 : Nat), (0 : Nat), (0 : Nat)), (249 : Nat), [.inr (.inr (.inl (214 : Nat))), .inl (ck_one 0), .inl ((0 : Int), (5 : Int), [])], ([], [], [((214 : Nat), (3 : Int), (3 : Int), ((0 : Int), (400 : Int), [((12 : Nat), (0 : Int))]))]), ([((214 : Nat), (3 : Int), (7 : Int))], []), zl222)
set_option maxRecDepth 100000 in
theorem pl_s47_s {X : Int → Int} {LX : Nat} : ck_Ok p2_OL X LX 94 pl_s47 := ck_okq (cuts := []) (f := 106) ⟨pl_nmu, ck_E1 (ck_S1 pl_s26_s ck_S0) (ck_E1 (ck_S1 pl_s24_s ck_S0) ck_E0)⟩ (by decide +kernel)
set_option maxRecDepth 100000 in
/-- GlacierMail$ValleyReader.readLane -/
noncomputable def pl_s48 : ck_Sum := (((3 : Nat), (0 : Nat), (0 : Nat)), (249 : Nat), [.inr (.inr (.inl (213 : Nat)))], ([], [], [((214 : Nat), (3 : Int), (3 : Int), ((0 : Int), (400 : Int), [((12 : Nat), (0 : Int))]))]), ([((214 : Nat), (3 : Int), (7 : Int))], []), zl222)
set_option maxRecDepth 100000 in
theorem pl_s48_s {X : Int → Int} {LX : Nat} : ck_Ok p2_OL X LX 117 pl_s48 := ck_okq (cuts := []) (f := 90) ⟨pl_nmu, ck_E1 (ck_S1 pl_s47_s ck_S0) ck_E0⟩ (by decide +kernel)
set_option maxRecDepth 100000 in
/-- GlacierMail$Words.needNumber -/
noncomputable def pl_s49 : ck_Sum := (((2 : Nat), (0 : Nat), (0 : Nat)), (249 : Nat), [.inr (.inr (.inl (214 : Nat))), .inl (ck_one 0), .inl ((9 : Int), (98 : Int), [])], ([], [], [((214 : Nat), (3 : Int), (3 : Int), ((0 : Int), (400 : Int), [((12 : Nat), (0 : Int))]))]), ([((214 : Nat), (3 : Int), (7 : Int))], []), zl223)
set_option maxRecDepth 100000 in
theorem pl_s49_s {X : Int → Int} {LX : Nat} : ck_Ok p2_OL X LX 94 pl_s49 := ck_okq (cuts := []) (f := 106) ⟨pl_nmu, ck_E1 (ck_S1 pl_s26_s ck_S0) (ck_E1 (ck_S1 pl_s24_s ck_S0) ck_E0)⟩ (by decide +kernel)
set_option maxRecDepth 100000 in
/-- GlacierMail$ValleyReader.readRow -/
noncomputable def pl_s50 : ck_Sum := (((3 : Nat), (0 : Nat), (0 : Nat)), (249 : Nat), [.inr (.inr (.inl (213 : Nat)))], ([], [], [((214 : Nat), (3 : Int), (3 : Int), ((0 : Int), (400 : Int), [((12 : Nat), (0 : Int))]))]), ([((214 : Nat), (3 : Int), (7 : Int))], []), zl223)
set_option maxRecDepth 100000 in
theorem pl_s50_s {X : Int → Int} {LX : Nat} : ck_Ok p2_OL X LX 111 pl_s50 := ck_okq (cuts := []) (f := 90) ⟨pl_nmu, ck_E1 (ck_S1 pl_s49_s ck_S0) ck_E0⟩ (by decide +kernel)
set_option maxRecDepth 100000 in
/-- GlacierMail$Rows.add -/
noncomputable def pl_s51 : ck_Sum := (((0 : Nat), (0 : Nat), (0 : Nat)), (249 : Nat), [.inr (.inr (.inl (23 : Nat)))], ([], [], []), ([((23 : Nat), (3 : Int), (3 : Int))], []), zl224)
set_option maxRecDepth 100000 in
theorem pl_s51_s {X : Int → Int} {LX : Nat} : ck_Ok p2_OL X LX 102 pl_s51 := ck_okq (cuts := []) (f := 102) ⟨pl_nmu, ck_E0⟩ (by decide +kernel)
set_option maxRecDepth 100000 in
/-- GlacierMail$Rows.put -/
noncomputable def pl_s52 : ck_Sum := (((0 : Nat), (0 : Nat), (0 : Nat)), (249 : Nat), [.inr (.inr (.inl (23 : Nat))), .inl ((0 : Int), (23 : Int), []), .inl (ck_one 0), .inl (ck_one (-1))], ([], [], []), (zl14, []), [(.inr none, (249 : Nat), ([], [], []))])
set_option maxRecDepth 100000 in
theorem pl_s52_s {X : Int → Int} {LX : Nat} : ck_Ok p2_OL X LX 45 pl_s52 := ck_okq (cuts := []) (f := 116) ⟨pl_nmu, ck_E0⟩ (by decide +kernel)
set_option maxRecDepth 100000 in
/-- GlacierMail$Rows.put -/
noncomputable def pl_s53 : ck_Sum := (((0 : Nat), (0 : Nat), (0 : Nat)), (249 : Nat), [.inr (.inr (.inl (23 : Nat))), .inl ((0 : Int), (23 : Int), []), .inl (ck_one 1), .inl (ck_one (-1))], ([], [], []), (zl15, []), [(.inr none, (249 : Nat), ([], [], []))])
set_option maxRecDepth 100000 in
theorem pl_s53_s {X : Int → Int} {LX : Nat} : ck_Ok p2_OL X LX 45 pl_s53 := ck_okq (cuts := []) (f := 116) ⟨pl_nmu, ck_E0⟩ (by decide +kernel)
set_option maxRecDepth 100000 in
/-- GlacierMail$Rows.put -/
noncomputable def pl_s54 : ck_Sum := (((0 : Nat), (0 : Nat), (0 : Nat)), (249 : Nat), [.inr (.inr (.inl (23 : Nat))), .inl ((0 : Int), (23 : Int), []), .inl (ck_one 2), .inl ((0 : Int), (5 : Int), [])], ([], [], []), (zl16, []), [(.inr none, (249 : Nat), ([], [], []))])
set_option maxRecDepth 100000 in
theorem pl_s54_s {X : Int → Int} {LX : Nat} : ck_Ok p2_OL X LX 45 pl_s54 := ck_okq (cuts := []) (f := 116) ⟨pl_nmu, ck_E0⟩ (by decide +kernel)
set_option maxRecDepth 100000 in
/-- GlacierMail$Rows.put -/
noncomputable def pl_s55 : ck_Sum := (((0 : Nat), (0 : Nat), (0 : Nat)), (249 : Nat), [.inr (.inr (.inl (23 : Nat))), .inl ((0 : Int), (23 : Int), []), .inl (ck_one 3), .inl ((0 : Int), (299 : Int), [])], ([], [], []), (zl17, []), [(.inr none, (249 : Nat), ([], [], []))])
set_option maxRecDepth 100000 in
theorem pl_s55_s {X : Int → Int} {LX : Nat} : ck_Ok p2_OL X LX 45 pl_s55 := ck_okq (cuts := []) (f := 116) ⟨pl_nmu, ck_E0⟩ (by decide +kernel)
set_option maxRecDepth 100000 in
/-- GlacierMail$Rows.put -/
noncomputable def pl_s56 : ck_Sum := (((0 : Nat), (0 : Nat), (0 : Nat)), (249 : Nat), [.inr (.inr (.inl (23 : Nat))), .inl ((0 : Int), (23 : Int), []), .inl (ck_one 4), .inl ((0 : Int), (98 : Int), [])], ([], [], []), (zl18, []), [(.inr none, (249 : Nat), ([], [], []))])
set_option maxRecDepth 100000 in
theorem pl_s56_s {X : Int → Int} {LX : Nat} : ck_Ok p2_OL X LX 45 pl_s56 := ck_okq (cuts := []) (f := 116) ⟨pl_nmu, ck_E0⟩ (by decide +kernel)
set_option maxRecDepth 100000 in
/-- GlacierMail$Rows.put -/
noncomputable def pl_s57 : ck_Sum := (((0 : Nat), (0 : Nat), (0 : Nat)), (249 : Nat), [.inr (.inr (.inl (23 : Nat))), .inl ((0 : Int), (23 : Int), []), .inl (ck_one 5), .inl (ck_one (-1))], ([], [], []), (zl19, []), [(.inr none, (249 : Nat), ([], [], []))])
set_option maxRecDepth 100000 in
theorem pl_s57_s {X : Int → Int} {LX : Nat} : ck_Ok p2_OL X LX 45 pl_s57 := ck_okq (cuts := []) (f := 116) ⟨pl_nmu, ck_E0⟩ (by decide +kernel)
set_option maxRecDepth 100000 in
/-- GlacierMail$Rows.put -/
noncomputable def pl_s58 : ck_Sum := (((0 : Nat), (0 : Nat), (0 : Nat)), (249 : Nat), [.inr (.inr (.inl (23 : Nat))), .inl ((0 : Int), (23 : Int), []), .inl (ck_one 6), .inl (ck_one (-1))], ([], [], []), (zl20, []), [(.inr none, (249 : Nat), ([], [], []))])
set_option maxRecDepth 100000 in
theorem pl_s58_s {X : Int → Int} {LX : Nat} : ck_Ok p2_OL X LX 45 pl_s58 := ck_okq (cuts := []) (f := 116) ⟨pl_nmu, ck_E0⟩ (by decide +kernel)
set_option maxRecDepth 100000 in
/-- GlacierMail$Rows.put -/
noncomputable def pl_s59 : ck_Sum := (((0 : Nat), (0 : Nat), (0 : Nat)), (249 : Nat), [.inr (.inr (.inl (23 : Nat))), .inl (ck_one (-1)), .inl (ck_one 0), .inl (ck_one (-1))], ([], [], []), ([], []), [(.inr none, (249 : Nat), ([], [], []))])
set_option maxRecDepth 100000 in
theorem pl_s59_s {X : Int → Int} {LX : Nat} : ck_Ok p2_OL X LX 45 pl_s59 := ck_okq (cuts := []) (f := 76) ⟨pl_nmu, ck_E0⟩ (by decide +kernel)
set_option maxRecDepth 100000 in
/-- GlacierMail$Rows.put -/
noncomputable def pl_s60 : ck_Sum := (((0 : Nat), (0 : Nat), (0 : Nat)), (249 : Nat), [.inr (.inr (.inl (23 : Nat))), .inl (ck_one (-1)), .inl (ck_one 1), .inl (ck_one (-1))], ([], [], []), ([], []), [(.inr none, (249 : Nat), ([], [], []))])
set_option maxRecDepth 100000 in
theorem pl_s60_s {X : Int → Int} {LX : Nat} : ck_Ok p2_OL X LX 45 pl_s60 := ck_okq (cuts := []) (f := 76) ⟨pl_nmu, ck_E0⟩ (by decide +kernel)
set_option maxRecDepth 100000 in
/-- GlacierMail$Rows.put -/
noncomputable def pl_s61 : ck_Sum := (((0 : Nat), (0 : Nat), (0 : Nat)), (249 : Nat), [.inr (.inr (.inl (23 : Nat))), .inl (ck_one (-1)), .inl (ck_one 2), .inl ((0 : Int), (5 : Int), [])], ([], [], []), ([], []), [(.inr none, (249 : Nat), ([], [], []))])
set_option maxRecDepth 100000 in
theorem pl_s61_s {X : Int → Int} {LX : Nat} : ck_Ok p2_OL X LX 45 pl_s61 := ck_okq (cuts := []) (f := 76) ⟨pl_nmu, ck_E0⟩ (by decide +kernel)
set_option maxRecDepth 100000 in
/-- GlacierMail$Rows.put -/
noncomputable def pl_s62 : ck_Sum := (((0 : Nat), (0 : Nat), (0 : Nat)), (249 : Nat), [.inr (.inr (.inl (23 : Nat))), .inl (ck_one (-1)), .inl (ck_one 3), .inl ((0 : Int), (299 : Int), [])], ([], [], []), ([], []), [(.inr none, (249 : Nat), ([], [], []))])
set_option maxRecDepth 100000 in
theorem pl_s62_s {X : Int → Int} {LX : Nat} : ck_Ok p2_OL X LX 45 pl_s62 := ck_okq (cuts := []) (f := 76) ⟨pl_nmu, ck_E0⟩ (by decide +kernel)
set_option maxRecDepth 100000 in
/-- GlacierMail$Rows.put -/
noncomputable def pl_s63 : ck_Sum := (((0 : Nat), (0 : Nat), (0 : Nat)), (249 : Nat), [.inr (.inr (.inl (23 : Nat))), .inl (ck_one (-1)), .inl (ck_one 4), .inl ((0 : Int), (98 : Int), [])], ([], [], []), ([], []), [(.inr none, (249 : Nat), ([], [], []))])
set_option maxRecDepth 100000 in
theorem pl_s63_s {X : Int → Int} {LX : Nat} : ck_Ok p2_OL X LX 45 pl_s63 := ck_okq (cuts := []) (f := 76) ⟨pl_nmu, ck_E0⟩ (by decide +kernel)
set_option maxRecDepth 100000 in
/-- GlacierMail$Rows.put -/
noncomputable def pl_s64 : ck_Sum := (((0 : Nat), (0 : Nat), (0 : Nat)), (249 : Nat), [.inr (.inr (.inl (23 : Nat))), .inl (ck_one (-1)), .inl (ck_one 5), .inl (ck_one (-1))], ([], [], []), ([], []), [(.inr none, (249 : Nat), ([], [], []))])
set_option maxRecDepth 100000 in
theorem pl_s64_s {X : Int → Int} {LX : Nat} : ck_Ok p2_OL X LX 45 pl_s64 := ck_okq (cuts := []) (f := 76) ⟨pl_nmu, ck_E0⟩ (by decide +kernel)
set_option maxRecDepth 100000 in
/-- GlacierMail$Rows.put -/
noncomputable def pl_s65 : ck_Sum := (((0 : Nat), (0 : Nat), (0 : Nat)), (249 : Nat), [.inr (.inr (.inl (23 : Nat))), .inl (ck_one (-1)), .inl (ck_one 6), .inl (ck_one (-1))], ([], [], []), ([], []), [(.inr none, (249 : Nat), ([], [], []))])
set_option maxRecDepth 100000 in
theorem pl_s65_s {X : Int → Int} {LX : Nat} : ck_Ok p2_OL X LX 45 pl_s65 := ck_okq (cuts := []) (f := 76) ⟨pl_nmu, ck_E0⟩ (by decide +kernel)
set_option maxRecDepth 100000 in
/-- GlacierMail$State.throwIn -/
noncomputable def pl_s66 : ck_Sum := (((1 : Nat), (0 : Nat), (0 : Nat)), (249 : Nat), [.inr (.inr (.inl (16 : Nat))), .inl (ck_one (-1)), .inl (ck_one (-1)), .inl ((0 : Int), (5 : Int), []), .inl ((0 : Int), (98 : Int), [])], ([], [], []), ([((23 : Nat), (3 : Int), (3 : Int)), ((24 : Nat), (0 : Int), (167 : Int))], []), zl224)
set_option maxRecDepth 100000 in
theorem pl_s66_s {X : Int → Int} {LX : Nat} : ck_Ok p2_OL X LX 119 pl_s66 := ck_okq (cuts := []) (f := 168) ⟨pl_nmu, ck_E1 (ck_S1 pl_s51_s ck_S0) (ck_E1 (ck_S1 pl_s52_s (ck_S1 pl_s53_s (ck_S1 pl_s54_s (ck_S1 pl_s55_s (ck_S1 pl_s56_s (ck_S1 pl_s57_s (ck_S1 pl_s58_s (ck_S1 pl_s59_s (ck_S1 pl_s60_s (ck_S1 pl_s61_s (ck_S1 pl_s62_s (ck_S1 pl_s63_s (ck_S1 pl_s64_s (ck_S1 pl_s65_s ck_S0)))))))))))))) ck_E0)⟩ (by decide +kernel)
set_option maxRecDepth 100000 in
/-- GlacierMail$ValleyReader.readRock -/
noncomputable def pl_s67 : ck_Sum := (((4 : Nat), (0 : Nat), (0 : Nat)), (249 : Nat), [.inr (.inr (.inl (213 : Nat)))], ([], [], [((214 : Nat), (3 : Int), (3 : Int), ((0 : Int), (400 : Int), [((12 : Nat), (0 : Int))]))]), ([((23 : Nat), (3 : Int), (3 : Int)), ((24 : Nat), (0 : Int), (167 : Int)), ((214 : Nat), (3 : Int), (7 : Int))], []), [(.inr (some (.inl (ck_one 0))), (249 : Nat), ([], [], zl21)), (.inr (some (.inl (ck_one 1))), (249 : Nat), ([], [], zl22))])
set_option maxRecDepth 100000 in
theorem pl_s67_s {X : Int → Int} {LX : Nat} : ck_Ok p2_OL X LX 118 pl_s67 := ck_okq (cuts := []) (f := 130) ⟨pl_nmu, ck_E1 (ck_S1 pl_s46_s ck_S0) (ck_E1 (ck_S1 pl_s24_s ck_S0) (ck_E1 (ck_S1 pl_s48_s ck_S0) (ck_E1 (ck_S1 pl_s50_s ck_S0) (ck_E1 (ck_S1 pl_s66_s ck_S0) (ck_E1 (ck_S1 pl_s26_s ck_S0) ck_E0)))))⟩ (by decide +kernel)
set_option maxRecDepth 100000 in
/-- GlacierMail$Rows.isFull -/
noncomputable def pl_s68 : ck_Sum := (((0 : Nat), (0 : Nat), (0 : Nat)), (249 : Nat), [.inr (.inr (.inl (21 : Nat)))], ([], [], []), ([], []), [(.inr (some (.inl (ck_one 0))), (249 : Nat), ([], [], [((21 : Nat), (3 : Int), (3 : Int), ((0 : Int), (7 : Int), []))])), (.inr (some (.inl (ck_one 1))), (249 : Nat), ([], [], [((21 : Nat), (3 : Int), (3 : Int), ck_one 8)]))])
set_option maxRecDepth 100000 in
theorem pl_s68_s {X : Int → Int} {LX : Nat} : ck_Ok p2_OL X LX 108 pl_s68 := ck_okq (cuts := []) (f := 86) ⟨pl_nmu, ck_E0⟩ (by decide +kernel)
set_option maxRecDepth 100000 in
/-- GlacierMail$Words.isWord -/
noncomputable def pl_s69 : ck_Sum := (((6 : Nat), (0 : Nat), (0 : Nat)), (249 : Nat), [.inr (.inr (.inl (214 : Nat))), .inr (.inr (.inr (26 : Nat)))], ([], [], [((214 : Nat), (3 : Int), (3 : Int), ((0 : Int), (400 : Int), [((12 : Nat), (0 : Int))]))]), ([], []), zl218)
set_option maxRecDepth 100000 in
theorem pl_s69_s {X : Int → Int} {LX : Nat} : ck_Ok p2_OL X LX 81 pl_s69 := ck_okq (cuts := []) (f := 360) ⟨pl_nmu, ck_E0⟩ (by decide +kernel)
set_option maxRecDepth 100000 in
/-- GlacierMail$Words.takeWord -/
noncomputable def pl_s70 : ck_Sum := (((7 : Nat), (0 : Nat), (0 : Nat)), (249 : Nat), [.inr (.inr (.inl (214 : Nat))), .inr (.inr (.inr (26 : Nat)))], ([], [], [((214 : Nat), (3 : Int), (3 : Int), ((0 : Int), (400 : Int), [((12 : Nat), (0 : Int))]))]), ([((214 : Nat), (3 : Int), (4 : Int)), ((214 : Nat), (6 : Int), (7 : Int))], []), [(.inr (some (.inl (ck_one 0))), (249 : Nat), ([], [], [((214 : Nat), (3 : Int), (3 : Int), ((0 : Int), (400 : Int), [((12 : Nat), (0 : Int))]))])), (.inr (some (.inl (ck_one 1))), (249 : Nat), ([], [], [((214 : Nat), (3 : Int), (3 : Int), ((5 : Int), (400 : Int), [((1000012 : Nat), (0 : Int))]))]))])
set_option maxRecDepth 100000 in
theorem pl_s70_s {X : Int → Int} {LX : Nat} : ck_Ok p2_OL X LX 95 pl_s70 := ck_okq (cuts := []) (f := 90) ⟨pl_nmu, ck_E1 (ck_S1 pl_s69_s ck_S0) (ck_E1 (ck_S1 pl_s24_s ck_S0) ck_E0)⟩ (by decide +kernel)
set_option maxRecDepth 100000 in
/-- GlacierMail$Rows.add -/
noncomputable def pl_s71 : ck_Sum := (((0 : Nat), (0 : Nat), (0 : Nat)), (249 : Nat), [.inr (.inr (.inl (21 : Nat)))], ([], [], []), ([((21 : Nat), (3 : Int), (3 : Int))], []), [(.inr (some (.inl ((0 : Int), (7 : Int), []))), (249 : Nat), ([], [], [((21 : Nat), (3 : Int), (3 : Int), ((1 : Int), (8 : Int), []))])), (.inr (some (.inl (ck_one (-1)))), (249 : Nat), ([], [], [((21 : Nat), (3 : Int), (3 : Int), ck_one 8)]))])
set_option maxRecDepth 100000 in
theorem pl_s71_s {X : Int → Int} {LX : Nat} : ck_Ok p2_OL X LX 102 pl_s71 := ck_okq (cuts := []) (f := 102) ⟨pl_nmu, ck_E0⟩ (by decide +kernel)
set_option maxRecDepth 100000 in
/-- GlacierMail$Rows.put -/
noncomputable def pl_s72 : ck_Sum := (((0 : Nat), (0 : Nat), (0 : Nat)), (249 : Nat), [.inr (.inr (.inl (21 : Nat))), .inl ((0 : Int), (7 : Int), []), .inl (ck_one 0), .inl ((0 : Int), (5 : Int), [])], ([], [], []), (zl23, []), [(.inr none, (249 : Nat), ([], [], []))])
set_option maxRecDepth 100000 in
theorem pl_s72_s {X : Int → Int} {LX : Nat} : ck_Ok p2_OL X LX 45 pl_s72 := ck_okq (cuts := []) (f := 116) ⟨pl_nmu, ck_E0⟩ (by decide +kernel)
set_option maxRecDepth 100000 in
/-- GlacierMail$Rows.put -/
noncomputable def pl_s73 : ck_Sum := (((0 : Nat), (0 : Nat), (0 : Nat)), (249 : Nat), [.inr (.inr (.inl (21 : Nat))), .inl ((0 : Int), (7 : Int), []), .inl (ck_one 1), .inl ((0 : Int), (98 : Int), [])], ([], [], []), (zl24, []), [(.inr none, (249 : Nat), ([], [], []))])
set_option maxRecDepth 100000 in
theorem pl_s73_s {X : Int → Int} {LX : Nat} : ck_Ok p2_OL X LX 45 pl_s73 := ck_okq (cuts := []) (f := 116) ⟨pl_nmu, ck_E0⟩ (by decide +kernel)
set_option maxRecDepth 100000 in
/-- GlacierMail$Rows.put -/
noncomputable def pl_s74 : ck_Sum := (((0 : Nat), (0 : Nat), (0 : Nat)), (249 : Nat), [.inr (.inr (.inl (21 : Nat))), .inl ((0 : Int), (7 : Int), []), .inl (ck_one 2), .inl (ck_one (-1))], ([], [], []), (zl25, []), [(.inr none, (249 : Nat), ([], [], []))])
set_option maxRecDepth 100000 in
theorem pl_s74_s {X : Int → Int} {LX : Nat} : ck_Ok p2_OL X LX 45 pl_s74 := ck_okq (cuts := []) (f := 116) ⟨pl_nmu, ck_E0⟩ (by decide +kernel)
set_option maxRecDepth 100000 in
/-- GlacierMail$Rows.put -/
noncomputable def pl_s75 : ck_Sum := (((0 : Nat), (0 : Nat), (0 : Nat)), (249 : Nat), [.inr (.inr (.inl (21 : Nat))), .inl (ck_one (-1)), .inl (ck_one 0), .inl ((0 : Int), (5 : Int), [])], ([], [], []), ([], []), [(.inr none, (249 : Nat), ([], [], []))])
set_option maxRecDepth 100000 in
theorem pl_s75_s {X : Int → Int} {LX : Nat} : ck_Ok p2_OL X LX 45 pl_s75 := ck_okq (cuts := []) (f := 76) ⟨pl_nmu, ck_E0⟩ (by decide +kernel)
set_option maxRecDepth 100000 in
/-- GlacierMail$Rows.put -/
noncomputable def pl_s76 : ck_Sum := (((0 : Nat), (0 : Nat), (0 : Nat)), (249 : Nat), [.inr (.inr (.inl (21 : Nat))), .inl (ck_one (-1)), .inl (ck_one 1), .inl ((0 : Int), (98 : Int), [])], ([], [], []), ([], []), [(.inr none, (249 : Nat), ([], [], []))])
set_option maxRecDepth 100000 in
theorem pl_s76_s {X : Int → Int} {LX : Nat} : ck_Ok p2_OL X LX 45 pl_s76 := ck_okq (cuts := []) (f := 76) ⟨pl_nmu, ck_E0⟩ (by decide +kernel)
set_option maxRecDepth 100000 in
/-- GlacierMail$Rows.put -/
noncomputable def pl_s77 : ck_Sum := (((0 : Nat), (0 : Nat), (0 : Nat)), (249 : Nat), [.inr (.inr (.inl (21 : Nat))), .inl (ck_one (-1)), .inl (ck_one 2), .inl (ck_one (-1))], ([], [], []), ([], []), [(.inr none, (249 : Nat), ([], [], []))])
set_option maxRecDepth 100000 in
theorem pl_s77_s {X : Int → Int} {LX : Nat} : ck_Ok p2_OL X LX 45 pl_s77 := ck_okq (cuts := []) (f := 76) ⟨pl_nmu, ck_E0⟩ (by decide +kernel)
set_option maxRecDepth 100000 in
/-- GlacierMail$Rows.put -/
noncomputable def pl_s78 : ck_Sum := (((0 : Nat), (0 : Nat), (0 : Nat)), (249 : Nat), [.inr (.inr (.inl (21 : Nat))), .inl ((0 : Int), (7 : Int), []), .inl (ck_one 2), .inl ((0 : Int), (5 : Int), [])], ([], [], []), (zl25, []), [(.inr none, (249 : Nat), ([], [], []))])
set_option maxRecDepth 100000 in
theorem pl_s78_s {X : Int → Int} {LX : Nat} : ck_Ok p2_OL X LX 45 pl_s78 := ck_okq (cuts := []) (f := 116) ⟨pl_nmu, ck_E0⟩ (by decide +kernel)
set_option maxRecDepth 100000 in
/-- GlacierMail$Rows.put -/
noncomputable def pl_s79 : ck_Sum := (((0 : Nat), (0 : Nat), (0 : Nat)), (249 : Nat), [.inr (.inr (.inl (21 : Nat))), .inl (ck_one (-1)), .inl (ck_one 2), .inl ((0 : Int), (5 : Int), [])], ([], [], []), ([], []), [(.inr none, (249 : Nat), ([], [], []))])
set_option maxRecDepth 100000 in
theorem pl_s79_s {X : Int → Int} {LX : Nat} : ck_Ok p2_OL X LX 45 pl_s79 := ck_okq (cuts := []) (f := 76) ⟨pl_nmu, ck_E0⟩ (by decide +kernel)
set_option maxRecDepth 100000 in
/-- GlacierMail$ValleyReader.readPerson -/
noncomputable def pl_s80 : ck_Sum := (((8 : Nat), (0 : Nat), (0 : Nat)), (249 : Nat), [.inr (.inr (.inl (213 : Nat)))], ([], [], [((214 : Nat), (3 : Int), (3 : Int), ((0 : Int), (400 : Int), [((12 : Nat), (0 : Int))]))]), ([((21 : Nat), (3 : Int), (3 : Int)), ((22 : Nat), (0 : Int), (23 : Int)), ((214 : Nat), (3 : Int), (7 : Int))], []), [(.inr (some (.inl (ck_one 0))), (249 : Nat), ([], [], zl21)), (.inr (some (.inl (ck_one 1))), (249 : Nat), ([], [], zl26))])
set_option maxRecDepth 100000 in
theorem pl_s80_s {X : Int → Int} {LX : Nat} : ck_Ok p2_OL X LX 116 pl_s80 := ck_okq (cuts := []) (f := 192) ⟨pl_nmu, ck_E1 (ck_S1 pl_s68_s ck_S0) (ck_E1 (ck_S1 pl_s24_s ck_S0) (ck_E1 (ck_S1 pl_s48_s ck_S0) (ck_E1 (ck_S1 pl_s50_s ck_S0) (ck_E1 (ck_S1 pl_s70_s ck_S0) (ck_E1 (ck_S1 pl_s71_s ck_S0) (ck_E1 (ck_S1 pl_s72_s (ck_S1 pl_s73_s (ck_S1 pl_s74_s (ck_S1 pl_s75_s (ck_S1 pl_s76_s (ck_S1 pl_s77_s (ck_S1 pl_s78_s (ck_S1 pl_s79_s ck_S0)))))))) (ck_E1 (ck_S1 pl_s26_s ck_S0) ck_E0)))))))⟩ (by decide +kernel)
set_option maxRecDepth 100000 in
/-- GlacierMail$Rows.isFull -/
noncomputable def pl_s81 : ck_Sum := (((0 : Nat), (0 : Nat), (0 : Nat)), (249 : Nat), [.inr (.inr (.inl (19 : Nat)))], ([], [], []), ([], []), [(.inr (some (.inl (ck_one 0))), (249 : Nat), ([], [], [((19 : Nat), (3 : Int), (3 : Int), ((0 : Int), (7 : Int), []))])), (.inr (some (.inl (ck_one 1))), (249 : Nat), ([], [], [((19 : Nat), (3 : Int), (3 : Int), ck_one 8)]))])
set_option maxRecDepth 100000 in
theorem pl_s81_s {X : Int → Int} {LX : Nat} : ck_Ok p2_OL X LX 108 pl_s81 := ck_okq (cuts := []) (f := 86) ⟨pl_nmu, ck_E0⟩ (by decide +kernel)
set_option maxRecDepth 100000 in
/-- GlacierMail$Words.needNumber -/
noncomputable def pl_s82 : ck_Sum := (((2 : Nat), (0 : Nat), (0 : Nat)), (249 : Nat), [.inr (.inr (.inl (214 : Nat))), .inl ((0 : Int), (299 : Int), []), .inl (ck_one 299)], ([], [], [((214 : Nat), (3 : Int), (3 : Int), ((0 : Int), (400 : Int), [((12 : Nat), (0 : Int))]))]), ([((214 : Nat), (3 : Int), (7 : Int))], []), [(.inr (some (.inl (ck_one (-1)))), (249 : Nat), ([], [], zl7)), (.inr (some (.inl ((0 : Int), (299 : Int), []))), (249 : Nat), ([], [], [((214 : Nat), (3 : Int), (3 : Int), ((0 : Int), (400 : Int), [((1000012 : Nat), (0 : Int))]))]))])
set_option maxRecDepth 100000 in
theorem pl_s82_s {X : Int → Int} {LX : Nat} : ck_Ok p2_OL X LX 94 pl_s82 := ck_okq (cuts := []) (f := 106) ⟨pl_nmu, ck_E1 (ck_S1 pl_s26_s ck_S0) (ck_E1 (ck_S1 pl_s24_s ck_S0) ck_E0)⟩ (by decide +kernel)
set_option maxRecDepth 100000 in
/-- GlacierMail$Words.needNumber -/
noncomputable def pl_s83 : ck_Sum := (((2 : Nat), (0 : Nat), (0 : Nat)), (249 : Nat), [.inr (.inr (.inl (214 : Nat))), .inl (ck_one 1), .inl (ck_one 20)], ([], [], [((214 : Nat), (3 : Int), (3 : Int), ((0 : Int), (400 : Int), [((12 : Nat), (0 : Int))]))]), ([((214 : Nat), (3 : Int), (7 : Int))], []), [(.inr (some (.inl (ck_one (-1)))), (249 : Nat), ([], [], zl7)), (.inr (some (.inl ((1 : Int), (20 : Int), []))), (249 : Nat), ([], [], [((214 : Nat), (3 : Int), (3 : Int), ((0 : Int), (400 : Int), [((1000012 : Nat), (0 : Int))]))]))])
set_option maxRecDepth 100000 in
theorem pl_s83_s {X : Int → Int} {LX : Nat} : ck_Ok p2_OL X LX 94 pl_s83 := ck_okq (cuts := []) (f := 106) ⟨pl_nmu, ck_E1 (ck_S1 pl_s26_s ck_S0) (ck_E1 (ck_S1 pl_s24_s ck_S0) ck_E0)⟩ (by decide +kernel)
set_option maxRecDepth 100000 in
/-- GlacierMail$Rows.add -/
noncomputable def pl_s84 : ck_Sum := (((0 : Nat), (0 : Nat), (0 : Nat)), (249 : Nat), [.inr (.inr (.inl (19 : Nat)))], ([], [], []), ([((19 : Nat), (3 : Int), (3 : Int))], []), [(.inr (some (.inl ((0 : Int), (7 : Int), []))), (249 : Nat), ([], [], [((19 : Nat), (3 : Int), (3 : Int), ((1 : Int), (8 : Int), []))])), (.inr (some (.inl (ck_one (-1)))), (249 : Nat), ([], [], [((19 : Nat), (3 : Int), (3 : Int), ck_one 8)]))])
set_option maxRecDepth 100000 in
theorem pl_s84_s {X : Int → Int} {LX : Nat} : ck_Ok p2_OL X LX 102 pl_s84 := ck_okq (cuts := []) (f := 102) ⟨pl_nmu, ck_E0⟩ (by decide +kernel)
set_option maxRecDepth 100000 in
/-- GlacierMail$Rows.put -/
noncomputable def pl_s85 : ck_Sum := (((0 : Nat), (0 : Nat), (0 : Nat)), (249 : Nat), [.inr (.inr (.inl (19 : Nat))), .inl ((0 : Int), (7 : Int), []), .inl (ck_one 0), .inl ((0 : Int), (299 : Int), [])], ([], [], []), (zl27, []), [(.inr none, (249 : Nat), ([], [], []))])
set_option maxRecDepth 100000 in
theorem pl_s85_s {X : Int → Int} {LX : Nat} : ck_Ok p2_OL X LX 45 pl_s85 := ck_okq (cuts := []) (f := 116) ⟨pl_nmu, ck_E0⟩ (by decide +kernel)
set_option maxRecDepth 100000 in
/-- GlacierMail$Rows.put -/
noncomputable def pl_s86 : ck_Sum := (((0 : Nat), (0 : Nat), (0 : Nat)), (249 : Nat), [.inr (.inr (.inl (19 : Nat))), .inl ((0 : Int), (7 : Int), []), .inl (ck_one 1), .inl ((0 : Int), (98 : Int), [])], ([], [], []), (zl28, []), [(.inr none, (249 : Nat), ([], [], []))])
set_option maxRecDepth 100000 in
theorem pl_s86_s {X : Int → Int} {LX : Nat} : ck_Ok p2_OL X LX 45 pl_s86 := ck_okq (cuts := []) (f := 116) ⟨pl_nmu, ck_E0⟩ (by decide +kernel)
set_option maxRecDepth 100000 in
/-- GlacierMail$Rows.put -/
noncomputable def pl_s87 : ck_Sum := (((0 : Nat), (0 : Nat), (0 : Nat)), (249 : Nat), [.inr (.inr (.inl (19 : Nat))), .inl ((0 : Int), (7 : Int), []), .inl (ck_one 2), .inl ((1 : Int), (20 : Int), [])], ([], [], []), (zl29, []), [(.inr none, (249 : Nat), ([], [], []))])
set_option maxRecDepth 100000 in
theorem pl_s87_s {X : Int → Int} {LX : Nat} : ck_Ok p2_OL X LX 45 pl_s87 := ck_okq (cuts := []) (f := 116) ⟨pl_nmu, ck_E0⟩ (by decide +kernel)
set_option maxRecDepth 100000 in
/-- GlacierMail$Rows.put -/
noncomputable def pl_s88 : ck_Sum := (((0 : Nat), (0 : Nat), (0 : Nat)), (249 : Nat), [.inr (.inr (.inl (19 : Nat))), .inl (ck_one (-1)), .inl (ck_one 0), .inl ((0 : Int), (299 : Int), [])], ([], [], []), ([], []), [(.inr none, (249 : Nat), ([], [], []))])
set_option maxRecDepth 100000 in
theorem pl_s88_s {X : Int → Int} {LX : Nat} : ck_Ok p2_OL X LX 45 pl_s88 := ck_okq (cuts := []) (f := 76) ⟨pl_nmu, ck_E0⟩ (by decide +kernel)
set_option maxRecDepth 100000 in
/-- GlacierMail$Rows.put -/
noncomputable def pl_s89 : ck_Sum := (((0 : Nat), (0 : Nat), (0 : Nat)), (249 : Nat), [.inr (.inr (.inl (19 : Nat))), .inl (ck_one (-1)), .inl (ck_one 1), .inl ((0 : Int), (98 : Int), [])], ([], [], []), ([], []), [(.inr none, (249 : Nat), ([], [], []))])
set_option maxRecDepth 100000 in
theorem pl_s89_s {X : Int → Int} {LX : Nat} : ck_Ok p2_OL X LX 45 pl_s89 := ck_okq (cuts := []) (f := 76) ⟨pl_nmu, ck_E0⟩ (by decide +kernel)
end
/-! 78r86a01.sl -/
section
/-! EVERY CALL OF THE CLASS ENDS, under a law (laid by wip/am/p2l.py). -/
set_option maxRecDepth 100000 in
/-- GlacierMail$Rows.put -/
noncomputable def pl_s90 : ck_Sum := (((0 : Nat), (0 : Nat), (0 : Nat)), (249 : Nat), [.inr (.inr (.inl (19 : Nat))), .inl (ck_one (-1)), .inl (ck_one 2), .inl ((1 : Int), (20 : Int), [])], ([], [], []), ([], []), [(.inr none, (249 : Nat), ([], [], []))])
set_option maxRecDepth 100000 in
theorem pl_s90_s {X : Int → Int} {LX : Nat} : ck_Ok p2_OL X LX 45 pl_s90 := ck_okq (cuts := []) (f := 76) ⟨pl_nmu, ck_E0⟩ (by decide +kernel)
set_option maxRecDepth 100000 in
/-- GlacierMail$ValleyReader.readFlood -/
noncomputable def pl_s91 : ck_Sum := (((4 : Nat), (0 : Nat), (0 : Nat)), (249 : Nat), [.inr (.inr (.inl (213 : Nat)))], ([], [], [((214 : Nat), (3 : Int), (3 : Int), ((0 : Int), (400 : Int), [((12 : Nat), (0 : Int))]))]), ([((19 : Nat), (3 : Int), (3 : Int)), ((20 : Nat), (0 : Int), (23 : Int)), ((214 : Nat), (3 : Int), (7 : Int))], []), [(.inr (some (.inl (ck_one 0))), (249 : Nat), ([], [], zl21)), (.inr (some (.inl (ck_one 1))), (249 : Nat), ([], [], zl30))])
set_option maxRecDepth 100000 in
theorem pl_s91_s {X : Int → Int} {LX : Nat} : ck_Ok p2_OL X LX 115 pl_s91 := ck_okq (cuts := []) (f := 194) ⟨pl_nmu, ck_E1 (ck_S1 pl_s81_s ck_S0) (ck_E1 (ck_S1 pl_s24_s ck_S0) (ck_E1 (ck_S1 pl_s82_s (ck_S1 pl_s83_s ck_S0)) (ck_E1 (ck_S1 pl_s50_s ck_S0) (ck_E1 (ck_S1 pl_s84_s ck_S0) (ck_E1 (ck_S1 pl_s85_s (ck_S1 pl_s86_s (ck_S1 pl_s87_s (ck_S1 pl_s88_s (ck_S1 pl_s89_s (ck_S1 pl_s90_s ck_S0)))))) (ck_E1 (ck_S1 pl_s26_s ck_S0) ck_E0))))))⟩ (by decide +kernel)
set_option maxRecDepth 100000 in
/-- GlacierMail$Words.needNumber -/
noncomputable def pl_s92 : ck_Sum := (((2 : Nat), (0 : Nat), (0 : Nat)), (249 : Nat), [.inr (.inr (.inl (214 : Nat))), .inl (ck_one 0), .inl (ck_one 9999)], ([], [], [((214 : Nat), (3 : Int), (3 : Int), ((0 : Int), (400 : Int), [((12 : Nat), (0 : Int))]))]), ([((214 : Nat), (3 : Int), (7 : Int))], []), [(.inr (some (.inl (ck_one (-1)))), (249 : Nat), ([], [], zl7)), (.inr (some (.inl ((0 : Int), (9999 : Int), []))), (249 : Nat), ([], [], [((214 : Nat), (3 : Int), (3 : Int), ((0 : Int), (400 : Int), [((1000012 : Nat), (0 : Int))]))]))])
set_option maxRecDepth 100000 in
theorem pl_s92_s {X : Int → Int} {LX : Nat} : ck_Ok p2_OL X LX 94 pl_s92 := ck_okq (cuts := []) (f := 106) ⟨pl_nmu, ck_E1 (ck_S1 pl_s26_s ck_S0) (ck_E1 (ck_S1 pl_s24_s ck_S0) ck_E0)⟩ (by decide +kernel)
set_option maxRecDepth 100000 in
/-- GlacierMail$ValleyReader.readSeed -/
noncomputable def pl_s93 : ck_Sum := (((3 : Nat), (0 : Nat), (0 : Nat)), (249 : Nat), [.inr (.inr (.inl (213 : Nat)))], ([], [], [((214 : Nat), (3 : Int), (3 : Int), ((0 : Int), (400 : Int), [((12 : Nat), (0 : Int))]))]), ([((16 : Nat), (5 : Int), (5 : Int)), ((214 : Nat), (3 : Int), (7 : Int))], []), zl225)
set_option maxRecDepth 100000 in
theorem pl_s93_s {X : Int → Int} {LX : Nat} : ck_Ok p2_OL X LX 114 pl_s93 := ck_okq (cuts := []) (f := 106) ⟨pl_nmu, ck_E1 (ck_S1 pl_s24_s ck_S0) (ck_E1 (ck_S1 pl_s92_s ck_S0) ck_E0)⟩ (by decide +kernel)
set_option maxRecDepth 100000 in
/-- GlacierMail$Words.needNumber -/
noncomputable def pl_s94 : ck_Sum := (((2 : Nat), (0 : Nat), (0 : Nat)), (249 : Nat), [.inr (.inr (.inl (214 : Nat))), .inl (ck_one 0), .inl ((1 : Int), (6 : Int), [])], ([], [], [((214 : Nat), (3 : Int), (3 : Int), ((0 : Int), (400 : Int), [((12 : Nat), (0 : Int))]))]), ([((214 : Nat), (3 : Int), (7 : Int))], []), [(.inr (some (.inl (ck_one (-1)))), (249 : Nat), ([], [], zl7)), (.inr (some (.inl ((0 : Int), (6 : Int), []))), (249 : Nat), ([], [], [((214 : Nat), (3 : Int), (3 : Int), ((0 : Int), (400 : Int), [((1000012 : Nat), (0 : Int))]))]))])
set_option maxRecDepth 100000 in
theorem pl_s94_s {X : Int → Int} {LX : Nat} : ck_Ok p2_OL X LX 94 pl_s94 := ck_okq (cuts := []) (f := 106) ⟨pl_nmu, ck_E1 (ck_S1 pl_s26_s ck_S0) (ck_E1 (ck_S1 pl_s24_s ck_S0) ck_E0)⟩ (by decide +kernel)
set_option maxRecDepth 100000 in
/-- GlacierMail$ValleyReader.readStripe -/
noncomputable def pl_s95 : ck_Sum := (((3 : Nat), (0 : Nat), (0 : Nat)), (249 : Nat), [.inr (.inr (.inl (213 : Nat)))], ([], [], [((214 : Nat), (3 : Int), (3 : Int), ((0 : Int), (400 : Int), [((12 : Nat), (0 : Int))]))]), ([((16 : Nat), (4 : Int), (4 : Int)), ((214 : Nat), (3 : Int), (7 : Int))], []), zl225)
set_option maxRecDepth 100000 in
theorem pl_s95_s {X : Int → Int} {LX : Nat} : ck_Ok p2_OL X LX 113 pl_s95 := ck_okq (cuts := []) (f := 110) ⟨pl_nmu, ck_E1 (ck_S1 pl_s24_s ck_S0) (ck_E1 (ck_S1 pl_s94_s ck_S0) ck_E0)⟩ (by decide +kernel)
set_option maxRecDepth 100000 in
/-- GlacierMail$Words.isWord -/
noncomputable def pl_s96 : ck_Sum := (((6 : Nat), (0 : Nat), (0 : Nat)), (249 : Nat), [.inr (.inr (.inl (214 : Nat))), .inr (.inr (.inr (21 : Nat)))], ([], [], [((214 : Nat), (3 : Int), (3 : Int), ((0 : Int), (400 : Int), [((12 : Nat), (0 : Int))]))]), ([], []), zl219)
set_option maxRecDepth 100000 in
theorem pl_s96_s {X : Int → Int} {LX : Nat} : ck_Ok p2_OL X LX 81 pl_s96 := ck_okq (cuts := []) (f := 310) ⟨pl_nmu, ck_E0⟩ (by decide +kernel)
set_option maxRecDepth 100000 in
/-- GlacierMail$Words.takeWord -/
noncomputable def pl_s97 : ck_Sum := (((7 : Nat), (0 : Nat), (0 : Nat)), (249 : Nat), [.inr (.inr (.inl (214 : Nat))), .inr (.inr (.inr (21 : Nat)))], ([], [], [((214 : Nat), (3 : Int), (3 : Int), ((0 : Int), (400 : Int), [((12 : Nat), (0 : Int))]))]), ([((214 : Nat), (3 : Int), (4 : Int)), ((214 : Nat), (6 : Int), (7 : Int))], []), [(.inr (some (.inl (ck_one 0))), (249 : Nat), ([], [], [((214 : Nat), (3 : Int), (3 : Int), ((0 : Int), (400 : Int), [((12 : Nat), (0 : Int))]))])), (.inr (some (.inl (ck_one 1))), (249 : Nat), ([], [], [((214 : Nat), (3 : Int), (3 : Int), ((4 : Int), (400 : Int), [((1000012 : Nat), (0 : Int))]))]))])
set_option maxRecDepth 100000 in
theorem pl_s97_s {X : Int → Int} {LX : Nat} : ck_Ok p2_OL X LX 95 pl_s97 := ck_okq (cuts := []) (f := 90) ⟨pl_nmu, ck_E1 (ck_S1 pl_s96_s ck_S0) (ck_E1 (ck_S1 pl_s24_s ck_S0) ck_E0)⟩ (by decide +kernel)
set_option maxRecDepth 100000 in
/-- GlacierMail$Words.needWord -/
noncomputable def pl_s98 : ck_Sum := (((8 : Nat), (0 : Nat), (0 : Nat)), (249 : Nat), [.inr (.inr (.inl (214 : Nat))), .inr (.inr (.inr (21 : Nat)))], ([], [], [((214 : Nat), (3 : Int), (3 : Int), ((0 : Int), (400 : Int), [((12 : Nat), (0 : Int))]))]), ([((214 : Nat), (3 : Int), (7 : Int))], []), [(.inr (some (.inl (ck_one 0))), (249 : Nat), ([], [], zl7)), (.inr (some (.inl (ck_one 1))), (249 : Nat), ([], [], [((214 : Nat), (3 : Int), (3 : Int), ((4 : Int), (400 : Int), [((1000012 : Nat), (0 : Int))]))]))])
set_option maxRecDepth 100000 in
theorem pl_s98_s {X : Int → Int} {LX : Nat} : ck_Ok p2_OL X LX 112 pl_s98 := ck_okq (cuts := []) (f := 88) ⟨pl_nmu, ck_E1 (ck_S1 pl_s97_s ck_S0) (ck_E1 (ck_S1 pl_s26_s ck_S0) ck_E0)⟩ (by decide +kernel)
set_option maxRecDepth 100000 in
/-- GlacierMail$Words.needNumber -/
noncomputable def pl_s99 : ck_Sum := (((2 : Nat), (0 : Nat), (0 : Nat)), (249 : Nat), [.inr (.inr (.inl (214 : Nat))), .inl (ck_one 0), .inl (ck_one 9)], ([], [], [((214 : Nat), (3 : Int), (3 : Int), ((0 : Int), (400 : Int), [((12 : Nat), (0 : Int))]))]), ([((214 : Nat), (3 : Int), (7 : Int))], []), [(.inr (some (.inl (ck_one (-1)))), (249 : Nat), ([], [], zl7)), (.inr (some (.inl ((0 : Int), (9 : Int), []))), (249 : Nat), ([], [], [((214 : Nat), (3 : Int), (3 : Int), ((0 : Int), (400 : Int), [((1000012 : Nat), (0 : Int))]))]))])
set_option maxRecDepth 100000 in
theorem pl_s99_s {X : Int → Int} {LX : Nat} : ck_Ok p2_OL X LX 94 pl_s99 := ck_okq (cuts := []) (f := 106) ⟨pl_nmu, ck_E1 (ck_S1 pl_s26_s ck_S0) (ck_E1 (ck_S1 pl_s24_s ck_S0) ck_E0)⟩ (by decide +kernel)
set_option maxRecDepth 100000 in
/-- GlacierMail$ValleyReader.readSnow -/
noncomputable def pl_s100 : ck_Sum := (((9 : Nat), (0 : Nat), (0 : Nat)), (249 : Nat), [.inr (.inr (.inl (213 : Nat)))], ([], [], [((214 : Nat), (3 : Int), (3 : Int), ((0 : Int), (400 : Int), [((12 : Nat), (0 : Int))]))]), ([((16 : Nat), (2 : Int), (3 : Int)), ((214 : Nat), (3 : Int), (7 : Int))], []), zl226)
set_option maxRecDepth 100000 in
theorem pl_s100_s {X : Int → Int} {LX : Nat} : ck_Ok p2_OL X LX 110 pl_s100 := ck_okq (cuts := []) (f := 136) ⟨pl_nmu, ck_E1 (ck_S1 pl_s24_s ck_S0) (ck_E1 (ck_S1 pl_s50_s ck_S0) (ck_E1 (ck_S1 pl_s98_s ck_S0) (ck_E1 (ck_S1 pl_s99_s ck_S0) ck_E0)))⟩ (by decide +kernel)
set_option maxRecDepth 100000 in
/-- GlacierMail$Rows.isFull -/
noncomputable def pl_s101 : ck_Sum := (((0 : Nat), (0 : Nat), (0 : Nat)), (249 : Nat), [.inr (.inr (.inl (17 : Nat)))], ([], [], []), ([], []), [(.inr (some (.inl (ck_one 0))), (249 : Nat), ([], [], [((17 : Nat), (3 : Int), (3 : Int), ((0 : Int), (7 : Int), []))])), (.inr (some (.inl (ck_one 1))), (249 : Nat), ([], [], [((17 : Nat), (3 : Int), (3 : Int), ck_one 8)]))])
set_option maxRecDepth 100000 in
theorem pl_s101_s {X : Int → Int} {LX : Nat} : ck_Ok p2_OL X LX 108 pl_s101 := ck_okq (cuts := []) (f := 86) ⟨pl_nmu, ck_E0⟩ (by decide +kernel)
set_option maxRecDepth 100000 in
/-- GlacierMail$Rows.size -/
noncomputable def pl_s102 : ck_Sum := (((0 : Nat), (0 : Nat), (0 : Nat)), (249 : Nat), [.inr (.inr (.inl (17 : Nat)))], ([], [], []), ([], []), [(.inr (some (.inl ((0 : Int), (8 : Int), []))), (249 : Nat), ([], [], []))])
set_option maxRecDepth 100000 in
theorem pl_s102_s {X : Int → Int} {LX : Nat} : ck_Ok p2_OL X LX 9 pl_s102 := ck_okq (cuts := []) (f := 76) ⟨pl_nmu, ck_E0⟩ (by decide +kernel)
set_option maxRecDepth 100000 in
/-- GlacierMail$Rows.get -/
noncomputable def pl_s103 : ck_Sum := (((0 : Nat), (0 : Nat), (0 : Nat)), (249 : Nat), [.inr (.inr (.inl (17 : Nat))), .inl ((-2147483648 : Int), (2147483647 : Int), []), .inl ((-2147483648 : Int), (2147483647 : Int), [])], ([], [], []), ([], []), [(.inr (some (.inl (ck_one (-1)))), (249 : Nat), ([], [], [])), (.inr (some (.inl ((0 : Int), (98 : Int), []))), (249 : Nat), ([], [], [((17 : Nat), (3 : Int), (3 : Int), ((1 : Int), (8 : Int), []))]))])
set_option maxRecDepth 100000 in
theorem pl_s103_s {X : Int → Int} {LX : Nat} : ck_Ok p2_OL X LX 10 pl_s103 := ck_okq (cuts := []) (f := 114) ⟨pl_nmu, ck_E0⟩ (by decide +kernel)
set_option maxRecDepth 100000 in
/-- GlacierMail$Words.needNumber -/
noncomputable def pl_s104 : ck_Sum := (((2 : Nat), (0 : Nat), (0 : Nat)), (249 : Nat), [.inr (.inr (.inl (214 : Nat))), .inl (ck_one 0), .inl (ck_one 0)], ([], [], [((214 : Nat), (3 : Int), (3 : Int), ((0 : Int), (400 : Int), [((12 : Nat), (0 : Int))]))]), ([((214 : Nat), (3 : Int), (7 : Int))], []), [(.inr (some (.inl (ck_one (-1)))), (249 : Nat), ([], [], zl7)), (.inr (some (.inl (ck_one 0))), (249 : Nat), ([], [], [((214 : Nat), (3 : Int), (3 : Int), ((0 : Int), (400 : Int), [((1000012 : Nat), (0 : Int))]))]))])
set_option maxRecDepth 100000 in
theorem pl_s104_s {X : Int → Int} {LX : Nat} : ck_Ok p2_OL X LX 94 pl_s104 := ck_okq (cuts := []) (f := 106) ⟨pl_nmu, ck_E1 (ck_S1 pl_s26_s ck_S0) (ck_E1 (ck_S1 pl_s24_s ck_S0) ck_E0)⟩ (by decide +kernel)
set_option maxRecDepth 100000 in
/-- GlacierMail$Words.needNumber -/
noncomputable def pl_s105 : ck_Sum := (((2 : Nat), (0 : Nat), (0 : Nat)), (249 : Nat), [.inr (.inr (.inl (214 : Nat))), .inl ((1 : Int), (99 : Int), []), .inl ((9 : Int), (98 : Int), [])], ([], [], [((214 : Nat), (3 : Int), (3 : Int), ((0 : Int), (400 : Int), [((12 : Nat), (0 : Int))]))]), ([((214 : Nat), (3 : Int), (7 : Int))], []), [(.inr (some (.inl (ck_one (-1)))), (249 : Nat), ([], [], zl7)), (.inr (some (.inl ((1 : Int), (98 : Int), []))), (249 : Nat), ([], [], [((214 : Nat), (3 : Int), (3 : Int), ((0 : Int), (400 : Int), [((1000012 : Nat), (0 : Int))]))]))])
set_option maxRecDepth 100000 in
theorem pl_s105_s {X : Int → Int} {LX : Nat} : ck_Ok p2_OL X LX 94 pl_s105 := ck_okq (cuts := []) (f := 106) ⟨pl_nmu, ck_E1 (ck_S1 pl_s26_s ck_S0) (ck_E1 (ck_S1 pl_s24_s ck_S0) ck_E0)⟩ (by decide +kernel)
set_option maxRecDepth 100000 in
/-- GlacierMail$Words.needNumber -/
noncomputable def pl_s106 : ck_Sum := (((1 : Nat), (0 : Nat), (0 : Nat)), (249 : Nat), [.inr (.inr (.inl (214 : Nat))), .inl ((1 : Int), (99 : Int), []), .inl (ck_one 0)], ([], [], []), ([((214 : Nat), (5 : Int), (5 : Int))], []), [(.inr (some (.inl (ck_one (-1)))), (249 : Nat), ([], [], [((214 : Nat), (5 : Int), (5 : Int), ((0 : Int), (400 : Int), []))]))])
set_option maxRecDepth 100000 in
theorem pl_s106_s {X : Int → Int} {LX : Nat} : ck_Ok p2_OL X LX 94 pl_s106 := ck_okq (cuts := []) (f := 106) ⟨pl_nmu, ck_E1 (ck_S1 pl_s26_s ck_S0) ck_E0⟩ (by decide +kernel)
set_option maxRecDepth 100000 in
/-- GlacierMail$Rows.add -/
noncomputable def pl_s107 : ck_Sum := (((0 : Nat), (0 : Nat), (0 : Nat)), (249 : Nat), [.inr (.inr (.inl (17 : Nat)))], ([], [], []), ([((17 : Nat), (3 : Int), (3 : Int))], []), [(.inr (some (.inl ((0 : Int), (7 : Int), []))), (249 : Nat), ([], [], [((17 : Nat), (3 : Int), (3 : Int), ((1 : Int), (8 : Int), []))])), (.inr (some (.inl (ck_one (-1)))), (249 : Nat), ([], [], [((17 : Nat), (3 : Int), (3 : Int), ck_one 8)]))])
set_option maxRecDepth 100000 in
theorem pl_s107_s {X : Int → Int} {LX : Nat} : ck_Ok p2_OL X LX 102 pl_s107 := ck_okq (cuts := []) (f := 102) ⟨pl_nmu, ck_E0⟩ (by decide +kernel)
set_option maxRecDepth 100000 in
/-- GlacierMail$Rows.put -/
noncomputable def pl_s108 : ck_Sum := (((0 : Nat), (0 : Nat), (0 : Nat)), (249 : Nat), [.inr (.inr (.inl (17 : Nat))), .inl ((0 : Int), (7 : Int), []), .inl (ck_one 0), .inl ((0 : Int), (98 : Int), [])], ([], [], []), (zl33, []), [(.inr none, (249 : Nat), ([], [], []))])
set_option maxRecDepth 100000 in
theorem pl_s108_s {X : Int → Int} {LX : Nat} : ck_Ok p2_OL X LX 45 pl_s108 := ck_okq (cuts := []) (f := 116) ⟨pl_nmu, ck_E0⟩ (by decide +kernel)
set_option maxRecDepth 100000 in
/-- GlacierMail$Rows.put -/
noncomputable def pl_s109 : ck_Sum := (((0 : Nat), (0 : Nat), (0 : Nat)), (249 : Nat), [.inr (.inr (.inl (17 : Nat))), .inl (ck_one (-1)), .inl (ck_one 0), .inl ((0 : Int), (98 : Int), [])], ([], [], []), ([], []), [(.inr none, (249 : Nat), ([], [], []))])
set_option maxRecDepth 100000 in
theorem pl_s109_s {X : Int → Int} {LX : Nat} : ck_Ok p2_OL X LX 45 pl_s109 := ck_okq (cuts := []) (f := 76) ⟨pl_nmu, ck_E0⟩ (by decide +kernel)
set_option maxRecDepth 100000 in
/-- GlacierMail$Rows.put -/
noncomputable def pl_s110 : ck_Sum := (((0 : Nat), (0 : Nat), (0 : Nat)), (249 : Nat), [.inr (.inr (.inl (17 : Nat))), .inl ((0 : Int), (7 : Int), []), .inl (ck_one 0), .inl (ck_one 0)], ([], [], []), (zl33, []), [(.inr none, (249 : Nat), ([], [], []))])
set_option maxRecDepth 100000 in
theorem pl_s110_s {X : Int → Int} {LX : Nat} : ck_Ok p2_OL X LX 45 pl_s110 := ck_okq (cuts := []) (f := 116) ⟨pl_nmu, ck_E0⟩ (by decide +kernel)
set_option maxRecDepth 100000 in
/-- GlacierMail$Rows.put -/
noncomputable def pl_s111 : ck_Sum := (((0 : Nat), (0 : Nat), (0 : Nat)), (249 : Nat), [.inr (.inr (.inl (17 : Nat))), .inl (ck_one (-1)), .inl (ck_one 0), .inl (ck_one 0)], ([], [], []), ([], []), [(.inr none, (249 : Nat), ([], [], []))])
set_option maxRecDepth 100000 in
theorem pl_s111_s {X : Int → Int} {LX : Nat} : ck_Ok p2_OL X LX 45 pl_s111 := ck_okq (cuts := []) (f := 76) ⟨pl_nmu, ck_E0⟩ (by decide +kernel)
set_option maxRecDepth 100000 in
/-- GlacierMail$Rows.put -/
noncomputable def pl_s112 : ck_Sum := (((0 : Nat), (0 : Nat), (0 : Nat)), (249 : Nat), [.inr (.inr (.inl (17 : Nat))), .inl ((0 : Int), (7 : Int), []), .inl (ck_one 0), .inl ((1 : Int), (98 : Int), [])], ([], [], []), (zl33, []), [(.inr none, (249 : Nat), ([], [], []))])
set_option maxRecDepth 100000 in
theorem pl_s112_s {X : Int → Int} {LX : Nat} : ck_Ok p2_OL X LX 45 pl_s112 := ck_okq (cuts := []) (f := 116) ⟨pl_nmu, ck_E0⟩ (by decide +kernel)
set_option maxRecDepth 100000 in
/-- GlacierMail$Rows.put -/
noncomputable def pl_s113 : ck_Sum := (((0 : Nat), (0 : Nat), (0 : Nat)), (249 : Nat), [.inr (.inr (.inl (17 : Nat))), .inl (ck_one (-1)), .inl (ck_one 0), .inl ((1 : Int), (98 : Int), [])], ([], [], []), ([], []), [(.inr none, (249 : Nat), ([], [], []))])
set_option maxRecDepth 100000 in
theorem pl_s113_s {X : Int → Int} {LX : Nat} : ck_Ok p2_OL X LX 45 pl_s113 := ck_okq (cuts := []) (f := 76) ⟨pl_nmu, ck_E0⟩ (by decide +kernel)
set_option maxRecDepth 100000 in
/-- GlacierMail$Rows.put -/
noncomputable def pl_s114 : ck_Sum := (((0 : Nat), (0 : Nat), (0 : Nat)), (249 : Nat), [.inr (.inr (.inl (17 : Nat))), .inl ((0 : Int), (7 : Int), []), .inl ((1 : Int), (6 : Int), []), .inl ((0 : Int), (20 : Int), [])], ([], [], []), (zl34, []), [(.inr none, (249 : Nat), ([], [], []))])
set_option maxRecDepth 100000 in
theorem pl_s114_s {X : Int → Int} {LX : Nat} : ck_Ok p2_OL X LX 45 pl_s114 := ck_okq (cuts := []) (f := 116) ⟨pl_nmu, ck_E0⟩ (by decide +kernel)
set_option maxRecDepth 100000 in
/-- GlacierMail$ValleyReader.readSpeeds -/
noncomputable def pl_s115 : ck_Sum := (((3 : Nat), (0 : Nat), (0 : Nat)), (249 : Nat), [.inr (.inr (.inl (213 : Nat))), .inr (.inr (.inl (17 : Nat))), .inl ((0 : Int), (7 : Int), []), .inl (ck_one 1)], ([], [], [((214 : Nat), (3 : Int), (3 : Int), ((0 : Int), (400 : Int), [((12 : Nat), (0 : Int))]))]), (zl35, []), zl221)
set_option maxRecDepth 100000 in
theorem pl_s115_s {X : Int → Int} {LX : Nat} : ck_Ok p2_OL X LX 109 pl_s115 := ck_okq (cuts := [((3 : Nat), [some (.inr (.inr (.inl (213 : Nat)))), some (.inr (.inr (.inl (17 : Nat)))), some (.inl ((0 : Int), (7 : Int), [])), some (.inl (ck_one 1)), some (.inl ((0 : Int), (6 : Int), [])), none], ([], [], [((214 : Nat), (3 : Int), (3 : Int), ((0 : Int), (400 : Int), [((1000012 : Nat), (0 : Int))]))]), (100 : Nat), .inl (4 : Nat), true)]) (f := 186) ⟨pl_nmu, ck_E1 (ck_S1 pl_s40_s ck_S0) (ck_E1 (ck_S1 pl_s114_s ck_S0) ck_E0)⟩ (by decide +kernel)
set_option maxRecDepth 100000 in
/-- GlacierMail$Rows.put -/
noncomputable def pl_s116 : ck_Sum := (((0 : Nat), (0 : Nat), (0 : Nat)), (249 : Nat), [.inr (.inr (.inl (17 : Nat))), .inl (ck_one (-1)), .inl ((1 : Int), (6 : Int), []), .inl ((0 : Int), (20 : Int), [])], ([], [], []), ([], []), [(.inr none, (249 : Nat), ([], [], []))])
set_option maxRecDepth 100000 in
theorem pl_s116_s {X : Int → Int} {LX : Nat} : ck_Ok p2_OL X LX 45 pl_s116 := ck_okq (cuts := []) (f := 76) ⟨pl_nmu, ck_E0⟩ (by decide +kernel)
set_option maxRecDepth 100000 in
/-- GlacierMail$ValleyReader.readSpeeds -/
noncomputable def pl_s117 : ck_Sum := (((3 : Nat), (0 : Nat), (0 : Nat)), (249 : Nat), [.inr (.inr (.inl (213 : Nat))), .inr (.inr (.inl (17 : Nat))), .inl (ck_one (-1)), .inl (ck_one 1)], ([], [], [((214 : Nat), (3 : Int), (3 : Int), ((0 : Int), (400 : Int), [((12 : Nat), (0 : Int))]))]), ([((214 : Nat), (3 : Int), (7 : Int))], []), zl221)
set_option maxRecDepth 100000 in
theorem pl_s117_s {X : Int → Int} {LX : Nat} : ck_Ok p2_OL X LX 109 pl_s117 := ck_okq (cuts := [((3 : Nat), [some (.inr (.inr (.inl (213 : Nat)))), some (.inr (.inr (.inl (17 : Nat)))), some (.inl (ck_one (-1))), some (.inl (ck_one 1)), some (.inl ((0 : Int), (6 : Int), [])), none], ([], [], [((214 : Nat), (3 : Int), (3 : Int), ((0 : Int), (400 : Int), [((1000012 : Nat), (0 : Int))]))]), (100 : Nat), .inl (4 : Nat), true)]) (f := 186) ⟨pl_nmu, ck_E1 (ck_S1 pl_s40_s ck_S0) (ck_E1 (ck_S1 pl_s116_s ck_S0) ck_E0)⟩ (by decide +kernel)
set_option maxRecDepth 100000 in
/-- GlacierMail$ValleyReader.readSection -/
noncomputable def pl_s118 : ck_Sum := (((4 : Nat), (0 : Nat), (0 : Nat)), (249 : Nat), [.inr (.inr (.inl (213 : Nat)))], ([], [], [((214 : Nat), (3 : Int), (3 : Int), ((0 : Int), (400 : Int), [((12 : Nat), (0 : Int))]))]), ([((17 : Nat), (3 : Int), (3 : Int)), ((18 : Nat), (0 : Int), (55 : Int)), ((214 : Nat), (3 : Int), (7 : Int))], []), [(.inr (some (.inl (ck_one 0))), (249 : Nat), ([], [], zl21)), (.inr (some (.inl (ck_one 1))), (249 : Nat), ([], [], zl36))])
set_option maxRecDepth 100000 in
theorem pl_s118_s {X : Int → Int} {LX : Nat} : ck_Ok p2_OL X LX 107 pl_s118 := ck_okq (cuts := []) (f := 188) ⟨pl_nmu, ck_E1 (ck_S1 pl_s101_s ck_S0) (ck_E1 (ck_S1 pl_s24_s ck_S0) (ck_E1 (ck_S1 pl_s102_s ck_S0) (ck_E1 (ck_S1 pl_s103_s ck_S0) (ck_E1 (ck_S1 pl_s49_s (ck_S1 pl_s104_s (ck_S1 pl_s105_s (ck_S1 pl_s106_s ck_S0)))) (ck_E1 (ck_S1 pl_s107_s ck_S0) (ck_E1 (ck_S1 pl_s108_s (ck_S1 pl_s109_s (ck_S1 pl_s110_s (ck_S1 pl_s111_s (ck_S1 pl_s112_s (ck_S1 pl_s113_s ck_S0)))))) (ck_E1 (ck_S1 pl_s115_s (ck_S1 pl_s117_s ck_S0)) (ck_E1 (ck_S1 pl_s26_s ck_S0) ck_E0))))))))⟩ (by decide +kernel)
set_option maxRecDepth 100000 in
/-- GlacierMail$Rows.size -/
noncomputable def pl_s119 : ck_Sum := (((0 : Nat), (0 : Nat), (0 : Nat)), (249 : Nat), [.inr (.inr (.inl (19 : Nat)))], ([], [], []), ([], []), [(.inr (some (.inl ((0 : Int), (8 : Int), []))), (249 : Nat), ([], [], []))])
set_option maxRecDepth 100000 in
theorem pl_s119_s {X : Int → Int} {LX : Nat} : ck_Ok p2_OL X LX 9 pl_s119 := ck_okq (cuts := []) (f := 76) ⟨pl_nmu, ck_E0⟩ (by decide +kernel)
set_option maxRecDepth 100000 in
/-- GlacierMail$Rows.size -/
noncomputable def pl_s120 : ck_Sum := (((0 : Nat), (0 : Nat), (0 : Nat)), (249 : Nat), [.inr (.inr (.inl (21 : Nat)))], ([], [], []), ([], []), [(.inr (some (.inl ((0 : Int), (8 : Int), []))), (249 : Nat), ([], [], []))])
set_option maxRecDepth 100000 in
theorem pl_s120_s {X : Int → Int} {LX : Nat} : ck_Ok p2_OL X LX 9 pl_s120 := ck_okq (cuts := []) (f := 76) ⟨pl_nmu, ck_E0⟩ (by decide +kernel)
set_option maxRecDepth 100000 in
/-- GlacierMail$Rows.size -/
noncomputable def pl_s121 : ck_Sum := (((0 : Nat), (0 : Nat), (0 : Nat)), (249 : Nat), [.inr (.inr (.inl (23 : Nat)))], ([], [], []), ([], []), [(.inr (some (.inl ((0 : Int), (24 : Int), []))), (249 : Nat), ([], [], []))])
set_option maxRecDepth 100000 in
theorem pl_s121_s {X : Int → Int} {LX : Nat} : ck_Ok p2_OL X LX 9 pl_s121 := ck_okq (cuts := []) (f := 76) ⟨pl_nmu, ck_E0⟩ (by decide +kernel)
set_option maxRecDepth 100000 in
/-- GlacierMail$Rows.size -/
noncomputable def pl_s122 : ck_Sum := (((0 : Nat), (0 : Nat), (0 : Nat)), (249 : Nat), [.inr (.inr (.inl (25 : Nat)))], ([], [], []), ([], []), [(.inr (some (.inl ((0 : Int), (6 : Int), []))), (249 : Nat), ([], [], []))])
set_option maxRecDepth 100000 in
theorem pl_s122_s {X : Int → Int} {LX : Nat} : ck_Ok p2_OL X LX 9 pl_s122 := ck_okq (cuts := []) (f := 76) ⟨pl_nmu, ck_E0⟩ (by decide +kernel)
set_option maxRecDepth 100000 in
/-- GlacierMail$State.isEmpty -/
noncomputable def pl_s123 : ck_Sum := (((1 : Nat), (0 : Nat), (0 : Nat)), (249 : Nat), [.inr (.inr (.inl (16 : Nat)))], ([], [], []), ([], []), [(.inr (some (.inl (ck_one 0))), (249 : Nat), ([], [], [])), (.inr (some (.inl (ck_one 1))), (249 : Nat), ([], [], []))])
set_option maxRecDepth 100000 in
theorem pl_s123_s {X : Int → Int} {LX : Nat} : ck_Ok p2_OL X LX 105 pl_s123 := ck_okq (cuts := []) (f := 116) ⟨pl_nmu, ck_E1 (ck_S1 pl_s102_s (ck_S1 pl_s119_s (ck_S1 pl_s120_s (ck_S1 pl_s121_s (ck_S1 pl_s122_s ck_S0))))) ck_E0⟩ (by decide +kernel)
set_option maxRecDepth 100000 in
/-- GlacierMail$Words.needNumber -/
noncomputable def pl_s124 : ck_Sum := (((2 : Nat), (0 : Nat), (0 : Nat)), (249 : Nat), [.inr (.inr (.inl (214 : Nat))), .inl (ck_one 10), .inl (ck_one 99)], ([], [], [((214 : Nat), (3 : Int), (3 : Int), ((0 : Int), (400 : Int), [((12 : Nat), (0 : Int))]))]), ([((214 : Nat), (3 : Int), (7 : Int))], []), [(.inr (some (.inl (ck_one (-1)))), (249 : Nat), ([], [], zl7)), (.inr (some (.inl ((10 : Int), (99 : Int), []))), (249 : Nat), ([], [], [((214 : Nat), (3 : Int), (3 : Int), ((0 : Int), (400 : Int), [((1000012 : Nat), (0 : Int))]))]))])
set_option maxRecDepth 100000 in
theorem pl_s124_s {X : Int → Int} {LX : Nat} : ck_Ok p2_OL X LX 94 pl_s124 := ck_okq (cuts := []) (f := 106) ⟨pl_nmu, ck_E1 (ck_S1 pl_s26_s ck_S0) (ck_E1 (ck_S1 pl_s24_s ck_S0) ck_E0)⟩ (by decide +kernel)
set_option maxRecDepth 100000 in
/-- GlacierMail$ValleyReader.readLast -/
noncomputable def pl_s125 : ck_Sum := (((3 : Nat), (0 : Nat), (0 : Nat)), (249 : Nat), [.inr (.inr (.inl (213 : Nat)))], ([], [], [((214 : Nat), (3 : Int), (3 : Int), ((0 : Int), (400 : Int), [((12 : Nat), (0 : Int))]))]), ([((16 : Nat), (1 : Int), (2 : Int)), ((214 : Nat), (3 : Int), (7 : Int))], []), [(.inr (some (.inl (ck_one 0))), (249 : Nat), ([], [], zl21)), (.inr (some (.inl (ck_one 1))), (249 : Nat), ([], [], zl37))])
set_option maxRecDepth 100000 in
theorem pl_s125_s {X : Int → Int} {LX : Nat} : ck_Ok p2_OL X LX 106 pl_s125 := ck_okq (cuts := []) (f := 122) ⟨pl_nmu, ck_E1 (ck_S1 pl_s123_s ck_S0) (ck_E1 (ck_S1 pl_s26_s ck_S0) (ck_E1 (ck_S1 pl_s24_s ck_S0) (ck_E1 (ck_S1 pl_s124_s ck_S0) ck_E0)))⟩ (by decide +kernel)
set_option maxRecDepth 100000 in
/-- GlacierMail$Words.needNumber -/
noncomputable def pl_s126 : ck_Sum := (((2 : Nat), (0 : Nat), (0 : Nat)), (249 : Nat), [.inr (.inr (.inl (214 : Nat))), .inl (ck_one 1), .inl (ck_one 6)], ([], [], [((214 : Nat), (3 : Int), (3 : Int), ((0 : Int), (400 : Int), [((12 : Nat), (0 : Int))]))]), ([((214 : Nat), (3 : Int), (7 : Int))], []), [(.inr (some (.inl (ck_one (-1)))), (249 : Nat), ([], [], zl7)), (.inr (some (.inl ((1 : Int), (6 : Int), []))), (249 : Nat), ([], [], [((214 : Nat), (3 : Int), (3 : Int), ((0 : Int), (400 : Int), [((1000012 : Nat), (0 : Int))]))]))])
set_option maxRecDepth 100000 in
theorem pl_s126_s {X : Int → Int} {LX : Nat} : ck_Ok p2_OL X LX 94 pl_s126 := ck_okq (cuts := []) (f := 106) ⟨pl_nmu, ck_E1 (ck_S1 pl_s26_s ck_S0) (ck_E1 (ck_S1 pl_s24_s ck_S0) ck_E0)⟩ (by decide +kernel)
set_option maxRecDepth 100000 in
/-- GlacierMail$ValleyReader.readLanes -/
noncomputable def pl_s127 : ck_Sum := (((3 : Nat), (0 : Nat), (0 : Nat)), (249 : Nat), [.inr (.inr (.inl (213 : Nat)))], ([], [], [((214 : Nat), (3 : Int), (3 : Int), ((0 : Int), (400 : Int), [((12 : Nat), (0 : Int))]))]), ([((16 : Nat), (0 : Int), (0 : Int)), ((16 : Nat), (4 : Int), (4 : Int)), ((214 : Nat), (3 : Int), (7 : Int))], []), [(.inr (some (.inl (ck_one 0))), (249 : Nat), ([], [], zl21)), (.inr (some (.inl (ck_one 1))), (249 : Nat), ([], [], zl38))])
set_option maxRecDepth 100000 in
theorem pl_s127_s {X : Int → Int} {LX : Nat} : ck_Ok p2_OL X LX 104 pl_s127 := ck_okq (cuts := []) (f := 122) ⟨pl_nmu, ck_E1 (ck_S1 pl_s123_s ck_S0) (ck_E1 (ck_S1 pl_s26_s ck_S0) (ck_E1 (ck_S1 pl_s24_s ck_S0) (ck_E1 (ck_S1 pl_s126_s ck_S0) ck_E0)))⟩ (by decide +kernel)
set_option maxRecDepth 100000 in
/-- GlacierMail$ValleyReader.readLine -/
noncomputable def pl_s128 : ck_Sum := (((10 : Nat), (0 : Nat), (0 : Nat)), (249 : Nat), [.inr (.inr (.inl (213 : Nat)))], ([], [], [((214 : Nat), (3 : Int), (3 : Int), ((0 : Int), (400 : Int), [((12 : Nat), (0 : Int))]))]), (zl39, []), zl226)
set_option maxRecDepth 100000 in
theorem pl_s128_s {X : Int → Int} {LX : Nat} : ck_Ok p2_OL X LX 103 pl_s128 := ck_okq (cuts := []) (f := 178) ⟨pl_nmu, ck_E1 (ck_S1 pl_s28_s (ck_S1 pl_s29_s (ck_S1 pl_s30_s (ck_S1 pl_s31_s (ck_S1 pl_s32_s (ck_S1 pl_s33_s (ck_S1 pl_s34_s (ck_S1 pl_s35_s (ck_S1 pl_s36_s (ck_S1 pl_s37_s ck_S0)))))))))) (ck_E1 (ck_S1 pl_s26_s ck_S0) (ck_E1 (ck_S1 pl_s45_s ck_S0) (ck_E1 (ck_S1 pl_s67_s ck_S0) (ck_E1 (ck_S1 pl_s80_s ck_S0) (ck_E1 (ck_S1 pl_s91_s ck_S0) (ck_E1 (ck_S1 pl_s93_s ck_S0) (ck_E1 (ck_S1 pl_s95_s ck_S0) (ck_E1 (ck_S1 pl_s100_s ck_S0) (ck_E1 (ck_S1 pl_s118_s ck_S0) (ck_E1 (ck_S1 pl_s125_s ck_S0) (ck_E1 (ck_S1 pl_s127_s ck_S0) ck_E0)))))))))))⟩ (by decide +kernel)
set_option maxRecDepth 100000 in
/-- GlacierMail$Words.needSign -/
noncomputable def pl_s129 : ck_Sum := (((2 : Nat), (0 : Nat), (0 : Nat)), (249 : Nat), [.inr (.inr (.inl (214 : Nat))), .inl (ck_one 59)], ([], [], [((214 : Nat), (3 : Int), (3 : Int), ((0 : Int), (400 : Int), [((12 : Nat), (0 : Int))]))]), ([((214 : Nat), (3 : Int), (7 : Int))], []), [(.inr (some (.inl (ck_one 1))), (249 : Nat), ([], [], [((214 : Nat), (3 : Int), (3 : Int), ((0 : Int), (400 : Int), [((1000012 : Nat), (0 : Int))]))])), (.inr (some (.inl (ck_one 0))), (249 : Nat), ([], [], zl7))])
set_option maxRecDepth 100000 in
theorem pl_s129_s {X : Int → Int} {LX : Nat} : ck_Ok p2_OL X LX 98 pl_s129 := ck_okq (cuts := []) (f := 86) ⟨pl_nmu, ck_E1 (ck_S1 pl_s24_s ck_S0) (ck_E1 (ck_S1 pl_s26_s ck_S0) ck_E0)⟩ (by decide +kernel)
set_option maxRecDepth 100000 in
/-- GlacierMail$TextReader.readText -/
noncomputable def pl_s130 : ck_Sum := (((11 : Nat), (0 : Nat), (0 : Nat)), (249 : Nat), [.inr (.inr (.inl (213 : Nat))), .inl ((0 : Int), (400 : Int), [])], ([], [], [((214 : Nat), (3 : Int), (3 : Int), ((0 : Int), (400 : Int), [((12 : Nat), (0 : Int))]))]), (zl40, []), zl217)
set_option maxRecDepth 100000 in
theorem pl_s130_s {X : Int → Int} {LX : Nat} : ck_Ok p2_OL X LX 72 pl_s130 := ck_okq (cuts := [((29 : Nat), [some (.inr (.inr (.inl (213 : Nat)))), some (.inl ((0 : Int), (400 : Int), [])), some (.inl ((0 : Int), (23 : Int), []))], ([], [], []), (100 : Nat), .inl (2 : Nat), true)]) (f := 174) ⟨pl_nmu, ck_E1 (ck_S1 pl_s21_s ck_S0) (ck_E1 (ck_S1 pl_s25_s ck_S0) (ck_E1 (ck_S1 pl_s26_s ck_S0) (ck_E1 (ck_S1 pl_s27_s ck_S0) (ck_E1 (ck_S1 pl_s128_s ck_S0) (ck_E1 (ck_S1 pl_s129_s ck_S0) ck_E0)))))⟩ (by decide +kernel)
set_option maxRecDepth 100000 in
/-- GlacierMail$Ice.reckonHeats -/
noncomputable def pl_s131 : ck_Sum := (((0 : Nat), (0 : Nat), (0 : Nat)), (249 : Nat), [.inr (.inr (.inl (200 : Nat)))], ([], [], []), ([((201 : Nat), (0 : Int), (299 : Int))], []), [(.inr none, (249 : Nat), ([], [], []))])
set_option maxRecDepth 100000 in
theorem pl_s131_s {X : Int → Int} {LX : Nat} : ck_Ok p2_OL X LX 6 pl_s131 := ck_okq (cuts := [((10 : Nat), [some (.inr (.inr (.inl (200 : Nat)))), some (.inl ((-2147483648 : Int), (2147483647 : Int), [])), some (.inl ((0 : Int), (300 : Int), []))], ([], [], []), (100 : Nat), .inl (2 : Nat), true)]) (f := 182) ⟨pl_nmu, ck_E0⟩ (by decide +kernel)
set_option maxRecDepth 100000 in
/-- java/util/Arrays.fill -/
noncomputable def pl_s132 : ck_Sum := (((0 : Nat), (0 : Nat), (0 : Nat)), (249 : Nat), [.inr (.inr (.inl (202 : Nat))), .inl (ck_one 0)], ([], [], []), ([((202 : Nat), (0 : Int), (593 : Int))], []), [(.inr none, (249 : Nat), ([], [], []))])
set_option maxRecDepth 100000 in
theorem pl_s132_s {X : Int → Int} {LX : Nat} : ck_Ok p2_OL X LX 8 pl_s132 := ck_okq (cuts := [((5 : Nat), [some (.inr (.inr (.inl (202 : Nat)))), some (.inl (ck_one 0)), some (.inl ((0 : Int), (594 : Int), [])), some (.inl (ck_one 594))], ([], [], []), (100 : Nat), .inl (2 : Nat), true)]) (f := 130) ⟨pl_nmu, ck_E0⟩ (by decide +kernel)
set_option maxRecDepth 100000 in
/-- GlacierMail$Rows.size -/
noncomputable def pl_s133 : ck_Sum := (((0 : Nat), (0 : Nat), (0 : Nat)), (249 : Nat), [.inr (.inr (.inl (4 : Nat)))], ([], [], []), ([], []), [(.inr (some (.inl ((0 : Int), (8 : Int), []))), (249 : Nat), ([], [], []))])
set_option maxRecDepth 100000 in
theorem pl_s133_s {X : Int → Int} {LX : Nat} : ck_Ok p2_OL X LX 9 pl_s133 := ck_okq (cuts := []) (f := 76) ⟨pl_nmu, ck_E0⟩ (by decide +kernel)
set_option maxRecDepth 100000 in
/-- GlacierMail$Rows.get -/
noncomputable def pl_s134 : ck_Sum := (((0 : Nat), (0 : Nat), (0 : Nat)), (249 : Nat), [.inr (.inr (.inl (4 : Nat))), .inl ((-2147483648 : Int), (2147483647 : Int), []), .inl ((-2147483648 : Int), (2147483647 : Int), [])], ([], [], []), ([], []), [(.inr (some (.inl (ck_one (-1)))), (249 : Nat), ([], [], [])), (.inr (some (.inl ((0 : Int), (98 : Int), []))), (249 : Nat), ([], [], [((4 : Nat), (3 : Int), (3 : Int), ((1 : Int), (8 : Int), []))]))])
set_option maxRecDepth 100000 in
theorem pl_s134_s {X : Int → Int} {LX : Nat} : ck_Ok p2_OL X LX 10 pl_s134 := ck_okq (cuts := []) (f := 114) ⟨pl_nmu, ck_E0⟩ (by decide +kernel)
set_option maxRecDepth 100000 in
/-- GlacierMail$Ice.reckonSpeeds -/
noncomputable def pl_s135 : ck_Sum := (((1 : Nat), (0 : Nat), (0 : Nat)), (249 : Nat), [.inr (.inr (.inl (200 : Nat)))], ([], [], []), ([((202 : Nat), (0 : Int), (593 : Int))], []), [(.inr none, (249 : Nat), ([], [], []))])
set_option maxRecDepth 100000 in
theorem pl_s135_s {X : Int → Int} {LX : Nat} : ck_Ok p2_OL X LX 7 pl_s135 := ck_okq (cuts := [((10 : Nat), [some (.inr (.inr (.inl (200 : Nat)))), some (.inl ((0 : Int), (9 : Int), [])), none, none, none, none], ([], [], []), (100 : Nat), .inl (1 : Nat), true), ((43 : Nat), [some (.inr (.inr (.inl (200 : Nat)))), some (.inl ((0 : Int), (7 : Int), [((100 : Nat), (0 : Int))])), some (.inl ((0 : Int), (98 : Int), [])), some (.inl ((0 : Int), (6 : Int), [])), none, none], ([], [], []), (300 : Nat), .inl (3 : Nat), true), ((79 : Nat), [some (.inr (.inr (.inl (200 : Nat)))), some (.inl ((0 : Int), (7 : Int), [((100 : Nat), (0 : Int))])), some (.inl ((0 : Int), (98 : Int), [])), some (.inl ((0 : Int), (5 : Int), [((300 : Nat), (0 : Int))])), some (.inl ((-1 : Int), (98 : Int), [])), some (.inl ((0 : Int), (99 : Int), []))], ([], [], []), (500 : Nat), .inl (5 : Nat), true)]) (f := 290) ⟨pl_nmu, ck_E1 (ck_S1 pl_s132_s ck_S0) (ck_E1 (ck_S1 pl_s133_s ck_S0) (ck_E1 (ck_S1 pl_s134_s ck_S0) ck_E0))⟩ (by decide +kernel)
set_option maxRecDepth 100000 in
/-- java/util/Arrays.fill -/
noncomputable def pl_s136 : ck_Sum := (((0 : Nat), (0 : Nat), (0 : Nat)), (249 : Nat), [.inr (.inr (.inl (203 : Nat))), .inl (ck_one 0)], ([], [], []), ([((203 : Nat), (0 : Int), (299 : Int))], []), [(.inr none, (249 : Nat), ([], [], []))])
set_option maxRecDepth 100000 in
theorem pl_s136_s {X : Int → Int} {LX : Nat} : ck_Ok p2_OL X LX 8 pl_s136 := ck_okq (cuts := [((5 : Nat), [some (.inr (.inr (.inl (203 : Nat)))), some (.inl (ck_one 0)), some (.inl ((0 : Int), (300 : Int), [])), some (.inl (ck_one 300))], ([], [], []), (100 : Nat), .inl (2 : Nat), true)]) (f := 130) ⟨pl_nmu, ck_E0⟩ (by decide +kernel)
set_option maxRecDepth 100000 in
/-- GlacierMail$Rows.size -/
noncomputable def pl_s137 : ck_Sum := (((0 : Nat), (0 : Nat), (0 : Nat)), (249 : Nat), [.inr (.inr (.inl (6 : Nat)))], ([], [], []), ([], []), [(.inr (some (.inl ((0 : Int), (8 : Int), []))), (249 : Nat), ([], [], []))])
set_option maxRecDepth 100000 in
theorem pl_s137_s {X : Int → Int} {LX : Nat} : ck_Ok p2_OL X LX 9 pl_s137 := ck_okq (cuts := []) (f := 76) ⟨pl_nmu, ck_E0⟩ (by decide +kernel)
set_option maxRecDepth 100000 in
/-- GlacierMail$Rows.get -/
noncomputable def pl_s138 : ck_Sum := (((0 : Nat), (0 : Nat), (0 : Nat)), (249 : Nat), [.inr (.inr (.inl (6 : Nat))), .inl ((-2147483648 : Int), (2147483647 : Int), []), .inl ((-2147483648 : Int), (2147483647 : Int), [])], ([], [], []), ([], []), [(.inr (some (.inl (ck_one (-1)))), (249 : Nat), ([], [], [])), (.inr (some (.inl ((0 : Int), (299 : Int), []))), (249 : Nat), ([], [], [((6 : Nat), (3 : Int), (3 : Int), ((1 : Int), (8 : Int), []))]))])
set_option maxRecDepth 100000 in
theorem pl_s138_s {X : Int → Int} {LX : Nat} : ck_Ok p2_OL X LX 10 pl_s138 := ck_okq (cuts := []) (f := 114) ⟨pl_nmu, ck_E0⟩ (by decide +kernel)
set_option maxRecDepth 100000 in
/-- GlacierMail$Ice.reckonFloods -/
noncomputable def pl_s139 : ck_Sum := (((1 : Nat), (0 : Nat), (0 : Nat)), (249 : Nat), [.inr (.inr (.inl (200 : Nat)))], ([], [], []), ([((203 : Nat), (0 : Int), (299 : Int))], []), [(.inr none, (249 : Nat), ([], [], []))])
set_option maxRecDepth 100000 in
theorem pl_s139_s {X : Int → Int} {LX : Nat} : ck_Ok p2_OL X LX 12 pl_s139 := ck_okq (cuts := [((10 : Nat), [some (.inr (.inr (.inl (200 : Nat)))), some (.inl ((0 : Int), (9 : Int), [])), none], ([], [], []), (100 : Nat), .inl (1 : Nat), true)]) (f := 214) ⟨pl_nmu, ck_E1 (ck_S1 pl_s136_s ck_S0) (ck_E1 (ck_S1 pl_s137_s ck_S0) (ck_E1 (ck_S1 pl_s138_s ck_S0) ck_E0))⟩ (by decide +kernel)
set_option maxRecDepth 100000 in
/-- GlacierMail$Ice.renew -/
noncomputable def pl_s140 : ck_Sum := (((2 : Nat), (0 : Nat), (0 : Nat)), (249 : Nat), [.inr (.inr (.inl (200 : Nat)))], ([], [], []), (zl41, []), [(.inr none, (249 : Nat), ([], [], [((200 : Nat), (6 : Int), (6 : Int), ck_one 1)]))])
set_option maxRecDepth 100000 in
theorem pl_s140_s {X : Int → Int} {LX : Nat} : ck_Ok p2_OL X LX 5 pl_s140 := ck_okq (cuts := []) (f := 90) ⟨pl_nmu, ck_E1 (ck_S1 pl_s131_s ck_S0) (ck_E1 (ck_S1 pl_s135_s ck_S0) (ck_E1 (ck_S1 pl_s139_s ck_S0) ck_E0))⟩ (by decide +kernel)
set_option maxRecDepth 100000 in
/-- GlacierMail$History.forget -/
noncomputable def pl_s141 : ck_Sum := (((0 : Nat), (0 : Nat), (0 : Nat)), (249 : Nat), [.inr (.inr (.inl (42 : Nat)))], ([], [], []), ([((42 : Nat), (2 : Int), (2 : Int))], []), [(.inr none, (249 : Nat), ([], [], [((42 : Nat), (2 : Int), (2 : Int), ck_one 0)]))])
set_option maxRecDepth 100000 in
theorem pl_s141_s {X : Int → Int} {LX : Nat} : ck_Ok p2_OL X LX 62 pl_s141 := ck_okq (cuts := []) (f := 78) ⟨pl_nmu, ck_E0⟩ (by decide +kernel)
set_option maxRecDepth 100000 in
/-- GlacierMail.forgetWays -/
noncomputable def pl_s142 : ck_Sum := (((3 : Nat), (0 : Nat), (0 : Nat)), (249 : Nat), [.inr (.inr (.inl (1 : Nat)))], ([], [], []), (zl42, []), [(.inr none, (249 : Nat), ([], [], zl43))])
set_option maxRecDepth 100000 in
theorem pl_s142_s {X : Int → Int} {LX : Nat} : ck_Ok p2_OL X LX 61 pl_s142 := ck_okq (cuts := []) (f := 90) ⟨pl_nmu, ck_E1 (ck_S1 pl_s140_s ck_S0) (ck_E1 (ck_S1 pl_s141_s ck_S0) ck_E0)⟩ (by decide +kernel)
set_option maxRecDepth 100000 in
/-- GlacierMail.valley -/
noncomputable def pl_s143 : ck_Sum := (((12 : Nat), (1 : Nat), (6 : Nat)), (249 : Nat), [.inr (.inr (.inl (1 : Nat)))], ([], [((3 : Nat), (8 : Int), (246 : Nat)), ((16 : Nat), (8 : Int), (100016 : Nat))], zl44), (zl45, [((3 : Nat), (8 : Int)), ((16 : Nat), (8 : Int))]), [(.inr (some (.inl ((-2147483648 : Int), (-1 : Int), []))), (249 : Nat), ([], [((3 : Nat), (8 : Int), (246 : Nat)), ((16 : Nat), (8 : Int), (246 : Nat))], zl46)), (.inr (some (.inl ((0 : Int), (2147483647 : Int), []))), (249 : Nat), ([], [((3 : Nat), (8 : Int), (246 : Nat)), ((16 : Nat), (8 : Int), (246 : Nat))], zl47)), (.inl (1 : Nat), (249 : Nat), ([], [((3 : Nat), (8 : Int), (246 : Nat)), ((16 : Nat), (8 : Int), (246 : Nat))], zl48)), (.inl (0 : Nat), (249 : Nat), ([], [((3 : Nat), (8 : Int), (246 : Nat)), ((16 : Nat), (8 : Int), (246 : Nat))], zl49))])
set_option maxRecDepth 100000 in
theorem pl_s143_s {X : Int → Int} {LX : Nat} : ck_Ok p2_OL X LX 71 pl_s143 := ck_okq (cuts := []) (f := 154) ⟨pl_nmu, ck_E1 (ck_S1 pl_s13_s (ck_S1 pl_s20_s ck_S0)) (ck_E1 (ck_S1 pl_s130_s ck_S0) (ck_E1 (ck_S1 pl_s142_s ck_S0) ck_E0))⟩ (by decide +kernel)
set_option maxRecDepth 100000 in
/-- GlacierMail.fault -/
noncomputable def pl_s144 : ck_Sum := (((0 : Nat), (0 : Nat), (0 : Nat)), (249 : Nat), [.inr (.inr (.inl (1 : Nat)))], ([], [], []), ([], []), [(.inr (some (.inl (ck_one (-1)))), (249 : Nat), ([], [], [((1 : Nat), (2 : Int), (2 : Int), ck_one (-1))])), (.inr (some (.inl ((0 : Int), (400 : Int), []))), (249 : Nat), ([], [], [((1 : Nat), (2 : Int), (2 : Int), ((0 : Int), (400 : Int), []))]))])
set_option maxRecDepth 100000 in
theorem pl_s144_s {X : Int → Int} {LX : Nat} : ck_Ok p2_OL X LX 22 pl_s144 := ck_okq (cuts := []) (f := 76) ⟨pl_nmu, ck_E0⟩ (by decide +kernel)
set_option maxRecDepth 100000 in
/-- GlacierMail.needYear -/
noncomputable def pl_s145 : ck_Sum := (((6 : Nat), (1 : Nat), (6 : Nat)), (249 : Nat), [.inr (.inr (.inl (1 : Nat))), .inl ((-2147483648 : Int), (-1 : Int), [])], ([], [], []), ([], []), [(.inl (0 : Nat), (249 : Nat), ([], [], []))])
set_option maxRecDepth 100000 in
theorem pl_s145_s {X : Int → Int} {LX : Nat} : ck_Ok p2_OL X LX 129 pl_s145 := ck_okq (cuts := []) (f := 76) ⟨pl_nmu, ck_E0⟩ (by decide +kernel)
set_option maxRecDepth 100000 in
/-- GlacierMail.heat -/
noncomputable def pl_s146 : ck_Sum := (((7 : Nat), (1 : Nat), (6 : Nat)), (249 : Nat), [.inr (.inr (.inl (1 : Nat))), .inl ((-2147483648 : Int), (-1 : Int), [])], ([], [], []), ([], []), [(.inl (0 : Nat), (249 : Nat), ([], [], []))])
set_option maxRecDepth 100000 in
theorem pl_s146_s {X : Int → Int} {LX : Nat} : ck_Ok p2_OL X LX 128 pl_s146 := ck_okq (cuts := []) (f := 76) ⟨pl_nmu, ck_E1 (ck_S1 pl_s145_s ck_S0) ck_E0⟩ (by decide +kernel)
set_option maxRecDepth 100000 in
/-- GlacierMail.needYear -/
noncomputable def pl_s147 : ck_Sum := (((6 : Nat), (1 : Nat), (6 : Nat)), (249 : Nat), [.inr (.inr (.inl (1 : Nat))), .inl ((300 : Int), (2147483647 : Int), [])], ([], [], []), ([], []), [(.inl (0 : Nat), (249 : Nat), ([], [], []))])
set_option maxRecDepth 100000 in
theorem pl_s147_s {X : Int → Int} {LX : Nat} : ck_Ok p2_OL X LX 129 pl_s147 := ck_okq (cuts := []) (f := 82) ⟨pl_nmu, ck_E0⟩ (by decide +kernel)
set_option maxRecDepth 100000 in
/-- GlacierMail.heat -/
noncomputable def pl_s148 : ck_Sum := (((7 : Nat), (1 : Nat), (6 : Nat)), (249 : Nat), [.inr (.inr (.inl (1 : Nat))), .inl ((300 : Int), (2147483647 : Int), [])], ([], [], []), ([], []), [(.inl (0 : Nat), (249 : Nat), ([], [], []))])
set_option maxRecDepth 100000 in
theorem pl_s148_s {X : Int → Int} {LX : Nat} : ck_Ok p2_OL X LX 128 pl_s148 := ck_okq (cuts := []) (f := 76) ⟨pl_nmu, ck_E1 (ck_S1 pl_s147_s ck_S0) ck_E0⟩ (by decide +kernel)
set_option maxRecDepth 100000 in
/-- GlacierMail.needYear -/
noncomputable def pl_s149 : ck_Sum := (((0 : Nat), (0 : Nat), (0 : Nat)), (249 : Nat), [.inr (.inr (.inl (1 : Nat))), .inl ((0 : Int), (299 : Int), [])], ([], [], []), ([], []), [(.inr none, (249 : Nat), ([], [], []))])
set_option maxRecDepth 100000 in
theorem pl_s149_s {X : Int → Int} {LX : Nat} : ck_Ok p2_OL X LX 129 pl_s149 := ck_okq (cuts := []) (f := 82) ⟨pl_nmu, ck_E0⟩ (by decide +kernel)
set_option maxRecDepth 100000 in
/-- GlacierMail$Ice.heatIn -/
noncomputable def pl_s150 : ck_Sum := (((0 : Nat), (0 : Nat), (0 : Nat)), (249 : Nat), [.inr (.inr (.inl (200 : Nat))), .inl ((0 : Int), (299 : Int), [])], ([], [], []), ([], []), [(.inr (some (.inl ((0 : Int), (9 : Int), []))), (249 : Nat), ([], [], []))])
set_option maxRecDepth 100000 in
theorem pl_s150_s {X : Int → Int} {LX : Nat} : ck_Ok p2_OL X LX 34 pl_s150 := ck_okq (cuts := []) (f := 92) ⟨pl_nmu, ck_E0⟩ (by decide +kernel)
set_option maxRecDepth 100000 in
/-- GlacierMail.heat -/
noncomputable def pl_s151 : ck_Sum := (((1 : Nat), (0 : Nat), (0 : Nat)), (249 : Nat), [.inr (.inr (.inl (1 : Nat))), .inl ((0 : Int), (299 : Int), [])], ([], [], []), ([], []), [(.inr (some (.inl ((0 : Int), (9 : Int), []))), (249 : Nat), ([], [], []))])
set_option maxRecDepth 100000 in
theorem pl_s151_s {X : Int → Int} {LX : Nat} : ck_Ok p2_OL X LX 128 pl_s151 := ck_okq (cuts := []) (f := 86) ⟨pl_nmu, ck_E1 (ck_S1 pl_s149_s ck_S0) (ck_E1 (ck_S1 pl_s150_s ck_S0) ck_E0)⟩ (by decide +kernel)
set_option maxRecDepth 100000 in
/-- GlacierMail.need -/
noncomputable def pl_s152 : ck_Sum := (((6 : Nat), (1 : Nat), (6 : Nat)), (249 : Nat), [.inr (.inr (.inl (1 : Nat))), .inl ((-2147483648 : Int), (-1 : Int), []), .inl ((1 : Int), (6 : Int), [])], ([], [], []), ([], []), [(.inl (3 : Nat), (249 : Nat), ([], [], []))])
set_option maxRecDepth 100000 in
theorem pl_s152_s {X : Int → Int} {LX : Nat} : ck_Ok p2_OL X LX 133 pl_s152 := ck_okq (cuts := []) (f := 76) ⟨pl_nmu, ck_E0⟩ (by decide +kernel)
set_option maxRecDepth 100000 in
/-- GlacierMail.needLane -/
noncomputable def pl_s153 : ck_Sum := (((7 : Nat), (1 : Nat), (6 : Nat)), (249 : Nat), [.inr (.inr (.inl (1 : Nat))), .inl ((-2147483648 : Int), (-1 : Int), [])], ([], [], []), ([], []), [(.inl (3 : Nat), (249 : Nat), ([], [], []))])
set_option maxRecDepth 100000 in
theorem pl_s153_s {X : Int → Int} {LX : Nat} : ck_Ok p2_OL X LX 132 pl_s153 := ck_okq (cuts := []) (f := 82) ⟨pl_nmu, ck_E1 (ck_S1 pl_s152_s ck_S0) ck_E0⟩ (by decide +kernel)
set_option maxRecDepth 100000 in
/-- GlacierMail.speed -/
noncomputable def pl_s154 : ck_Sum := (((8 : Nat), (1 : Nat), (6 : Nat)), (249 : Nat), [.inr (.inr (.inl (1 : Nat))), .inl ((-2147483648 : Int), (-1 : Int), []), .inl ((-2147483648 : Int), (2147483647 : Int), [])], ([], [], []), ([], []), [(.inl (3 : Nat), (249 : Nat), ([], [], []))])
set_option maxRecDepth 100000 in
theorem pl_s154_s {X : Int → Int} {LX : Nat} : ck_Ok p2_OL X LX 131 pl_s154 := ck_okq (cuts := []) (f := 76) ⟨pl_nmu, ck_E1 (ck_S1 pl_s153_s ck_S0) ck_E0⟩ (by decide +kernel)
set_option maxRecDepth 100000 in
/-- GlacierMail.need -/
noncomputable def pl_s155 : ck_Sum := (((6 : Nat), (1 : Nat), (6 : Nat)), (249 : Nat), [.inr (.inr (.inl (1 : Nat))), .inl ((6 : Int), (2147483647 : Int), []), .inl ((1 : Int), (6 : Int), [])], ([], [], []), ([], []), [(.inl (3 : Nat), (249 : Nat), ([], [], []))])
set_option maxRecDepth 100000 in
theorem pl_s155_s {X : Int → Int} {LX : Nat} : ck_Ok p2_OL X LX 133 pl_s155 := ck_okq (cuts := []) (f := 82) ⟨pl_nmu, ck_E0⟩ (by decide +kernel)
set_option maxRecDepth 100000 in
/-- GlacierMail.needLane -/
noncomputable def pl_s156 : ck_Sum := (((7 : Nat), (1 : Nat), (6 : Nat)), (249 : Nat), [.inr (.inr (.inl (1 : Nat))), .inl ((6 : Int), (2147483647 : Int), [])], ([], [], []), ([], []), [(.inl (3 : Nat), (249 : Nat), ([], [], []))])
set_option maxRecDepth 100000 in
theorem pl_s156_s {X : Int → Int} {LX : Nat} : ck_Ok p2_OL X LX 132 pl_s156 := ck_okq (cuts := []) (f := 82) ⟨pl_nmu, ck_E1 (ck_S1 pl_s155_s ck_S0) ck_E0⟩ (by decide +kernel)
set_option maxRecDepth 100000 in
/-- GlacierMail.speed -/
noncomputable def pl_s157 : ck_Sum := (((8 : Nat), (1 : Nat), (6 : Nat)), (249 : Nat), [.inr (.inr (.inl (1 : Nat))), .inl ((6 : Int), (2147483647 : Int), []), .inl ((-2147483648 : Int), (2147483647 : Int), [])], ([], [], []), ([], []), [(.inl (3 : Nat), (249 : Nat), ([], [], []))])
set_option maxRecDepth 100000 in
theorem pl_s157_s {X : Int → Int} {LX : Nat} : ck_Ok p2_OL X LX 131 pl_s157 := ck_okq (cuts := []) (f := 76) ⟨pl_nmu, ck_E1 (ck_S1 pl_s156_s ck_S0) ck_E0⟩ (by decide +kernel)
set_option maxRecDepth 100000 in
/-- GlacierMail.need -/
noncomputable def pl_s158 : ck_Sum := (((6 : Nat), (1 : Nat), (6 : Nat)), (249 : Nat), [.inr (.inr (.inl (1 : Nat))), .inl ((0 : Int), (5 : Int), []), .inl ((1 : Int), (6 : Int), [])], ([], [], []), ([], []), [(.inr none, (249 : Nat), ([], [], [])), (.inl (3 : Nat), (249 : Nat), ([], [], []))])
set_option maxRecDepth 100000 in
theorem pl_s158_s {X : Int → Int} {LX : Nat} : ck_Ok p2_OL X LX 133 pl_s158 := ck_okq (cuts := []) (f := 82) ⟨pl_nmu, ck_E0⟩ (by decide +kernel)
set_option maxRecDepth 100000 in
/-- GlacierMail.needLane -/
noncomputable def pl_s159 : ck_Sum := (((7 : Nat), (1 : Nat), (6 : Nat)), (249 : Nat), [.inr (.inr (.inl (1 : Nat))), .inl ((0 : Int), (5 : Int), [])], ([], [], []), ([], []), [(.inl (3 : Nat), (249 : Nat), ([], [], [])), (.inr none, (249 : Nat), ([], [], []))])
set_option maxRecDepth 100000 in
theorem pl_s159_s {X : Int → Int} {LX : Nat} : ck_Ok p2_OL X LX 132 pl_s159 := ck_okq (cuts := []) (f := 84) ⟨pl_nmu, ck_E1 (ck_S1 pl_s158_s ck_S0) ck_E0⟩ (by decide +kernel)
set_option maxRecDepth 100000 in
/-- GlacierMail.need -/
noncomputable def pl_s160 : ck_Sum := (((6 : Nat), (1 : Nat), (6 : Nat)), (249 : Nat), [.inr (.inr (.inl (1 : Nat))), .inl ((-2147483648 : Int), (-1 : Int), []), .inl ((10 : Int), (99 : Int), [])], ([], [], []), ([], []), [(.inl (3 : Nat), (249 : Nat), ([], [], []))])
set_option maxRecDepth 100000 in
theorem pl_s160_s {X : Int → Int} {LX : Nat} : ck_Ok p2_OL X LX 133 pl_s160 := ck_okq (cuts := []) (f := 76) ⟨pl_nmu, ck_E0⟩ (by decide +kernel)
set_option maxRecDepth 100000 in
/-- GlacierMail.needRow -/
noncomputable def pl_s161 : ck_Sum := (((7 : Nat), (1 : Nat), (6 : Nat)), (249 : Nat), [.inr (.inr (.inl (1 : Nat))), .inl ((-2147483648 : Int), (-1 : Int), [])], ([], [], []), ([], []), [(.inl (3 : Nat), (249 : Nat), ([], [], []))])
set_option maxRecDepth 100000 in
theorem pl_s161_s {X : Int → Int} {LX : Nat} : ck_Ok p2_OL X LX 134 pl_s161 := ck_okq (cuts := []) (f := 82) ⟨pl_nmu, ck_E1 (ck_S1 pl_s160_s ck_S0) ck_E0⟩ (by decide +kernel)
set_option maxRecDepth 100000 in
/-- GlacierMail.speed -/
noncomputable def pl_s162 : ck_Sum := (((8 : Nat), (2 : Nat), (12 : Nat)), (249 : Nat), [.inr (.inr (.inl (1 : Nat))), .inl ((0 : Int), (5 : Int), []), .inl ((-2147483648 : Int), (-1 : Int), [])], ([], [], []), ([], []), [(.inl (3 : Nat), (249 : Nat), ([], [], []))])
set_option maxRecDepth 100000 in
theorem pl_s162_s {X : Int → Int} {LX : Nat} : ck_Ok p2_OL X LX 131 pl_s162 := ck_okq (cuts := []) (f := 82) ⟨pl_nmu, ck_E1 (ck_S1 pl_s159_s ck_S0) (ck_E1 (ck_S1 pl_s161_s ck_S0) ck_E0)⟩ (by decide +kernel)
set_option maxRecDepth 100000 in
/-- GlacierMail.need -/
noncomputable def pl_s163 : ck_Sum := (((6 : Nat), (1 : Nat), (6 : Nat)), (249 : Nat), [.inr (.inr (.inl (1 : Nat))), .inl ((99 : Int), (2147483647 : Int), []), .inl ((10 : Int), (99 : Int), [])], ([], [], []), ([], []), [(.inl (3 : Nat), (249 : Nat), ([], [], []))])
set_option maxRecDepth 100000 in
theorem pl_s163_s {X : Int → Int} {LX : Nat} : ck_Ok p2_OL X LX 133 pl_s163 := ck_okq (cuts := []) (f := 82) ⟨pl_nmu, ck_E0⟩ (by decide +kernel)
set_option maxRecDepth 100000 in
/-- GlacierMail.needRow -/
noncomputable def pl_s164 : ck_Sum := (((7 : Nat), (1 : Nat), (6 : Nat)), (249 : Nat), [.inr (.inr (.inl (1 : Nat))), .inl ((99 : Int), (2147483647 : Int), [])], ([], [], []), ([], []), [(.inl (3 : Nat), (249 : Nat), ([], [], []))])
set_option maxRecDepth 100000 in
theorem pl_s164_s {X : Int → Int} {LX : Nat} : ck_Ok p2_OL X LX 134 pl_s164 := ck_okq (cuts := []) (f := 82) ⟨pl_nmu, ck_E1 (ck_S1 pl_s163_s ck_S0) ck_E0⟩ (by decide +kernel)
set_option maxRecDepth 100000 in
/-- GlacierMail.speed -/
noncomputable def pl_s165 : ck_Sum := (((8 : Nat), (2 : Nat), (12 : Nat)), (249 : Nat), [.inr (.inr (.inl (1 : Nat))), .inl ((0 : Int), (5 : Int), []), .inl ((99 : Int), (2147483647 : Int), [])], ([], [], []), ([], []), [(.inl (3 : Nat), (249 : Nat), ([], [], []))])
set_option maxRecDepth 100000 in
theorem pl_s165_s {X : Int → Int} {LX : Nat} : ck_Ok p2_OL X LX 131 pl_s165 := ck_okq (cuts := []) (f := 82) ⟨pl_nmu, ck_E1 (ck_S1 pl_s159_s ck_S0) (ck_E1 (ck_S1 pl_s164_s ck_S0) ck_E0)⟩ (by decide +kernel)
set_option maxRecDepth 100000 in
/-- GlacierMail.need -/
noncomputable def pl_s166 : ck_Sum := (((6 : Nat), (1 : Nat), (6 : Nat)), (249 : Nat), [.inr (.inr (.inl (1 : Nat))), .inl ((0 : Int), (98 : Int), []), .inl ((10 : Int), (99 : Int), [])], ([], [], []), ([], []), [(.inr none, (249 : Nat), ([], [], [])), (.inl (3 : Nat), (249 : Nat), ([], [], []))])
set_option maxRecDepth 100000 in
theorem pl_s166_s {X : Int → Int} {LX : Nat} : ck_Ok p2_OL X LX 133 pl_s166 := ck_okq (cuts := []) (f := 82) ⟨pl_nmu, ck_E0⟩ (by decide +kernel)
set_option maxRecDepth 100000 in
/-- GlacierMail.needRow -/
noncomputable def pl_s167 : ck_Sum := (((7 : Nat), (1 : Nat), (6 : Nat)), (249 : Nat), [.inr (.inr (.inl (1 : Nat))), .inl ((0 : Int), (98 : Int), [])], ([], [], []), ([], []), [(.inl (3 : Nat), (249 : Nat), ([], [], [])), (.inr none, (249 : Nat), ([], [], []))])
set_option maxRecDepth 100000 in
theorem pl_s167_s {X : Int → Int} {LX : Nat} : ck_Ok p2_OL X LX 134 pl_s167 := ck_okq (cuts := []) (f := 84) ⟨pl_nmu, ck_E1 (ck_S1 pl_s166_s ck_S0) ck_E0⟩ (by decide +kernel)
set_option maxRecDepth 100000 in
/-- GlacierMail$Ice.speedAt -/
noncomputable def pl_s168 : ck_Sum := (((0 : Nat), (0 : Nat), (0 : Nat)), (249 : Nat), [.inr (.inr (.inl (200 : Nat))), .inl ((0 : Int), (5 : Int), []), .inl ((0 : Int), (98 : Int), [])], ([], [], []), ([], []), [(.inr (some (.inl ((-1 : Int), (98 : Int), []))), (249 : Nat), ([], [], []))])
set_option maxRecDepth 100000 in
theorem pl_s168_s {X : Int → Int} {LX : Nat} : ck_Ok p2_OL X LX 36 pl_s168 := ck_okq (cuts := []) (f := 108) ⟨pl_nmu, ck_E0⟩ (by decide +kernel)
set_option maxRecDepth 100000 in
/-- GlacierMail.speed -/
noncomputable def pl_s169 : ck_Sum := (((8 : Nat), (2 : Nat), (12 : Nat)), (249 : Nat), [.inr (.inr (.inl (1 : Nat))), .inl ((0 : Int), (5 : Int), []), .inl ((0 : Int), (98 : Int), [])], ([], [], []), ([], []), [(.inl (3 : Nat), (249 : Nat), ([], [], [])), (.inr (some (.inl ((-1 : Int), (98 : Int), []))), (249 : Nat), ([], [], []))])
set_option maxRecDepth 100000 in
theorem pl_s169_s {X : Int → Int} {LX : Nat} : ck_Ok p2_OL X LX 131 pl_s169 := ck_okq (cuts := []) (f := 94) ⟨pl_nmu, ck_E1 (ck_S1 pl_s159_s ck_S0) (ck_E1 (ck_S1 pl_s167_s ck_S0) (ck_E1 (ck_S1 pl_s168_s ck_S0) ck_E0))⟩ (by decide +kernel)
set_option maxRecDepth 100000 in
/-- GlacierMail.flow -/
noncomputable def pl_s170 : ck_Sum := (((8 : Nat), (1 : Nat), (6 : Nat)), (249 : Nat), [.inr (.inr (.inl (1 : Nat))), .inl ((-2147483648 : Int), (-1 : Int), []), .inl ((-2147483648 : Int), (2147483647 : Int), []), .inl ((-2147483648 : Int), (2147483647 : Int), [])], ([], [], []), ([], []), [(.inl (3 : Nat), (249 : Nat), ([], [], []))])
set_option maxRecDepth 100000 in
theorem pl_s170_s {X : Int → Int} {LX : Nat} : ck_Ok p2_OL X LX 136 pl_s170 := ck_okq (cuts := []) (f := 76) ⟨pl_nmu, ck_E1 (ck_S1 pl_s153_s ck_S0) ck_E0⟩ (by decide +kernel)
set_option maxRecDepth 100000 in
/-- GlacierMail.flow -/
noncomputable def pl_s171 : ck_Sum := (((8 : Nat), (1 : Nat), (6 : Nat)), (249 : Nat), [.inr (.inr (.inl (1 : Nat))), .inl ((6 : Int), (2147483647 : Int), []), .inl ((-2147483648 : Int), (2147483647 : Int), []), .inl ((-2147483648 : Int), (2147483647 : Int), [])], ([], [], []), ([], []), [(.inl (3 : Nat), (249 : Nat), ([], [], []))])
set_option maxRecDepth 100000 in
theorem pl_s171_s {X : Int → Int} {LX : Nat} : ck_Ok p2_OL X LX 136 pl_s171 := ck_okq (cuts := []) (f := 76) ⟨pl_nmu, ck_E1 (ck_S1 pl_s156_s ck_S0) ck_E0⟩ (by decide +kernel)
set_option maxRecDepth 100000 in
/-- GlacierMail.flow -/
noncomputable def pl_s172 : ck_Sum := (((8 : Nat), (2 : Nat), (12 : Nat)), (249 : Nat), [.inr (.inr (.inl (1 : Nat))), .inl ((0 : Int), (5 : Int), []), .inl ((-2147483648 : Int), (-1 : Int), []), .inl ((-2147483648 : Int), (2147483647 : Int), [])], ([], [], []), ([], []), [(.inl (3 : Nat), (249 : Nat), ([], [], []))])
set_option maxRecDepth 100000 in
theorem pl_s172_s {X : Int → Int} {LX : Nat} : ck_Ok p2_OL X LX 136 pl_s172 := ck_okq (cuts := []) (f := 82) ⟨pl_nmu, ck_E1 (ck_S1 pl_s159_s ck_S0) (ck_E1 (ck_S1 pl_s161_s ck_S0) ck_E0)⟩ (by decide +kernel)
set_option maxRecDepth 100000 in
/-- GlacierMail.flow -/
noncomputable def pl_s173 : ck_Sum := (((8 : Nat), (2 : Nat), (12 : Nat)), (249 : Nat), [.inr (.inr (.inl (1 : Nat))), .inl ((0 : Int), (5 : Int), []), .inl ((99 : Int), (2147483647 : Int), []), .inl ((-2147483648 : Int), (2147483647 : Int), [])], ([], [], []), ([], []), [(.inl (3 : Nat), (249 : Nat), ([], [], []))])
set_option maxRecDepth 100000 in
theorem pl_s173_s {X : Int → Int} {LX : Nat} : ck_Ok p2_OL X LX 136 pl_s173 := ck_okq (cuts := []) (f := 82) ⟨pl_nmu, ck_E1 (ck_S1 pl_s159_s ck_S0) (ck_E1 (ck_S1 pl_s164_s ck_S0) ck_E0)⟩ (by decide +kernel)
set_option maxRecDepth 100000 in
/-- GlacierMail.flow -/
noncomputable def pl_s174 : ck_Sum := (((8 : Nat), (3 : Nat), (18 : Nat)), (249 : Nat), [.inr (.inr (.inl (1 : Nat))), .inl ((0 : Int), (5 : Int), []), .inl ((0 : Int), (98 : Int), []), .inl ((-2147483648 : Int), (-1 : Int), [])], ([], [], []), ([], []), [(.inl (3 : Nat), (249 : Nat), ([], [], [])), (.inl (0 : Nat), (249 : Nat), ([], [], []))])
set_option maxRecDepth 100000 in
theorem pl_s174_s {X : Int → Int} {LX : Nat} : ck_Ok p2_OL X LX 136 pl_s174 := ck_okq (cuts := []) (f := 88) ⟨pl_nmu, ck_E1 (ck_S1 pl_s159_s ck_S0) (ck_E1 (ck_S1 pl_s167_s ck_S0) (ck_E1 (ck_S1 pl_s145_s ck_S0) ck_E0))⟩ (by decide +kernel)
set_option maxRecDepth 100000 in
/-- GlacierMail.flow -/
noncomputable def pl_s175 : ck_Sum := (((8 : Nat), (3 : Nat), (18 : Nat)), (249 : Nat), [.inr (.inr (.inl (1 : Nat))), .inl ((0 : Int), (5 : Int), []), .inl ((0 : Int), (98 : Int), []), .inl ((300 : Int), (2147483647 : Int), [])], ([], [], []), ([], []), [(.inl (3 : Nat), (249 : Nat), ([], [], [])), (.inl (0 : Nat), (249 : Nat), ([], [], []))])
set_option maxRecDepth 100000 in
theorem pl_s175_s {X : Int → Int} {LX : Nat} : ck_Ok p2_OL X LX 136 pl_s175 := ck_okq (cuts := []) (f := 88) ⟨pl_nmu, ck_E1 (ck_S1 pl_s159_s ck_S0) (ck_E1 (ck_S1 pl_s167_s ck_S0) (ck_E1 (ck_S1 pl_s147_s ck_S0) ck_E0))⟩ (by decide +kernel)
set_option maxRecDepth 100000 in
/-- GlacierMail$Ice.speedAt -/
noncomputable def pl_s176 : ck_Sum := (((0 : Nat), (0 : Nat), (0 : Nat)), (249 : Nat), [.inr (.inr (.inl (200 : Nat))), .inl ((-2147483648 : Int), (2147483647 : Int), []), .inl ((-2147483648 : Int), (2147483647 : Int), [])], ([], [], []), ([], []), [(.inr (some (.inl (ck_one 0))), (249 : Nat), ([], [], [])), (.inr (some (.inl ((-1 : Int), (98 : Int), []))), (249 : Nat), ([], [], []))])
set_option maxRecDepth 100000 in
theorem pl_s176_s {X : Int → Int} {LX : Nat} : ck_Ok p2_OL X LX 36 pl_s176 := ck_okq (cuts := []) (f := 108) ⟨pl_nmu, ck_E0⟩ (by decide +kernel)
set_option maxRecDepth 100000 in
/-- java/util/Arrays.fill -/
noncomputable def pl_s177 : ck_Sum := (((0 : Nat), (0 : Nat), (0 : Nat)), (249 : Nat), [.inr (.inr (.inl (205 : Nat))), .inr (.inl (ck_one (-1)))], ([], [], []), ([((205 : Nat), (0 : Int), (14849 : Int))], []), [(.inr none, (249 : Nat), ([], [], []))])
set_option maxRecDepth 100000 in
theorem pl_s177_s {X : Int → Int} {LX : Nat} : ck_Ok p2_OL X LX 38 pl_s177 := ck_okq (cuts := [((6 : Nat), [some (.inr (.inr (.inl (205 : Nat)))), some (.inr (.inl (ck_one (-1)))), none, some (.inl ((0 : Int), (14850 : Int), [])), some (.inl (ck_one 14850))], ([], [], []), (100 : Nat), .inl (3 : Nat), true)]) (f := 130) ⟨pl_nmu, ck_E0⟩ (by decide +kernel)
set_option maxRecDepth 100000 in
/-- GlacierMail$Ice.recalledFlow -/
noncomputable def pl_s178 : ck_Sum := (((1 : Nat), (0 : Nat), (0 : Nat)), (249 : Nat), [.inr (.inr (.inl (200 : Nat))), .inl ((-2147483648 : Int), (2147483647 : Int), [])], ([], [], []), ([((200 : Nat), (6 : Int), (6 : Int)), ((205 : Nat), (0 : Int), (14849 : Int))], []), [(.inr (some (.inl ((0 : Int), (31 : Int), []))), (249 : Nat), ([], [], [((200 : Nat), (6 : Int), (6 : Int), ck_one 0)]))])
set_option maxRecDepth 100000 in
noncomputable def pl_s178a : ck_Sum := (((1 : Nat), (0 : Nat), (0 : Nat)), (249 : Nat), [.inr (.inr (.inl (200 : Nat))), .inl ((-2147483648 : Int), (-1 : Int), [])], ([], [], []), ([((200 : Nat), (6 : Int), (6 : Int)), ((205 : Nat), (0 : Int), (14849 : Int))], []), [(.inr (some (.inl ((0 : Int), (31 : Int), []))), (249 : Nat), ([], [], [((200 : Nat), (6 : Int), (6 : Int), ck_one 0)]))])
set_option maxRecDepth 100000 in
noncomputable def pl_s178b : ck_Sum := (((1 : Nat), (0 : Nat), (0 : Nat)), (249 : Nat), [.inr (.inr (.inl (200 : Nat))), .inl ((0 : Int), (2147483647 : Int), [])], ([], [], []), ([((200 : Nat), (6 : Int), (6 : Int)), ((205 : Nat), (0 : Int), (14849 : Int))], []), [(.inr (some (.inl ((0 : Int), (31 : Int), []))), (249 : Nat), ([], [], [((200 : Nat), (6 : Int), (6 : Int), ck_one 0)]))])
noncomputable def rf_W : List (Nat × Int × Int) × List (Nat × Int) := ([((200 : Nat), (6 : Int), (6 : Int)), ((205 : Nat), (0 : Int), (14849 : Int))], [])
noncomputable def rf_o : List ck_Oc := [(.inr (some (.inl ((0 : Int), (31 : Int), []))), (249 : Nat), ([], [], [((200 : Nat), (6 : Int), (6 : Int), ck_one 0)]))]
set_option maxRecDepth 100000 in
theorem rf_a17 : ck_go p2_OL none [] [] 37 1 249 rf_W rf_o [] 200 true [] 0 0 17 [some (.inr (.inr (.inl 200))), some (.inl ((-2147483648), (-1), [])), none] [] 249 ([], [], []) = true := by decide +kernel
set_option maxRecDepth 100000 in
theorem rf_a22 : ck_go p2_OL none [] [] 37 1 249 rf_W rf_o [] 200 true [] 0 0 22 [some (.inr (.inr (.inl 200))), some (.inl ((-2147483648), (-1), [])), none] [] 249 ([], [], [(200, 6, 6, ck_one 0)]) = true := by decide +kernel
set_option maxRecDepth 100000 in
theorem rf_b17 : ck_go p2_OL none [] [] 37 1 249 rf_W rf_o [] 200 true [] 0 0 17 [some (.inr (.inr (.inl 200))), some (.inl (0, 2147483647, [])), none] [] 249 ([], [], []) = true := by decide +kernel
set_option maxRecDepth 100000 in
theorem rf_b22 : ck_go p2_OL none [] [] 37 1 249 rf_W rf_o [] 200 true [] 0 0 22 [some (.inr (.inr (.inl 200))), some (.inl (0, 2147483647, [])), none] [] 249 ([], [], [(200, 6, 6, ck_one 0)]) = true := by decide +kernel
/-- the flows are forgotten by hand: a call with a long -/
theorem rf_s {X : Int → Int} {LX : Nat} {a : ck_I} (g17 : ck_go p2_OL none [] [] 37 1 249 rf_W rf_o [] 200 true [] 0 0 17 [some (.inr (.inr (.inl 200))), some (.inl a), none] [] 249 ([], [], []) = true) (g22 : ck_go p2_OL none [] [] 37 1 249 rf_W rf_o [] 200 true [] 0 0 22 [some (.inr (.inr (.inl 200))), some (.inl a), none] [] 249 ([], [], [(200, 6, 6, ck_one 0)]) = true) : ck_Ok p2_OL X LX 37 ((1, 0, 0), 249, [.inr (.inr (.inl 200)), .inl a], ([], [], []), rf_W, rf_o) := by
  intro d σ vs n K R M hd hn hvs hnm hF _
  have hd : 1 ≤ d := hd
  have hn : n = 249 := hn
  subst hn
  refine gm_Wp_wk hd (Nat.le_refl 0) (Nat.le_refl 0) ?_
  obtain ⟨v0, w0, rfl, g0, g1⟩ : ∃ v ws, vs = v :: ws ∧ ck_ga σ (.inr (.inr (.inl 200))) v ∧ ck_gas σ [.inl a] ws := hvs
  obtain ⟨v1, w1, rfl, g2, g3⟩ : ∃ v ws, w0 = v :: ws ∧ ck_ga σ (.inl a) v ∧ ck_gas σ [] ws := g1
  have g0 : v0 = gm_vr 200 := g0
  have g3 : w1 = [] := g3
  subst g0
  subst g3
  obtain ⟨x, rfl, rx, gx⟩ := g2
  have l0 : (gm_ent 37 [gm_vr 200, gm_vi x])[0]? = some (some (gm_vr 200)) := rfl
  have l1 : (gm_ent 37 [gm_vr 200, gm_vi x])[1]? = some (some (gm_vi x)) := rfl
  have hL : ck_gl σ [some (.inr (.inr (.inl 200))), some (.inl a), none] (gm_ent 37 [gm_vr 200, gm_vi x]) := by
    refine ⟨by unfold gm_ent; simp [show gm_ml 37 = 3 by decide +kernel], fun j b hb => ?_⟩
    rcases j with _ | _ | _ | j
    · have hb : some (some (.inr (.inr (.inl 200)))) = some (some b) := hb
      cases hb
      exact ⟨_, l0, rfl⟩
    · have hb : some (some (.inl a)) = some (some b) := hb
      cases hb
      exact ⟨_, l1, x, rfl, rx, gx⟩
    · have hb : some none = some (some b) := hb
      cases hb
    · have hb : none = some (some b) := hb
      cases hb
  generalize gm_ent 37 [gm_vr 200, gm_vi x] = L at l0 l1 hL ⊢
  show gm_Wp X LX 1 0 0 37 0 L [] 249 K R M (ck_Q p2_OL σ rf_W 249 K R M rf_o)
  obtain ⟨k1, k2, k3⟩ := hF.1 200 (8, 0) (by decide +kernel)
  have r5 : R 200 ((5 : Nat) : Int) = 205 := (hF.2.1 200 5 205 (by decide +kernel)).2
  refine gm_sz (gm_p_load (pc := 0) (i := .aload_n 0) (sr := 2) (j := 0) (by decide +kernel) rfl l0 rfl) ?_
  refine gm_sz (gm_p_get (pc := 1) (ix := 30) (ci := 4) (j := 6) (by decide +kernel) ⟨k1, k2⟩ (by rw [k3]) (by decide +kernel)) ?_
  rw [if_neg (show ¬ gm_isr 4 6 = true by decide +kernel)]
  obtain ⟨t1, t2⟩ := (gm_tyr_s hF (show gm_tyr p2_OL 200 6 6 = some (0, 1) by decide +kernel)).2 6 (Int.le_refl _) (Int.le_refl _)
  refine gm_b_if (cc := .eq) (pc := 4) (off := 18) (by decide +kernel) (by decide) (fun hp => ?_) (fun _ => ?_)
  · have t3 : gm_ir (M 200 ((6 : Nat) : Int)) := t1
    rw [gm_cm_w t3 (show gm_ir 0 from ⟨by decide, by decide⟩)] at hp
    have hp : M 200 6 = 0 := hp
    refine ck_go_s (σ0 := σ) (cuts := []) (by decide) ⟨pl_nmu, ck_E0⟩ ck_X0 ck_l0 200 true [] 0 0 22 [some (.inr (.inr (.inl 200))), some (.inl a), none] [] 249 ([], [], [(200, 6, 6, ck_one 0)]) σ L [] K R M (fun _ _ => rfl) (fun _ h => nomatch h) ⟨hF, hL, rfl, ⟨(fun q hq => nomatch hq), (fun q hq => nomatch hq), fun q hq => ?_⟩, ck_fr_0⟩ g22
    rw [List.mem_singleton.mp hq]
    refine ⟨by show 200 ≤ 249; decide, fun j j1 j2 => ?_⟩
    have j1 : (6 : Int) ≤ j := j1
    have j2 : j ≤ (6 : Int) := j2
    have j3 : j = 6 := by omega
    subst j3
    exact ⟨t1, by show 0 ≤ M 200 6; omega, by show M 200 6 ≤ 0; omega, fun q hq => nomatch hq⟩
  · refine gm_sz (gm_p_load (pc := 7) (i := .aload_n 0) (sr := 2) (j := 0) (by decide +kernel) rfl l0 rfl) ?_
    refine gm_sz (gm_p_get (pc := 8) (ix := 26) (ci := 4) (j := 5) (by decide +kernel) ⟨k1, k2⟩ (by rw [k3]) (by decide +kernel)) ?_
    rw [if_pos (show gm_isr 4 5 = true by decide +kernel), r5]
    refine gm_sz (gm_p_ldcl (pc := 11) (ix := 116) (v := -1) (by decide +kernel) (by decide +kernel)) ?_
    refine gm_c_stat2 (mj := 38) (ix := 118) (pc := 14) (u0 := gm_vr 205) (u1 := gm_vl (-1)) (st := []) (d' := 0) (bc' := 0) (bs' := 0) (by decide +kernel) (by decide +kernel) (by decide +kernel) (by decide +kernel) (show 2 = gm_na 38 by decide +kernel) (by simp [gm_sort]) (show 3 ≤ gm_ml 38 by decide +kernel) (by decide) (by decide) (Nat.le_refl _) (Nat.le_refl _) ?_
    have c0 : ck_gi σ (ck_one (-1)) (-1) := ⟨Int.le_refl (-1), Int.le_refl (-1), fun q hq => nomatch hq⟩
    have c1 : ck_ga σ (.inr (.inl (ck_one (-1)))) (gm_vl (-1)) := ⟨-1, rfl, (show ck_r6 (-1) from ⟨by decide, by decide⟩), c0⟩
    have c2 : ck_gas σ [.inr (.inl (ck_one (-1)))] [gm_vl (-1)] := ⟨gm_vl (-1), [], rfl, c1, rfl⟩
    have c3 : ck_gas σ pl_s177.2.2.1 [gm_vr 205, gm_vl (-1)] := (show ck_gas σ [.inr (.inr (.inl 205)), .inr (.inl (ck_one (-1)))] [gm_vr 205, gm_vl (-1)] from ⟨gm_vr 205, [gm_vl (-1)], rfl, rfl, c2⟩)
    refine gm_Wp_mono (fun o n1 K1 R1 M1 h => ?_) (pl_s177_s 0 σ [gm_vr 205, gm_vl (-1)] 249 K R M (Nat.le_refl _) rfl c3 hnm hF ⟨(fun q hq => nomatch hq), (fun q hq => nomatch hq), fun q hq => nomatch hq⟩)
    obtain ⟨f1, f2, oc, f3, f4, f5, -⟩ := h
    rw [List.mem_singleton.mp f3] at f4 f5
    have f5 : n1 = 249 := f5
    subst f5
    have f2 : ck_fr ([(205, 0, 14849)], []) 249 K R M 249 K1 R1 M1 := f2
    rcases o with (_ | v) | x
    · show gm_Wp X LX 1 0 0 37 17 L [] 249 K1 R1 M1 (ck_Q p2_OL σ rf_W 249 K R M rf_o)
      exact ck_go_s (σ0 := σ) (cuts := []) (by decide) ⟨pl_nmu, ck_E0⟩ ck_X0 ck_l0 200 true [] 0 0 17 [some (.inr (.inr (.inl 200))), some (.inl a), none] [] 249 ([], [], []) σ L [] K1 R1 M1 (fun _ _ => rfl) (fun _ h => nomatch h) ⟨f1, hL, rfl, ⟨(fun q hq => nomatch hq), (fun q hq => nomatch hq), fun q hq => nomatch hq⟩, ck_fr_tr ck_fr_0 f2 (by decide) (by decide)⟩ g17
    · exact absurd f4 id
    · exact absurd f4 id
/-- a number below 0, or not: its quotient is looked at in both -/
theorem pl_s178_s {X : Int → Int} {LX : Nat} : ck_Ok p2_OL X LX 37 pl_s178 := by
  have ha : ck_Ok p2_OL X LX 37 pl_s178a := rf_s rf_a17 rf_a22
  have hb : ck_Ok p2_OL X LX 37 pl_s178b := rf_s rf_b17 rf_b22
  intro d σ vs n K R M hd hn hvs hnm hF hf
  have hs : ck_gas σ pl_s178a.2.2.1 vs ∨ ck_gas σ pl_s178b.2.2.1 vs := by
    obtain ⟨v0, w0, rfl, g0, g1⟩ : ∃ v ws, vs = v :: ws ∧ ck_ga σ (.inr (.inr (.inl 200))) v ∧ ck_gas σ (.inl ((-2147483648), 2147483647, []) :: []) ws := hvs
    obtain ⟨v1, w1, rfl, ⟨x, rfl, rx, x1, x2, x3⟩, g2⟩ : ∃ v ws, w0 = v :: ws ∧ ck_ga σ (.inl ((-2147483648), 2147483647, [])) v ∧ ck_gas σ [] ws := g1
    by_cases hx : x < 0
    · have h1 : ∃ v ws, gm_vi x :: w1 = v :: ws ∧ ck_ga σ (.inl ((-2147483648), (-1), [])) v ∧ ck_gas σ [] ws := ⟨_, _, rfl, ⟨x, rfl, rx, x1, by show x ≤ -1; omega, x3⟩, g2⟩
      have h2 : ∃ v ws, v0 :: gm_vi x :: w1 = v :: ws ∧ ck_ga σ (.inr (.inr (.inl 200))) v ∧ ck_gas σ (.inl ((-2147483648), (-1), []) :: []) ws := ⟨_, _, rfl, g0, h1⟩
      exact Or.inl h2
    · have h1 : ∃ v ws, gm_vi x :: w1 = v :: ws ∧ ck_ga σ (.inl (0, 2147483647, [])) v ∧ ck_gas σ [] ws := ⟨_, _, rfl, ⟨x, rfl, rx, by show 0 ≤ x; omega, x2, x3⟩, g2⟩
      have h2 : ∃ v ws, v0 :: gm_vi x :: w1 = v :: ws ∧ ck_ga σ (.inr (.inr (.inl 200))) v ∧ ck_gas σ (.inl (0, 2147483647, []) :: []) ws := ⟨_, _, rfl, g0, h1⟩
      exact Or.inr h2
  rcases hs with h | h
  · exact ha d σ vs n K R M hd hn h hnm hF hf
  · exact hb d σ vs n K R M hd hn h hnm hF hf
set_option maxRecDepth 100000 in
/-- GlacierMail$Ice.heatIn -/
noncomputable def pl_s179 : ck_Sum := (((0 : Nat), (0 : Nat), (0 : Nat)), (249 : Nat), [.inr (.inr (.inl (200 : Nat))), .inl ((-2147483648 : Int), (2147483647 : Int), [])], ([], [], []), ([], []), [(.inr (some (.inl ((0 : Int), (9 : Int), []))), (249 : Nat), ([], [], []))])
set_option maxRecDepth 100000 in
theorem pl_s179_s {X : Int → Int} {LX : Nat} : ck_Ok p2_OL X LX 34 pl_s179 := ck_okq (cuts := []) (f := 92) ⟨pl_nmu, ck_E0⟩ (by decide +kernel)
end
/-! 78r86a02.sl -/
section
/-! EVERY CALL OF THE CLASS ENDS, under a law (laid by wip/am/p2l.py). -/
set_option maxRecDepth 100000 in
/-- GlacierMail$Ice.setFacts -/
noncomputable def pl_s180 : ck_Sum := (((1 : Nat), (0 : Nat), (0 : Nat)), (249 : Nat), [.inr (.inr (.inl (200 : Nat))), .inl ((-2147483648 : Int), (2147483647 : Int), []), .inl ((-2147483648 : Int), (2147483647 : Int), []), .inl ((-2147483648 : Int), (2147483647 : Int), []), .inl (ck_one 0)], ([], [], []), ([((204 : Nat), (0 : Int), (9 : Int))], []), [(.inr none, (249 : Nat), ([], [], [((204 : Nat), (9 : Int), (9 : Int), ((0 : Int), (1 : Int), [])), ((204 : Nat), (8 : Int), (8 : Int), ((0 : Int), (1 : Int), [])), ((204 : Nat), (7 : Int), (7 : Int), ck_one 0), ((204 : Nat), (6 : Int), (6 : Int), ck_one 0), ((204 : Nat), (5 : Int), (5 : Int), ck_one 0), ((204 : Nat), (4 : Int), (4 : Int), ck_one 0), ((204 : Nat), (3 : Int), (3 : Int), ((0 : Int), (9 : Int), []))]))])
set_option maxRecDepth 100000 in
theorem pl_s180_s {X : Int → Int} {LX : Nat} : ck_Ok p2_OL X LX 39 pl_s180 := ck_okq (cuts := []) (f := 208) ⟨pl_nmu, ck_E1 (ck_S1 pl_s179_s ck_S0) ck_E0⟩ (by decide +kernel)
set_option maxRecDepth 100000 in
/-- GlacierMail$Ice.setFacts -/
noncomputable def pl_s181 : ck_Sum := (((1 : Nat), (0 : Nat), (0 : Nat)), (249 : Nat), [.inr (.inr (.inl (200 : Nat))), .inl ((-2147483648 : Int), (2147483647 : Int), []), .inl ((-2147483648 : Int), (2147483647 : Int), []), .inl ((-2147483648 : Int), (2147483647 : Int), []), .inl ((-1 : Int), (98 : Int), [])], ([], [], []), ([((204 : Nat), (0 : Int), (9 : Int))], []), [(.inr none, (249 : Nat), ([], [], [((204 : Nat), (9 : Int), (9 : Int), ((0 : Int), (1 : Int), [])), ((204 : Nat), (8 : Int), (8 : Int), ((0 : Int), (1 : Int), [])), ((204 : Nat), (7 : Int), (7 : Int), ck_one 0), ((204 : Nat), (6 : Int), (6 : Int), ck_one 0), ((204 : Nat), (5 : Int), (5 : Int), ck_one 0), ((204 : Nat), (4 : Int), (4 : Int), ((-1 : Int), (98 : Int), [])), ((204 : Nat), (3 : Int), (3 : Int), ((0 : Int), (9 : Int), []))]))])
set_option maxRecDepth 100000 in
theorem pl_s181_s {X : Int → Int} {LX : Nat} : ck_Ok p2_OL X LX 39 pl_s181 := ck_okq (cuts := []) (f := 208) ⟨pl_nmu, ck_E1 (ck_S1 pl_s179_s ck_S0) ck_E0⟩ (by decide +kernel)
set_option maxRecDepth 100000 in
/-- GlacierMail$Rows.size -/
noncomputable def pl_s182 : ck_Sum := (((0 : Nat), (0 : Nat), (0 : Nat)), (249 : Nat), [.inr (.inr (.inl (248 : Nat)))], ([], [], []), ([], []), [(.inr (some (.inl ((0 : Int), (12 : Int), []))), (249 : Nat), ([], [], []))])
set_option maxRecDepth 100000 in
theorem pl_s182_s {X : Int → Int} {LX : Nat} : ck_Ok p2_OL X LX 9 pl_s182 := ck_okq (cuts := []) (f := 76) ⟨pl_nmu, ck_E0⟩ (by decide +kernel)
set_option maxRecDepth 100000 in
/-- GlacierMail$Rows.get -/
noncomputable def pl_s183 : ck_Sum := (((0 : Nat), (0 : Nat), (0 : Nat)), (249 : Nat), [.inr (.inr (.inl (248 : Nat))), .inl ((-2147483648 : Int), (2147483647 : Int), []), .inl ((-2147483648 : Int), (2147483647 : Int), [])], ([], [], []), ([], []), [(.inr (some (.inl ((-2147483648 : Int), (2147483647 : Int), []))), (249 : Nat), ([], [], []))])
set_option maxRecDepth 100000 in
theorem pl_s183_s {X : Int → Int} {LX : Nat} : ck_Ok p2_OL X LX 10 pl_s183 := ck_okq (cuts := []) (f := 114) ⟨pl_nmu, ck_E0⟩ (by decide +kernel)
set_option maxRecDepth 100000 in
/-- GlacierMail$Law.faster -/
noncomputable def pl_s185 : ck_Sum := (((1 : Nat), (0 : Nat), (0 : Nat)), (249 : Nat), [.inr (.inr (.inl (246 : Nat))), .inr (.inr (.inl (204 : Nat)))], ([], [], []), ([], []), [(.inr (some (.inl ((-2147483648 : Int), (2147483647 : Int), []))), (249 : Nat), ([], [], []))])
set_option maxRecDepth 100000 in
theorem pl_s185_s {X : Int → Int} {LX : Nat} : ck_Ok p2_OL X LX 40 pl_s185 := ck_okq (cuts := [((4 : Nat), [some (.inr (.inr (.inl (246 : Nat)))), some (.inr (.inr (.inl (204 : Nat)))), some (.inl ((-2147483648 : Int), (2147483647 : Int), [])), some (.inl ((0 : Int), (12 : Int), [])), none], ([], [], []), (100 : Nat), .inl (3 : Nat), true)]) (f := 258) ⟨pl_nmu, ck_E1 (ck_S1 pl_s182_s ck_S0) (ck_E1 (ck_S1 pl_s183_s ck_S0) (ck_E1 (ck_S1 lh_S_s ck_S0) ck_E0))⟩ (by decide +kernel)
set_option maxRecDepth 100000 in
/-- GlacierMail$Ice.keepFlow -/
noncomputable def pl_s186 : ck_Sum := (((0 : Nat), (0 : Nat), (0 : Nat)), (249 : Nat), [.inr (.inr (.inl (200 : Nat))), .inl ((-2147483648 : Int), (2147483647 : Int), []), .inl ((0 : Int), (30 : Int), [])], ([], [], []), ([((205 : Nat), (0 : Int), (14849 : Int))], []), [(.inr none, (249 : Nat), ([], [], []))])
set_option maxRecDepth 100000 in
noncomputable def pl_s186a : ck_Sum := (((0 : Nat), (0 : Nat), (0 : Nat)), (249 : Nat), [.inr (.inr (.inl (200 : Nat))), .inl ((-2147483648 : Int), (-1 : Int), []), .inl ((0 : Int), (30 : Int), [])], ([], [], []), ([((205 : Nat), (0 : Int), (14849 : Int))], []), [(.inr none, (249 : Nat), ([], [], []))])
set_option maxRecDepth 100000 in
noncomputable def pl_s186b : ck_Sum := (((0 : Nat), (0 : Nat), (0 : Nat)), (249 : Nat), [.inr (.inr (.inl (200 : Nat))), .inl ((0 : Int), (2147483647 : Int), []), .inl ((0 : Int), (30 : Int), [])], ([], [], []), ([((205 : Nat), (0 : Int), (14849 : Int))], []), [(.inr none, (249 : Nat), ([], [], []))])
set_option maxRecDepth 100000 in
theorem pl_s186a_e : ck_ok p2_OL none [] [] 42 [] 154 pl_s186a = true := by decide +kernel
set_option maxRecDepth 100000 in
theorem pl_s186b_e : ck_ok p2_OL none [] [] 42 [] 154 pl_s186b = true := by decide +kernel
/-- a number below 0, or not: its quotient is looked at in both -/
theorem pl_s186_s {X : Int → Int} {LX : Nat} : ck_Ok p2_OL X LX 42 pl_s186 := by
  have ha : ck_Ok p2_OL X LX 42 pl_s186a := ck_ok_s ⟨pl_nmu, ck_E0⟩ ck_X0 ck_l0 pl_s186a_e
  have hb : ck_Ok p2_OL X LX 42 pl_s186b := ck_ok_s ⟨pl_nmu, ck_E0⟩ ck_X0 ck_l0 pl_s186b_e
  intro d σ vs n K R M hd hn hvs hnm hF hf
  have hs : ck_gas σ pl_s186a.2.2.1 vs ∨ ck_gas σ pl_s186b.2.2.1 vs := by
    obtain ⟨v0, w0, rfl, g0, g1⟩ : ∃ v ws, vs = v :: ws ∧ ck_ga σ (.inr (.inr (.inl 200))) v ∧ ck_gas σ (.inl ((-2147483648), 2147483647, []) :: [.inl (0, 30, [])]) ws := hvs
    obtain ⟨v1, w1, rfl, ⟨x, rfl, rx, x1, x2, x3⟩, g2⟩ : ∃ v ws, w0 = v :: ws ∧ ck_ga σ (.inl ((-2147483648), 2147483647, [])) v ∧ ck_gas σ [.inl (0, 30, [])] ws := g1
    by_cases hx : x < 0
    · have h1 : ∃ v ws, gm_vi x :: w1 = v :: ws ∧ ck_ga σ (.inl ((-2147483648), (-1), [])) v ∧ ck_gas σ [.inl (0, 30, [])] ws := ⟨_, _, rfl, ⟨x, rfl, rx, x1, by show x ≤ -1; omega, x3⟩, g2⟩
      have h2 : ∃ v ws, v0 :: gm_vi x :: w1 = v :: ws ∧ ck_ga σ (.inr (.inr (.inl 200))) v ∧ ck_gas σ (.inl ((-2147483648), (-1), []) :: [.inl (0, 30, [])]) ws := ⟨_, _, rfl, g0, h1⟩
      exact Or.inl h2
    · have h1 : ∃ v ws, gm_vi x :: w1 = v :: ws ∧ ck_ga σ (.inl (0, 2147483647, [])) v ∧ ck_gas σ [.inl (0, 30, [])] ws := ⟨_, _, rfl, ⟨x, rfl, rx, by show 0 ≤ x; omega, x2, x3⟩, g2⟩
      have h2 : ∃ v ws, v0 :: gm_vi x :: w1 = v :: ws ∧ ck_ga σ (.inr (.inr (.inl 200))) v ∧ ck_gas σ (.inl (0, 2147483647, []) :: [.inl (0, 30, [])]) ws := ⟨_, _, rfl, g0, h1⟩
      exact Or.inr h2
  rcases hs with h | h
  · exact ha d σ vs n K R M hd hn h hnm hF hf
  · exact hb d σ vs n K R M hd hn h hnm hF hf
set_option maxRecDepth 100000 in
/-- GlacierMail$Ice.flowAt -/
noncomputable def pl_s187 : ck_Sum := (((2 : Nat), (0 : Nat), (0 : Nat)), (249 : Nat), [.inr (.inr (.inl (200 : Nat))), .inl ((-2147483648 : Int), (2147483647 : Int), []), .inl ((-2147483648 : Int), (2147483647 : Int), []), .inl ((-2147483648 : Int), (2147483647 : Int), [])], ([], [((3 : Nat), (8 : Int), (246 : Nat))], []), ([((200 : Nat), (6 : Int), (6 : Int)), ((204 : Nat), (0 : Int), (9 : Int)), ((205 : Nat), (0 : Int), (14849 : Int))], []), [(.inr (some (.inl ((0 : Int), (30 : Int), []))), (249 : Nat), ([], [], [((200 : Nat), (6 : Int), (6 : Int), ck_one 0)]))])
set_option maxRecDepth 100000 in
theorem pl_s187_s {X : Int → Int} {LX : Nat} : ck_Ok p2_OL X LX 35 pl_s187 := ck_okq (cuts := []) (f := 172) ⟨pl_nmu, ck_E1 (ck_S1 pl_s176_s ck_S0) (ck_E1 (ck_S1 pl_s178_s ck_S0) (ck_E1 (ck_S1 pl_s180_s (ck_S1 pl_s181_s ck_S0)) (ck_E1 (ck_S1 pl_s185_s ck_S0) (ck_E1 (ck_S1 pl_s186_s ck_S0) ck_E0))))⟩ (by decide +kernel)
set_option maxRecDepth 100000 in
/-- GlacierMail$Rows.size -/
noncomputable def pl_s189 : ck_Sum := (((0 : Nat), (0 : Nat), (0 : Nat)), (249 : Nat), [.inr (.inr (.inl (8 : Nat)))], ([], [], []), ([], []), [(.inr (some (.inl ((0 : Int), (8 : Int), []))), (249 : Nat), ([], [], []))])
set_option maxRecDepth 100000 in
theorem pl_s189_s {X : Int → Int} {LX : Nat} : ck_Ok p2_OL X LX 9 pl_s189 := ck_okq (cuts := []) (f := 76) ⟨pl_nmu, ck_E0⟩ (by decide +kernel)
set_option maxRecDepth 100000 in
/-- GlacierMail.need -/
noncomputable def pl_s190 : ck_Sum := (((6 : Nat), (1 : Nat), (6 : Nat)), (249 : Nat), [.inr (.inr (.inl (1 : Nat))), .inl ((-2147483648 : Int), (-1 : Int), []), .inl ((0 : Int), (8 : Int), [])], ([], [], []), ([], []), [(.inl (3 : Nat), (249 : Nat), ([], [], []))])
set_option maxRecDepth 100000 in
theorem pl_s190_s {X : Int → Int} {LX : Nat} : ck_Ok p2_OL X LX 133 pl_s190 := ck_okq (cuts := []) (f := 76) ⟨pl_nmu, ck_E0⟩ (by decide +kernel)
set_option maxRecDepth 100000 in
/-- GlacierMail.needPerson -/
noncomputable def pl_s191 : ck_Sum := (((7 : Nat), (1 : Nat), (6 : Nat)), (249 : Nat), [.inr (.inr (.inl (1 : Nat))), .inl ((-2147483648 : Int), (-1 : Int), [])], ([], [], []), ([], []), [(.inl (3 : Nat), (249 : Nat), ([], [], []))])
set_option maxRecDepth 100000 in
theorem pl_s191_s {X : Int → Int} {LX : Nat} : ck_Ok p2_OL X LX 139 pl_s191 := ck_okq (cuts := []) (f := 84) ⟨pl_nmu, ck_E1 (ck_S1 pl_s189_s ck_S0) (ck_E1 (ck_S1 pl_s190_s ck_S0) ck_E0)⟩ (by decide +kernel)
set_option maxRecDepth 100000 in
/-- GlacierMail.person -/
noncomputable def pl_s192 : ck_Sum := (((8 : Nat), (1 : Nat), (6 : Nat)), (249 : Nat), [.inr (.inr (.inl (1 : Nat))), .inl ((-2147483648 : Int), (-1 : Int), []), .inl ((-2147483648 : Int), (2147483647 : Int), [])], ([], [], []), ([], []), [(.inl (3 : Nat), (249 : Nat), ([], [], []))])
set_option maxRecDepth 100000 in
theorem pl_s192_s {X : Int → Int} {LX : Nat} : ck_Ok p2_OL X LX 138 pl_s192 := ck_okq (cuts := []) (f := 76) ⟨pl_nmu, ck_E1 (ck_S1 pl_s191_s ck_S0) ck_E0⟩ (by decide +kernel)
set_option maxRecDepth 100000 in
/-- GlacierMail.need -/
noncomputable def pl_s193 : ck_Sum := (((6 : Nat), (1 : Nat), (6 : Nat)), (249 : Nat), [.inr (.inr (.inl (1 : Nat))), .inl ((8 : Int), (2147483647 : Int), []), .inl ((0 : Int), (8 : Int), [])], ([], [], []), ([], []), [(.inl (3 : Nat), (249 : Nat), ([], [], []))])
set_option maxRecDepth 100000 in
theorem pl_s193_s {X : Int → Int} {LX : Nat} : ck_Ok p2_OL X LX 133 pl_s193 := ck_okq (cuts := []) (f := 82) ⟨pl_nmu, ck_E0⟩ (by decide +kernel)
set_option maxRecDepth 100000 in
/-- GlacierMail.needPerson -/
noncomputable def pl_s194 : ck_Sum := (((7 : Nat), (1 : Nat), (6 : Nat)), (249 : Nat), [.inr (.inr (.inl (1 : Nat))), .inl ((8 : Int), (2147483647 : Int), [])], ([], [], []), ([], []), [(.inl (3 : Nat), (249 : Nat), ([], [], []))])
set_option maxRecDepth 100000 in
theorem pl_s194_s {X : Int → Int} {LX : Nat} : ck_Ok p2_OL X LX 139 pl_s194 := ck_okq (cuts := []) (f := 84) ⟨pl_nmu, ck_E1 (ck_S1 pl_s189_s ck_S0) (ck_E1 (ck_S1 pl_s193_s ck_S0) ck_E0)⟩ (by decide +kernel)
set_option maxRecDepth 100000 in
/-- GlacierMail.person -/
noncomputable def pl_s195 : ck_Sum := (((8 : Nat), (1 : Nat), (6 : Nat)), (249 : Nat), [.inr (.inr (.inl (1 : Nat))), .inl ((8 : Int), (2147483647 : Int), []), .inl ((-2147483648 : Int), (2147483647 : Int), [])], ([], [], []), ([], []), [(.inl (3 : Nat), (249 : Nat), ([], [], []))])
set_option maxRecDepth 100000 in
theorem pl_s195_s {X : Int → Int} {LX : Nat} : ck_Ok p2_OL X LX 138 pl_s195 := ck_okq (cuts := []) (f := 76) ⟨pl_nmu, ck_E1 (ck_S1 pl_s194_s ck_S0) ck_E0⟩ (by decide +kernel)
set_option maxRecDepth 100000 in
/-- GlacierMail.need -/
noncomputable def pl_s196 : ck_Sum := (((6 : Nat), (1 : Nat), (6 : Nat)), (249 : Nat), [.inr (.inr (.inl (1 : Nat))), .inl ((0 : Int), (7 : Int), []), .inl ((0 : Int), (8 : Int), [])], ([], [], []), ([], []), [(.inr none, (249 : Nat), ([], [], [])), (.inl (3 : Nat), (249 : Nat), ([], [], []))])
set_option maxRecDepth 100000 in
theorem pl_s196_s {X : Int → Int} {LX : Nat} : ck_Ok p2_OL X LX 133 pl_s196 := ck_okq (cuts := []) (f := 82) ⟨pl_nmu, ck_E0⟩ (by decide +kernel)
set_option maxRecDepth 100000 in
/-- GlacierMail.needPerson -/
noncomputable def pl_s197 : ck_Sum := (((7 : Nat), (1 : Nat), (6 : Nat)), (249 : Nat), [.inr (.inr (.inl (1 : Nat))), .inl ((0 : Int), (7 : Int), [])], ([], [], []), ([], []), [(.inl (3 : Nat), (249 : Nat), ([], [], [])), (.inr none, (249 : Nat), ([], [], []))])
set_option maxRecDepth 100000 in
theorem pl_s197_s {X : Int → Int} {LX : Nat} : ck_Ok p2_OL X LX 139 pl_s197 := ck_okq (cuts := []) (f := 86) ⟨pl_nmu, ck_E1 (ck_S1 pl_s189_s ck_S0) (ck_E1 (ck_S1 pl_s196_s ck_S0) ck_E0)⟩ (by decide +kernel)
set_option maxRecDepth 100000 in
/-- GlacierMail.person -/
noncomputable def pl_s198 : ck_Sum := (((8 : Nat), (2 : Nat), (12 : Nat)), (249 : Nat), [.inr (.inr (.inl (1 : Nat))), .inl ((0 : Int), (7 : Int), []), .inl ((-2147483648 : Int), (-1 : Int), [])], ([], [], []), ([], []), [(.inl (3 : Nat), (249 : Nat), ([], [], [])), (.inl (4 : Nat), (249 : Nat), ([], [], []))])
set_option maxRecDepth 100000 in
theorem pl_s198_s {X : Int → Int} {LX : Nat} : ck_Ok p2_OL X LX 138 pl_s198 := ck_okq (cuts := []) (f := 82) ⟨pl_nmu, ck_E1 (ck_S1 pl_s197_s ck_S0) ck_E0⟩ (by decide +kernel)
set_option maxRecDepth 100000 in
/-- GlacierMail.person -/
noncomputable def pl_s199 : ck_Sum := (((8 : Nat), (2 : Nat), (12 : Nat)), (249 : Nat), [.inr (.inr (.inl (1 : Nat))), .inl ((0 : Int), (7 : Int), []), .inl ((10 : Int), (2147483647 : Int), [])], ([], [], []), ([], []), [(.inl (3 : Nat), (249 : Nat), ([], [], [])), (.inl (4 : Nat), (249 : Nat), ([], [], []))])
set_option maxRecDepth 100000 in
theorem pl_s199_s {X : Int → Int} {LX : Nat} : ck_Ok p2_OL X LX 138 pl_s199 := ck_okq (cuts := []) (f := 82) ⟨pl_nmu, ck_E1 (ck_S1 pl_s197_s ck_S0) ck_E0⟩ (by decide +kernel)
set_option maxRecDepth 100000 in
/-- GlacierMail$Rows.size -/
noncomputable def pl_s200 : ck_Sum := (((0 : Nat), (0 : Nat), (0 : Nat)), (249 : Nat), [.inr (.inr (.inl (10 : Nat)))], ([], [], []), ([], []), [(.inr (some (.inl ((0 : Int), (24 : Int), []))), (249 : Nat), ([], [], []))])
set_option maxRecDepth 100000 in
theorem pl_s200_s {X : Int → Int} {LX : Nat} : ck_Ok p2_OL X LX 9 pl_s200 := ck_okq (cuts := []) (f := 76) ⟨pl_nmu, ck_E0⟩ (by decide +kernel)
set_option maxRecDepth 100000 in
/-- GlacierMail$Rows.size -/
noncomputable def pl_s201 : ck_Sum := (((0 : Nat), (0 : Nat), (0 : Nat)), (249 : Nat), [.inr (.inr (.inl (220 : Nat)))], ([], [], []), ([], []), [(.inr (some (.inl ((0 : Int), (24 : Int), []))), (249 : Nat), ([], [], []))])
set_option maxRecDepth 100000 in
theorem pl_s201_s {X : Int → Int} {LX : Nat} : ck_Ok p2_OL X LX 9 pl_s201 := ck_okq (cuts := []) (f := 76) ⟨pl_nmu, ck_E0⟩ (by decide +kernel)
set_option maxRecDepth 100000 in
/-- java/util/Arrays.fill -/
noncomputable def pl_s202 : ck_Sum := (((0 : Nat), (0 : Nat), (0 : Nat)), (249 : Nat), [.inr (.inr (.inl (221 : Nat))), .inl (ck_one 0)], ([], [], []), ([((221 : Nat), (0 : Int), (47 : Int))], []), [(.inr none, (249 : Nat), ([], [], []))])
set_option maxRecDepth 100000 in
theorem pl_s202_s {X : Int → Int} {LX : Nat} : ck_Ok p2_OL X LX 8 pl_s202 := ck_okq (cuts := [((5 : Nat), [some (.inr (.inr (.inl (221 : Nat)))), some (.inl (ck_one 0)), some (.inl ((0 : Int), (48 : Int), [])), some (.inl (ck_one 48))], ([], [], []), (100 : Nat), .inl (2 : Nat), true)]) (f := 130) ⟨pl_nmu, ck_E0⟩ (by decide +kernel)
set_option maxRecDepth 100000 in
/-- GlacierMail$Rows.reset -/
noncomputable def pl_s203 : ck_Sum := (((1 : Nat), (0 : Nat), (0 : Nat)), (249 : Nat), [.inr (.inr (.inl (220 : Nat))), .inl ((0 : Int), (24 : Int), [])], ([], [], []), ([((220 : Nat), (3 : Int), (3 : Int)), ((221 : Nat), (0 : Int), (47 : Int))], []), [(.inr none, (249 : Nat), ([], [], []))])
set_option maxRecDepth 100000 in
theorem pl_s203_s {X : Int → Int} {LX : Nat} : ck_Ok p2_OL X LX 25 pl_s203 := ck_okq (cuts := []) (f := 96) ⟨pl_nmu, ck_E1 (ck_S1 pl_s202_s ck_S0) ck_E0⟩ (by decide +kernel)
set_option maxRecDepth 100000 in
/-- GlacierMail$Rows.get -/
noncomputable def pl_s204 : ck_Sum := (((0 : Nat), (0 : Nat), (0 : Nat)), (249 : Nat), [.inr (.inr (.inl (10 : Nat))), .inl ((-2147483648 : Int), (2147483647 : Int), []), .inl ((-2147483648 : Int), (2147483647 : Int), [])], ([], [], []), ([], []), [(.inr (some (.inl ((-1 : Int), (299 : Int), []))), (249 : Nat), ([], [], []))])
set_option maxRecDepth 100000 in
theorem pl_s204_s {X : Int → Int} {LX : Nat} : ck_Ok p2_OL X LX 10 pl_s204 := ck_okq (cuts := []) (f := 114) ⟨pl_nmu, ck_E0⟩ (by decide +kernel)
set_option maxRecDepth 100000 in
/-- GlacierMail$State.isRock -/
noncomputable def pl_s205 : ck_Sum := (((1 : Nat), (0 : Nat), (0 : Nat)), (249 : Nat), [.inr (.inr (.inl (3 : Nat))), .inl ((0 : Int), (23 : Int), [])], ([], [], []), ([], []), [(.inr (some (.inl (ck_one 0))), (249 : Nat), ([], [], [])), (.inr (some (.inl (ck_one 1))), (249 : Nat), ([], [], []))])
set_option maxRecDepth 100000 in
theorem pl_s205_s {X : Int → Int} {LX : Nat} : ck_Ok p2_OL X LX 28 pl_s205 := ck_okq (cuts := []) (f := 90) ⟨pl_nmu, ck_E1 (ck_S1 pl_s204_s ck_S0) ck_E0⟩ (by decide +kernel)
set_option maxRecDepth 100000 in
/-- GlacierMail$Way.start -/
noncomputable def pl_s206 : ck_Sum := (((0 : Nat), (0 : Nat), (0 : Nat)), (249 : Nat), [.inr (.inr (.inl (206 : Nat))), .inl ((-1 : Int), (299 : Int), []), .inl ((-1 : Int), (299 : Int), []), .inl ((-1 : Int), (299 : Int), []), .inl (ck_one 0)], ([], [], []), ([((206 : Nat), (2 : Int), (8 : Int))], []), [(.inr none, (249 : Nat), ([], [], zl74))])
set_option maxRecDepth 100000 in
theorem pl_s206_s {X : Int → Int} {LX : Nat} : ck_Ok p2_OL X LX 29 pl_s206 := ck_okq (cuts := []) (f := 114) ⟨pl_nmu, ck_E0⟩ (by decide +kernel)
set_option maxRecDepth 100000 in
/-- GlacierMail$Way.start -/
noncomputable def pl_s207 : ck_Sum := (((0 : Nat), (0 : Nat), (0 : Nat)), (249 : Nat), [.inr (.inr (.inl (206 : Nat))), .inl ((-1 : Int), (299 : Int), []), .inl ((-1 : Int), (299 : Int), []), .inl ((-1 : Int), (299 : Int), []), .inl (ck_one 1)], ([], [], []), ([((206 : Nat), (2 : Int), (8 : Int))], []), [(.inr none, (249 : Nat), ([], [], zl75))])
set_option maxRecDepth 100000 in
theorem pl_s207_s {X : Int → Int} {LX : Nat} : ck_Ok p2_OL X LX 29 pl_s207 := ck_okq (cuts := []) (f := 114) ⟨pl_nmu, ck_E0⟩ (by decide +kernel)
set_option maxRecDepth 100000 in
/-- GlacierMail$Way.startLetter -/
noncomputable def pl_s208 : ck_Sum := (((2 : Nat), (0 : Nat), (0 : Nat)), (249 : Nat), [.inr (.inr (.inl (206 : Nat))), .inl ((0 : Int), (23 : Int), [])], ([], [], []), ([((206 : Nat), (2 : Int), (8 : Int))], []), [(.inr none, (249 : Nat), ([], [], zl76))])
set_option maxRecDepth 100000 in
theorem pl_s208_s {X : Int → Int} {LX : Nat} : ck_Ok p2_OL X LX 27 pl_s208 := ck_okq (cuts := []) (f := 116) ⟨pl_nmu, ck_E1 (ck_S1 pl_s204_s ck_S0) (ck_E1 (ck_S1 pl_s205_s ck_S0) (ck_E1 (ck_S1 pl_s206_s (ck_S1 pl_s207_s ck_S0)) ck_E0))⟩ (by decide +kernel)
set_option maxRecDepth 100000 in
/-- GlacierMail$Way.isOut -/
noncomputable def pl_s209 : ck_Sum := (((0 : Nat), (0 : Nat), (0 : Nat)), (249 : Nat), [.inr (.inr (.inl (206 : Nat)))], ([], [], []), ([], []), [(.inr (some (.inl (ck_one 0))), (249 : Nat), ([], [], [((206 : Nat), (5 : Int), (5 : Int), ((-2147483648 : Int), (98 : Int), []))])), (.inr (some (.inl (ck_one 1))), (249 : Nat), ([], [], [((206 : Nat), (5 : Int), (5 : Int), ((10 : Int), (2147483647 : Int), []))]))])
set_option maxRecDepth 100000 in
theorem pl_s209_s {X : Int → Int} {LX : Nat} : ck_Ok p2_OL X LX 31 pl_s209 := ck_okq (cuts := []) (f := 88) ⟨pl_nmu, ck_E0⟩ (by decide +kernel)
set_option maxRecDepth 100000 in
/-- GlacierMail$Way.deepAfter -/
noncomputable def pl_s210 : ck_Sum := (((1 : Nat), (0 : Nat), (0 : Nat)), (249 : Nat), [.inr (.inr (.inl (206 : Nat)))], ([], [], []), ([], []), [(.inr (some (.inl ((0 : Int), (99 : Int), []))), (249 : Nat), ([], [], []))])
set_option maxRecDepth 100000 in
theorem pl_s210_s {X : Int → Int} {LX : Nat} : ck_Ok p2_OL X LX 33 pl_s210 := ck_okq (cuts := []) (f := 110) ⟨pl_nmu, ck_E1 (ck_S1 pl_s179_s ck_S0) ck_E0⟩ (by decide +kernel)
set_option maxRecDepth 100000 in
/-- GlacierMail$Ice.floodsIn -/
noncomputable def pl_s211 : ck_Sum := (((0 : Nat), (0 : Nat), (0 : Nat)), (249 : Nat), [.inr (.inr (.inl (200 : Nat))), .inl ((-2147483648 : Int), (2147483647 : Int), [])], ([], [], []), ([], []), [(.inr (some (.inl (ck_one 0))), (249 : Nat), ([], [], [])), (.inr (some (.inl ((-2147483648 : Int), (2147483647 : Int), []))), (249 : Nat), ([], [], []))])
set_option maxRecDepth 100000 in
theorem pl_s211_s {X : Int → Int} {LX : Nat} : ck_Ok p2_OL X LX 44 pl_s211 := ck_okq (cuts := []) (f := 92) ⟨pl_nmu, ck_E0⟩ (by decide +kernel)
set_option maxRecDepth 100000 in
/-- GlacierMail$Way.takeFloods -/
noncomputable def pl_s212 : ck_Sum := (((1 : Nat), (0 : Nat), (0 : Nat)), (249 : Nat), [.inr (.inr (.inl (206 : Nat)))], ([], [], []), ([((206 : Nat), (5 : Int), (5 : Int)), ((206 : Nat), (8 : Int), (8 : Int))], []), [(.inr none, (249 : Nat), ([], [], []))])
set_option maxRecDepth 100000 in
theorem pl_s212_s {X : Int → Int} {LX : Nat} : ck_Ok p2_OL X LX 43 pl_s212 := ck_okq (cuts := [((22 : Nat), [some (.inr (.inr (.inl (206 : Nat)))), some (.inr (.inr (.inl (6 : Nat)))), some (.inl ((-2147483648 : Int), (2147483647 : Int), [])), some (.inl ((0 : Int), (9 : Int), [])), none], ([], [], []), (100 : Nat), .inl (3 : Nat), true)]) (f := 290) ⟨pl_nmu, ck_E1 (ck_S1 pl_s211_s ck_S0) (ck_E1 (ck_S1 pl_s137_s ck_S0) (ck_E1 (ck_S1 pl_s138_s ck_S0) ck_E0))⟩ (by decide +kernel)
set_option maxRecDepth 100000 in
/-- GlacierMail$Way.step -/
noncomputable def pl_s213 : ck_Sum := (((3 : Nat), (0 : Nat), (0 : Nat)), (249 : Nat), [.inr (.inr (.inl (206 : Nat)))], ([], [((3 : Nat), (8 : Int), (246 : Nat))], []), (zl227, []), [(.inr none, (249 : Nat), ([], [], []))])
set_option maxRecDepth 100000 in
theorem pl_s213_s {X : Int → Int} {LX : Nat} : ck_Ok p2_OL X LX 32 pl_s213 := ck_okq (cuts := []) (f := 134) ⟨pl_nmu, ck_E1 (ck_S1 pl_s209_s ck_S0) (ck_E1 (ck_S1 pl_s210_s ck_S0) (ck_E1 (ck_S1 pl_s187_s ck_S0) (ck_E1 (ck_S1 pl_s212_s ck_S0) ck_E0)))⟩ (by decide +kernel)
set_option maxRecDepth 100000 in
/-- GlacierMail$Way.runOut -/
noncomputable def pl_s214 : ck_Sum := (((4 : Nat), (0 : Nat), (0 : Nat)), (249 : Nat), [.inr (.inr (.inl (206 : Nat))), .inl ((0 : Int), (299 : Int), [])], ([], [((3 : Nat), (8 : Int), (246 : Nat))], []), (zl227, []), [(.inr (some (.inl ((-2147483648 : Int), (299 : Int), []))), (249 : Nat), ([], [], []))])
set_option maxRecDepth 100000 in
theorem pl_s214_s {X : Int → Int} {LX : Nat} : ck_Ok p2_OL X LX 30 pl_s214 := ck_okq (cuts := [((5 : Nat), [some (.inr (.inr (.inl (206 : Nat)))), some (.inl ((0 : Int), (299 : Int), [])), some (.inl ((-2147483648 : Int), (2147483647 : Int), []))], ([], [((3 : Nat), (8 : Int), (246 : Nat))], []), (100 : Nat), .inl (2 : Nat), true)]) (f := 134) ⟨pl_nmu, ck_E1 (ck_S1 pl_s209_s ck_S0) (ck_E1 (ck_S1 pl_s213_s ck_S0) ck_E0)⟩ (by decide +kernel)
set_option maxRecDepth 100000 in
/-- GlacierMail$Rows.put -/
noncomputable def pl_s215 : ck_Sum := (((0 : Nat), (0 : Nat), (0 : Nat)), (249 : Nat), [.inr (.inr (.inl (220 : Nat))), .inl ((0 : Int), (23 : Int), []), .inl (ck_one 0), .inl ((-2147483648 : Int), (299 : Int), [])], ([], [], []), (zl77, []), [(.inr none, (249 : Nat), ([], [], []))])
set_option maxRecDepth 100000 in
theorem pl_s215_s {X : Int → Int} {LX : Nat} : ck_Ok p2_OL X LX 45 pl_s215 := ck_okq (cuts := []) (f := 116) ⟨pl_nmu, ck_E0⟩ (by decide +kernel)
set_option maxRecDepth 100000 in
/-- GlacierMail$Rows.put -/
noncomputable def pl_s216 : ck_Sum := (((0 : Nat), (0 : Nat), (0 : Nat)), (249 : Nat), [.inr (.inr (.inl (220 : Nat))), .inl ((0 : Int), (23 : Int), []), .inl (ck_one 1), .inl ((0 : Int), (99 : Int), [])], ([], [], []), (zl78, []), [(.inr none, (249 : Nat), ([], [], []))])
set_option maxRecDepth 100000 in
theorem pl_s216_s {X : Int → Int} {LX : Nat} : ck_Ok p2_OL X LX 45 pl_s216 := ck_okq (cuts := []) (f := 116) ⟨pl_nmu, ck_E0⟩ (by decide +kernel)
set_option maxRecDepth 100000 in
/-- GlacierMail.reckonEnds -/
noncomputable def pl_s217 : ck_Sum := (((5 : Nat), (0 : Nat), (0 : Nat)), (249 : Nat), [.inr (.inr (.inl (1 : Nat)))], ([], [((3 : Nat), (8 : Int), (246 : Nat))], []), (zl228, []), [(.inr none, (249 : Nat), ([], [], [((1 : Nat), (15 : Int), (15 : Int), ck_one 1)]))])
set_option maxRecDepth 100000 in
theorem pl_s217_s {X : Int → Int} {LX : Nat} : ck_Ok p2_OL X LX 24 pl_s217 := ck_okq (cuts := [((27 : Nat), [some (.inr (.inr (.inl (1 : Nat)))), some (.inl ((0 : Int), (24 : Int), []))], ([], [((3 : Nat), (8 : Int), (246 : Nat))], [((1 : Nat), (15 : Int), (15 : Int), ck_one 0)]), (100 : Nat), .inl (1 : Nat), true)]) (f := 206) ⟨pl_nmu, ck_E1 (ck_S1 pl_s200_s (ck_S1 pl_s201_s ck_S0)) (ck_E1 (ck_S1 pl_s203_s ck_S0) (ck_E1 (ck_S1 pl_s208_s ck_S0) (ck_E1 (ck_S1 pl_s214_s ck_S0) (ck_E1 (ck_S1 pl_s215_s (ck_S1 pl_s216_s ck_S0)) ck_E0))))⟩ (by decide +kernel)
set_option maxRecDepth 100000 in
/-- GlacierMail$Rows.get -/
noncomputable def pl_s218 : ck_Sum := (((0 : Nat), (0 : Nat), (0 : Nat)), (249 : Nat), [.inr (.inr (.inl (220 : Nat))), .inl ((-2147483648 : Int), (2147483647 : Int), []), .inl ((-2147483648 : Int), (2147483647 : Int), [])], ([], [], []), ([], []), [(.inr (some (.inl ((-2147483648 : Int), (299 : Int), []))), (249 : Nat), ([], [], []))])
set_option maxRecDepth 100000 in
theorem pl_s218_s {X : Int → Int} {LX : Nat} : ck_Ok p2_OL X LX 10 pl_s218 := ck_okq (cuts := []) (f := 114) ⟨pl_nmu, ck_E0⟩ (by decide +kernel)
set_option maxRecDepth 100000 in
/-- GlacierMail.isOutBy -/
noncomputable def pl_s219 : ck_Sum := (((0 : Nat), (0 : Nat), (0 : Nat)), (249 : Nat), [.inr (.inr (.inl (1 : Nat))), .inl ((-2147483648 : Int), (299 : Int), []), .inl ((0 : Int), (299 : Int), [])], ([], [], []), ([], []), [(.inr (some (.inl (ck_one 0))), (249 : Nat), ([], [], [])), (.inr (some (.inl (ck_one 1))), (249 : Nat), ([], [], []))])
set_option maxRecDepth 100000 in
theorem pl_s219_s {X : Int → Int} {LX : Nat} : ck_Ok p2_OL X LX 67 pl_s219 := ck_okq (cuts := []) (f := 88) ⟨pl_nmu, ck_E0⟩ (by decide +kernel)
set_option maxRecDepth 100000 in
/-- GlacierMail.waits -/
noncomputable def pl_s220 : ck_Sum := (((2 : Nat), (0 : Nat), (0 : Nat)), (249 : Nat), [.inr (.inr (.inl (1 : Nat))), .inl ((0 : Int), (23 : Int), [])], ([], [], [((3 : Nat), (6 : Int), (6 : Int), ((0 : Int), (299 : Int), [((10 : Nat), (0 : Int))]))]), ([], []), [(.inr (some (.inl (ck_one 0))), (249 : Nat), ([], [], [])), (.inr (some (.inl (ck_one 1))), (249 : Nat), ([], [], []))])
set_option maxRecDepth 100000 in
theorem pl_s220_s {X : Int → Int} {LX : Nat} : ck_Ok p2_OL X LX 66 pl_s220 := ck_okq (cuts := []) (f := 134) ⟨pl_nmu, ck_E1 (ck_S1 pl_s205_s ck_S0) (ck_E1 (ck_S1 pl_s204_s (ck_S1 pl_s218_s ck_S0)) (ck_E1 (ck_S1 pl_s219_s ck_S0) ck_E0))⟩ (by decide +kernel)
set_option maxRecDepth 100000 in
/-- GlacierMail.lettersWith -/
noncomputable def pl_s222 : ck_Sum := (((1 : Nat), (0 : Nat), (0 : Nat)), (249 : Nat), [.inr (.inr (.inl (1 : Nat))), .inl (ck_one 5), .inl ((0 : Int), (7 : Int), [])], ([], [], []), ([], []), [(.inr (some (.inl ((-2147483648 : Int), (2147483647 : Int), []))), (249 : Nat), ([], [], []))])
set_option maxRecDepth 100000 in
theorem pl_s222_s {X : Int → Int} {LX : Nat} : ck_Ok p2_OL X LX 140 pl_s222 := ck_okq (cuts := [((5 : Nat), [some (.inr (.inr (.inl (1 : Nat)))), some (.inl (ck_one 5)), some (.inl ((0 : Int), (7 : Int), [])), some (.inl ((-2147483648 : Int), (2147483647 : Int), [])), some (.inl ((0 : Int), (24 : Int), []))], ([], [], []), (100 : Nat), .inl (4 : Nat), true)]) (f := 162) ⟨pl_nmu, ck_E1 (ck_S1 pl_s200_s ck_S0) (ck_E1 (ck_S1 pl_s204_s ck_S0) ck_E0)⟩ (by decide +kernel)
set_option maxRecDepth 100000 in
/-- GlacierMail.lettersWith -/
noncomputable def pl_s223 : ck_Sum := (((1 : Nat), (0 : Nat), (0 : Nat)), (249 : Nat), [.inr (.inr (.inl (1 : Nat))), .inl (ck_one 0), .inl ((0 : Int), (7 : Int), [])], ([], [], []), ([], []), [(.inr (some (.inl ((-2147483648 : Int), (2147483647 : Int), []))), (249 : Nat), ([], [], []))])
set_option maxRecDepth 100000 in
theorem pl_s223_s {X : Int → Int} {LX : Nat} : ck_Ok p2_OL X LX 140 pl_s223 := ck_okq (cuts := [((5 : Nat), [some (.inr (.inr (.inl (1 : Nat)))), some (.inl (ck_one 0)), some (.inl ((0 : Int), (7 : Int), [])), some (.inl ((-2147483648 : Int), (2147483647 : Int), [])), some (.inl ((0 : Int), (24 : Int), []))], ([], [], []), (100 : Nat), .inl (4 : Nat), true)]) (f := 162) ⟨pl_nmu, ck_E1 (ck_S1 pl_s200_s ck_S0) (ck_E1 (ck_S1 pl_s204_s ck_S0) ck_E0)⟩ (by decide +kernel)
set_option maxRecDepth 100000 in
/-- GlacierMail$Rows.get -/
noncomputable def pl_s224 : ck_Sum := (((0 : Nat), (0 : Nat), (0 : Nat)), (249 : Nat), [.inr (.inr (.inl (8 : Nat))), .inl ((-2147483648 : Int), (2147483647 : Int), []), .inl ((-2147483648 : Int), (2147483647 : Int), [])], ([], [], []), ([], []), [(.inr (some (.inl ((-1 : Int), (98 : Int), []))), (249 : Nat), ([], [], []))])
set_option maxRecDepth 100000 in
theorem pl_s224_s {X : Int → Int} {LX : Nat} : ck_Ok p2_OL X LX 10 pl_s224 := ck_okq (cuts := []) (f := 114) ⟨pl_nmu, ck_E0⟩ (by decide +kernel)
set_option maxRecDepth 100000 in
/-- GlacierMail.need -/
noncomputable def pl_s226 : ck_Sum := (((6 : Nat), (1 : Nat), (6 : Nat)), (249 : Nat), [.inr (.inr (.inl (1 : Nat))), .inl ((-2147483648 : Int), (-1 : Int), []), .inl ((0 : Int), (24 : Int), [])], ([], [], []), ([], []), [(.inl (3 : Nat), (249 : Nat), ([], [], []))])
set_option maxRecDepth 100000 in
theorem pl_s226_s {X : Int → Int} {LX : Nat} : ck_Ok p2_OL X LX 133 pl_s226 := ck_okq (cuts := []) (f := 76) ⟨pl_nmu, ck_E0⟩ (by decide +kernel)
set_option maxRecDepth 100000 in
/-- GlacierMail.needLetter -/
noncomputable def pl_s227 : ck_Sum := (((7 : Nat), (1 : Nat), (6 : Nat)), (249 : Nat), [.inr (.inr (.inl (1 : Nat))), .inl ((-2147483648 : Int), (-1 : Int), [])], ([], [], []), ([], []), [(.inl (3 : Nat), (249 : Nat), ([], [], []))])
set_option maxRecDepth 100000 in
theorem pl_s227_s {X : Int → Int} {LX : Nat} : ck_Ok p2_OL X LX 143 pl_s227 := ck_okq (cuts := []) (f := 84) ⟨pl_nmu, ck_E1 (ck_S1 pl_s200_s ck_S0) (ck_E1 (ck_S1 pl_s226_s ck_S0) ck_E0)⟩ (by decide +kernel)
set_option maxRecDepth 100000 in
/-- GlacierMail.letter -/
noncomputable def pl_s228 : ck_Sum := (((8 : Nat), (1 : Nat), (6 : Nat)), (249 : Nat), [.inr (.inr (.inl (1 : Nat))), .inl ((-2147483648 : Int), (-1 : Int), []), .inl ((-2147483648 : Int), (2147483647 : Int), [])], ([], [], []), ([], []), [(.inl (3 : Nat), (249 : Nat), ([], [], []))])
set_option maxRecDepth 100000 in
theorem pl_s228_s {X : Int → Int} {LX : Nat} : ck_Ok p2_OL X LX 142 pl_s228 := ck_okq (cuts := []) (f := 76) ⟨pl_nmu, ck_E1 (ck_S1 pl_s227_s ck_S0) ck_E0⟩ (by decide +kernel)
set_option maxRecDepth 100000 in
/-- GlacierMail.need -/
noncomputable def pl_s229 : ck_Sum := (((6 : Nat), (1 : Nat), (6 : Nat)), (249 : Nat), [.inr (.inr (.inl (1 : Nat))), .inl ((24 : Int), (2147483647 : Int), []), .inl ((0 : Int), (24 : Int), [])], ([], [], []), ([], []), [(.inl (3 : Nat), (249 : Nat), ([], [], []))])
set_option maxRecDepth 100000 in
theorem pl_s229_s {X : Int → Int} {LX : Nat} : ck_Ok p2_OL X LX 133 pl_s229 := ck_okq (cuts := []) (f := 82) ⟨pl_nmu, ck_E0⟩ (by decide +kernel)
set_option maxRecDepth 100000 in
/-- GlacierMail.needLetter -/
noncomputable def pl_s230 : ck_Sum := (((7 : Nat), (1 : Nat), (6 : Nat)), (249 : Nat), [.inr (.inr (.inl (1 : Nat))), .inl ((24 : Int), (2147483647 : Int), [])], ([], [], []), ([], []), [(.inl (3 : Nat), (249 : Nat), ([], [], []))])
set_option maxRecDepth 100000 in
theorem pl_s230_s {X : Int → Int} {LX : Nat} : ck_Ok p2_OL X LX 143 pl_s230 := ck_okq (cuts := []) (f := 84) ⟨pl_nmu, ck_E1 (ck_S1 pl_s200_s ck_S0) (ck_E1 (ck_S1 pl_s229_s ck_S0) ck_E0)⟩ (by decide +kernel)
set_option maxRecDepth 100000 in
/-- GlacierMail.letter -/
noncomputable def pl_s231 : ck_Sum := (((8 : Nat), (1 : Nat), (6 : Nat)), (249 : Nat), [.inr (.inr (.inl (1 : Nat))), .inl ((24 : Int), (2147483647 : Int), []), .inl ((-2147483648 : Int), (2147483647 : Int), [])], ([], [], []), ([], []), [(.inl (3 : Nat), (249 : Nat), ([], [], []))])
set_option maxRecDepth 100000 in
theorem pl_s231_s {X : Int → Int} {LX : Nat} : ck_Ok p2_OL X LX 142 pl_s231 := ck_okq (cuts := []) (f := 76) ⟨pl_nmu, ck_E1 (ck_S1 pl_s230_s ck_S0) ck_E0⟩ (by decide +kernel)
set_option maxRecDepth 100000 in
/-- GlacierMail.need -/
noncomputable def pl_s232 : ck_Sum := (((6 : Nat), (1 : Nat), (6 : Nat)), (249 : Nat), [.inr (.inr (.inl (1 : Nat))), .inl ((0 : Int), (23 : Int), []), .inl ((0 : Int), (24 : Int), [])], ([], [], []), ([], []), [(.inr none, (249 : Nat), ([], [], [])), (.inl (3 : Nat), (249 : Nat), ([], [], []))])
set_option maxRecDepth 100000 in
theorem pl_s232_s {X : Int → Int} {LX : Nat} : ck_Ok p2_OL X LX 133 pl_s232 := ck_okq (cuts := []) (f := 82) ⟨pl_nmu, ck_E0⟩ (by decide +kernel)
set_option maxRecDepth 100000 in
/-- GlacierMail.needLetter -/
noncomputable def pl_s233 : ck_Sum := (((7 : Nat), (1 : Nat), (6 : Nat)), (249 : Nat), [.inr (.inr (.inl (1 : Nat))), .inl ((0 : Int), (23 : Int), [])], ([], [], []), ([], []), [(.inl (3 : Nat), (249 : Nat), ([], [], [])), (.inr none, (249 : Nat), ([], [], []))])
set_option maxRecDepth 100000 in
theorem pl_s233_s {X : Int → Int} {LX : Nat} : ck_Ok p2_OL X LX 143 pl_s233 := ck_okq (cuts := []) (f := 86) ⟨pl_nmu, ck_E1 (ck_S1 pl_s200_s ck_S0) (ck_E1 (ck_S1 pl_s232_s ck_S0) ck_E0)⟩ (by decide +kernel)
set_option maxRecDepth 100000 in
/-- GlacierMail.letter -/
noncomputable def pl_s234 : ck_Sum := (((8 : Nat), (2 : Nat), (12 : Nat)), (249 : Nat), [.inr (.inr (.inl (1 : Nat))), .inl ((0 : Int), (23 : Int), []), .inl ((-2147483648 : Int), (-1 : Int), [])], ([], [], []), ([], []), [(.inl (3 : Nat), (249 : Nat), ([], [], [])), (.inl (4 : Nat), (249 : Nat), ([], [], []))])
set_option maxRecDepth 100000 in
theorem pl_s234_s {X : Int → Int} {LX : Nat} : ck_Ok p2_OL X LX 142 pl_s234 := ck_okq (cuts := []) (f := 82) ⟨pl_nmu, ck_E1 (ck_S1 pl_s233_s ck_S0) ck_E0⟩ (by decide +kernel)
set_option maxRecDepth 100000 in
/-- GlacierMail.letter -/
noncomputable def pl_s235 : ck_Sum := (((8 : Nat), (2 : Nat), (12 : Nat)), (249 : Nat), [.inr (.inr (.inl (1 : Nat))), .inl ((0 : Int), (23 : Int), []), .inl ((10 : Int), (2147483647 : Int), [])], ([], [], []), ([], []), [(.inl (3 : Nat), (249 : Nat), ([], [], [])), (.inl (4 : Nat), (249 : Nat), ([], [], []))])
set_option maxRecDepth 100000 in
theorem pl_s235_s {X : Int → Int} {LX : Nat} : ck_Ok p2_OL X LX 142 pl_s235 := ck_okq (cuts := []) (f := 82) ⟨pl_nmu, ck_E1 (ck_S1 pl_s233_s ck_S0) ck_E0⟩ (by decide +kernel)
set_option maxRecDepth 100000 in
/-- GlacierMail.where -/
noncomputable def pl_s239 : ck_Sum := (((8 : Nat), (1 : Nat), (6 : Nat)), (249 : Nat), [.inr (.inr (.inl (1 : Nat))), .inl ((-2147483648 : Int), (-1 : Int), []), .inl ((-2147483648 : Int), (2147483647 : Int), [])], ([], [], []), ([], []), [(.inl (3 : Nat), (249 : Nat), ([], [], []))])
set_option maxRecDepth 100000 in
theorem pl_s239_s {X : Int → Int} {LX : Nat} : ck_Ok p2_OL X LX 147 pl_s239 := ck_okq (cuts := []) (f := 76) ⟨pl_nmu, ck_E1 (ck_S1 pl_s227_s ck_S0) ck_E0⟩ (by decide +kernel)
set_option maxRecDepth 100000 in
/-- GlacierMail.where -/
noncomputable def pl_s240 : ck_Sum := (((8 : Nat), (1 : Nat), (6 : Nat)), (249 : Nat), [.inr (.inr (.inl (1 : Nat))), .inl ((24 : Int), (2147483647 : Int), []), .inl ((-2147483648 : Int), (2147483647 : Int), [])], ([], [], []), ([], []), [(.inl (3 : Nat), (249 : Nat), ([], [], []))])
set_option maxRecDepth 100000 in
theorem pl_s240_s {X : Int → Int} {LX : Nat} : ck_Ok p2_OL X LX 147 pl_s240 := ck_okq (cuts := []) (f := 76) ⟨pl_nmu, ck_E1 (ck_S1 pl_s230_s ck_S0) ck_E0⟩ (by decide +kernel)
set_option maxRecDepth 100000 in
/-- GlacierMail.where -/
noncomputable def pl_s241 : ck_Sum := (((8 : Nat), (2 : Nat), (12 : Nat)), (249 : Nat), [.inr (.inr (.inl (1 : Nat))), .inl ((0 : Int), (23 : Int), []), .inl ((-2147483648 : Int), (-1 : Int), [])], ([], [], []), ([], []), [(.inl (3 : Nat), (249 : Nat), ([], [], [])), (.inl (0 : Nat), (249 : Nat), ([], [], []))])
set_option maxRecDepth 100000 in
theorem pl_s241_s {X : Int → Int} {LX : Nat} : ck_Ok p2_OL X LX 147 pl_s241 := ck_okq (cuts := []) (f := 82) ⟨pl_nmu, ck_E1 (ck_S1 pl_s233_s ck_S0) (ck_E1 (ck_S1 pl_s145_s ck_S0) ck_E0)⟩ (by decide +kernel)
set_option maxRecDepth 100000 in
/-- GlacierMail.where -/
noncomputable def pl_s242 : ck_Sum := (((8 : Nat), (2 : Nat), (12 : Nat)), (249 : Nat), [.inr (.inr (.inl (1 : Nat))), .inl ((0 : Int), (23 : Int), []), .inl ((300 : Int), (2147483647 : Int), [])], ([], [], []), ([], []), [(.inl (3 : Nat), (249 : Nat), ([], [], [])), (.inl (0 : Nat), (249 : Nat), ([], [], []))])
set_option maxRecDepth 100000 in
theorem pl_s242_s {X : Int → Int} {LX : Nat} : ck_Ok p2_OL X LX 147 pl_s242 := ck_okq (cuts := []) (f := 82) ⟨pl_nmu, ck_E1 (ck_S1 pl_s233_s ck_S0) (ck_E1 (ck_S1 pl_s147_s ck_S0) ck_E0)⟩ (by decide +kernel)
set_option maxRecDepth 100000 in
/-- GlacierMail.deep -/
noncomputable def pl_s245 : ck_Sum := (((8 : Nat), (1 : Nat), (6 : Nat)), (249 : Nat), [.inr (.inr (.inl (1 : Nat))), .inl ((-2147483648 : Int), (-1 : Int), []), .inl ((-2147483648 : Int), (2147483647 : Int), [])], ([], [], []), ([], []), [(.inl (3 : Nat), (249 : Nat), ([], [], []))])
set_option maxRecDepth 100000 in
theorem pl_s245_s {X : Int → Int} {LX : Nat} : ck_Ok p2_OL X LX 150 pl_s245 := ck_okq (cuts := []) (f := 76) ⟨pl_nmu, ck_E1 (ck_S1 pl_s227_s ck_S0) ck_E0⟩ (by decide +kernel)
set_option maxRecDepth 100000 in
/-- GlacierMail.deep -/
noncomputable def pl_s246 : ck_Sum := (((8 : Nat), (1 : Nat), (6 : Nat)), (249 : Nat), [.inr (.inr (.inl (1 : Nat))), .inl ((24 : Int), (2147483647 : Int), []), .inl ((-2147483648 : Int), (2147483647 : Int), [])], ([], [], []), ([], []), [(.inl (3 : Nat), (249 : Nat), ([], [], []))])
set_option maxRecDepth 100000 in
theorem pl_s246_s {X : Int → Int} {LX : Nat} : ck_Ok p2_OL X LX 150 pl_s246 := ck_okq (cuts := []) (f := 76) ⟨pl_nmu, ck_E1 (ck_S1 pl_s230_s ck_S0) ck_E0⟩ (by decide +kernel)
set_option maxRecDepth 100000 in
/-- GlacierMail.deep -/
noncomputable def pl_s247 : ck_Sum := (((8 : Nat), (2 : Nat), (12 : Nat)), (249 : Nat), [.inr (.inr (.inl (1 : Nat))), .inl ((0 : Int), (23 : Int), []), .inl ((-2147483648 : Int), (-1 : Int), [])], ([], [], []), ([], []), [(.inl (3 : Nat), (249 : Nat), ([], [], [])), (.inl (0 : Nat), (249 : Nat), ([], [], []))])
set_option maxRecDepth 100000 in
theorem pl_s247_s {X : Int → Int} {LX : Nat} : ck_Ok p2_OL X LX 150 pl_s247 := ck_okq (cuts := []) (f := 82) ⟨pl_nmu, ck_E1 (ck_S1 pl_s233_s ck_S0) (ck_E1 (ck_S1 pl_s145_s ck_S0) ck_E0)⟩ (by decide +kernel)
set_option maxRecDepth 100000 in
/-- GlacierMail.deep -/
noncomputable def pl_s248 : ck_Sum := (((8 : Nat), (2 : Nat), (12 : Nat)), (249 : Nat), [.inr (.inr (.inl (1 : Nat))), .inl ((0 : Int), (23 : Int), []), .inl ((300 : Int), (2147483647 : Int), [])], ([], [], []), ([], []), [(.inl (3 : Nat), (249 : Nat), ([], [], [])), (.inl (0 : Nat), (249 : Nat), ([], [], []))])
set_option maxRecDepth 100000 in
theorem pl_s248_s {X : Int → Int} {LX : Nat} : ck_Ok p2_OL X LX 150 pl_s248 := ck_okq (cuts := []) (f := 82) ⟨pl_nmu, ck_E1 (ck_S1 pl_s233_s ck_S0) (ck_E1 (ck_S1 pl_s147_s ck_S0) ck_E0)⟩ (by decide +kernel)
set_option maxRecDepth 100000 in
/-- GlacierMail.post -/
noncomputable def pl_s250 : ck_Sum := (((8 : Nat), (1 : Nat), (6 : Nat)), (249 : Nat), [.inr (.inr (.inl (1 : Nat))), .inl ((-2147483648 : Int), (-1 : Int), []), .inl ((-2147483648 : Int), (2147483647 : Int), [])], ([], [], []), ([], []), [(.inl (3 : Nat), (249 : Nat), ([], [], []))])
set_option maxRecDepth 100000 in
theorem pl_s250_s {X : Int → Int} {LX : Nat} : ck_Ok p2_OL X LX 152 pl_s250 := ck_okq (cuts := []) (f := 76) ⟨pl_nmu, ck_E1 (ck_S1 pl_s191_s ck_S0) ck_E0⟩ (by decide +kernel)
set_option maxRecDepth 100000 in
/-- GlacierMail.post -/
noncomputable def pl_s251 : ck_Sum := (((8 : Nat), (1 : Nat), (6 : Nat)), (249 : Nat), [.inr (.inr (.inl (1 : Nat))), .inl ((8 : Int), (2147483647 : Int), []), .inl ((-2147483648 : Int), (2147483647 : Int), [])], ([], [], []), ([], []), [(.inl (3 : Nat), (249 : Nat), ([], [], []))])
set_option maxRecDepth 100000 in
theorem pl_s251_s {X : Int → Int} {LX : Nat} : ck_Ok p2_OL X LX 152 pl_s251 := ck_okq (cuts := []) (f := 76) ⟨pl_nmu, ck_E1 (ck_S1 pl_s194_s ck_S0) ck_E0⟩ (by decide +kernel)
set_option maxRecDepth 100000 in
/-- GlacierMail.post -/
noncomputable def pl_s252 : ck_Sum := (((8 : Nat), (2 : Nat), (12 : Nat)), (249 : Nat), [.inr (.inr (.inl (1 : Nat))), .inl ((0 : Int), (7 : Int), []), .inl ((-2147483648 : Int), (-1 : Int), [])], ([], [], []), ([], []), [(.inl (3 : Nat), (249 : Nat), ([], [], []))])
set_option maxRecDepth 100000 in
theorem pl_s252_s {X : Int → Int} {LX : Nat} : ck_Ok p2_OL X LX 152 pl_s252 := ck_okq (cuts := []) (f := 82) ⟨pl_nmu, ck_E1 (ck_S1 pl_s197_s (ck_S1 pl_s191_s ck_S0)) ck_E0⟩ (by decide +kernel)
set_option maxRecDepth 100000 in
/-- GlacierMail.post -/
noncomputable def pl_s253 : ck_Sum := (((8 : Nat), (2 : Nat), (12 : Nat)), (249 : Nat), [.inr (.inr (.inl (1 : Nat))), .inl ((0 : Int), (7 : Int), []), .inl ((8 : Int), (2147483647 : Int), [])], ([], [], []), ([], []), [(.inl (3 : Nat), (249 : Nat), ([], [], []))])
set_option maxRecDepth 100000 in
theorem pl_s253_s {X : Int → Int} {LX : Nat} : ck_Ok p2_OL X LX 152 pl_s253 := ck_okq (cuts := []) (f := 82) ⟨pl_nmu, ck_E1 (ck_S1 pl_s197_s (ck_S1 pl_s194_s ck_S0)) ck_E0⟩ (by decide +kernel)
set_option maxRecDepth 100000 in
/-- GlacierMail.needUnlike -/
noncomputable def pl_s254 : ck_Sum := (((6 : Nat), (1 : Nat), (6 : Nat)), (249 : Nat), [.inr (.inr (.inl (1 : Nat))), .inl ((0 : Int), (7 : Int), []), .inl ((0 : Int), (7 : Int), [])], ([], [], []), ([], []), [(.inr none, (249 : Nat), ([], [], [])), (.inl (0 : Nat), (249 : Nat), ([], [], []))])
set_option maxRecDepth 100000 in
theorem pl_s254_s {X : Int → Int} {LX : Nat} : ck_Ok p2_OL X LX 153 pl_s254 := ck_okq (cuts := []) (f := 78) ⟨pl_nmu, ck_E0⟩ (by decide +kernel)
set_option maxRecDepth 100000 in
/-- GlacierMail$Rows.isFull -/
noncomputable def pl_s255 : ck_Sum := (((0 : Nat), (0 : Nat), (0 : Nat)), (249 : Nat), [.inr (.inr (.inl (10 : Nat)))], ([], [], []), ([], []), [(.inr (some (.inl (ck_one 0))), (249 : Nat), ([], [], [((10 : Nat), (3 : Int), (3 : Int), ((0 : Int), (23 : Int), []))])), (.inr (some (.inl (ck_one 1))), (249 : Nat), ([], [], [((10 : Nat), (3 : Int), (3 : Int), ck_one 24)]))])
set_option maxRecDepth 100000 in
theorem pl_s255_s {X : Int → Int} {LX : Nat} : ck_Ok p2_OL X LX 108 pl_s255 := ck_okq (cuts := []) (f := 86) ⟨pl_nmu, ck_E0⟩ (by decide +kernel)
set_option maxRecDepth 100000 in
/-- GlacierMail$History.at -/
noncomputable def pl_s256 : ck_Sum := (((0 : Nat), (0 : Nat), (0 : Nat)), (249 : Nat), [.inr (.inr (.inl (42 : Nat))), .inl ((0 : Int), (12 : Int), [])], ([], [], []), ([], []), [(.inr (some (.inr (.inr (.inl (0 : Nat))))), (249 : Nat), ([], [], [])), (.inr (some (.inr (.inr (.inl (44 : Nat))))), (249 : Nat), ([], [], [])), (.inr (some (.inr (.inr (.inl (187 : Nat))))), (249 : Nat), ([], [], [])), (.inr (some (.inr (.inr (.inl (174 : Nat))))), (249 : Nat), ([], [], [])), (.inr (some (.inr (.inr (.inl (161 : Nat))))), (249 : Nat), ([], [], [])), (.inr (some (.inr (.inr (.inl (148 : Nat))))), (249 : Nat), ([], [], [])), (.inr (some (.inr (.inr (.inl (135 : Nat))))), (249 : Nat), ([], [], [])), (.inr (some (.inr (.inr (.inl (122 : Nat))))), (249 : Nat), ([], [], [])), (.inr (some (.inr (.inr (.inl (109 : Nat))))), (249 : Nat), ([], [], [])), (.inr (some (.inr (.inr (.inl (96 : Nat))))), (249 : Nat), ([], [], [])), (.inr (some (.inr (.inr (.inl (83 : Nat))))), (249 : Nat), ([], [], [])), (.inr (some (.inr (.inr (.inl (70 : Nat))))), (249 : Nat), ([], [], [])), (.inr (some (.inr (.inr (.inl (57 : Nat))))), (249 : Nat), ([], [], []))])
set_option maxRecDepth 100000 in
theorem pl_s256_s {X : Int → Int} {LX : Nat} : ck_Ok p2_OL X LX 56 pl_s256 := ck_okq (cuts := []) (f := 96) ⟨pl_nmu, ck_E0⟩ (by decide +kernel)
set_option maxRecDepth 100000 in
/-- GlacierMail$Rows.copyFrom -/
noncomputable def pl_s257 : ck_Sum := (((1 : Nat), (0 : Nat), (0 : Nat)), (249 : Nat), [.inr (.inr (.inl (58 : Nat))), .inr (.inr (.inl (4 : Nat)))], ([], [], []), ([((58 : Nat), (3 : Int), (3 : Int)), ((59 : Nat), (0 : Int), (55 : Int))], []), [(.inr none, (249 : Nat), ([], [], []))])
set_option maxRecDepth 100000 in
theorem pl_s257_s {X : Int → Int} {LX : Nat} : ck_Ok p2_OL X LX 58 pl_s257 := ck_okq (cuts := []) (f := 114) ⟨pl_nmu, ck_E0⟩ (by decide +kernel)
set_option maxRecDepth 100000 in
/-- GlacierMail$Rows.copyFrom -/
noncomputable def pl_s258 : ck_Sum := (((1 : Nat), (0 : Nat), (0 : Nat)), (249 : Nat), [.inr (.inr (.inl (60 : Nat))), .inr (.inr (.inl (6 : Nat)))], ([], [], []), ([((60 : Nat), (3 : Int), (3 : Int)), ((61 : Nat), (0 : Int), (23 : Int))], []), [(.inr none, (249 : Nat), ([], [], []))])
set_option maxRecDepth 100000 in
theorem pl_s258_s {X : Int → Int} {LX : Nat} : ck_Ok p2_OL X LX 58 pl_s258 := ck_okq (cuts := []) (f := 114) ⟨pl_nmu, ck_E0⟩ (by decide +kernel)
set_option maxRecDepth 100000 in
/-- GlacierMail$Rows.copyFrom -/
noncomputable def pl_s259 : ck_Sum := (((1 : Nat), (0 : Nat), (0 : Nat)), (249 : Nat), [.inr (.inr (.inl (62 : Nat))), .inr (.inr (.inl (8 : Nat)))], ([], [], []), ([((62 : Nat), (3 : Int), (3 : Int)), ((63 : Nat), (0 : Int), (23 : Int))], []), [(.inr none, (249 : Nat), ([], [], []))])
set_option maxRecDepth 100000 in
theorem pl_s259_s {X : Int → Int} {LX : Nat} : ck_Ok p2_OL X LX 58 pl_s259 := ck_okq (cuts := []) (f := 114) ⟨pl_nmu, ck_E0⟩ (by decide +kernel)
set_option maxRecDepth 100000 in
/-- GlacierMail$Rows.copyFrom -/
noncomputable def pl_s260 : ck_Sum := (((1 : Nat), (0 : Nat), (0 : Nat)), (249 : Nat), [.inr (.inr (.inl (64 : Nat))), .inr (.inr (.inl (10 : Nat)))], ([], [], []), ([((64 : Nat), (3 : Int), (3 : Int)), ((65 : Nat), (0 : Int), (167 : Int))], []), [(.inr none, (249 : Nat), ([], [], []))])
set_option maxRecDepth 100000 in
theorem pl_s260_s {X : Int → Int} {LX : Nat} : ck_Ok p2_OL X LX 58 pl_s260 := ck_okq (cuts := []) (f := 114) ⟨pl_nmu, ck_E0⟩ (by decide +kernel)
set_option maxRecDepth 100000 in
/-- GlacierMail$Rows.copyFrom -/
noncomputable def pl_s261 : ck_Sum := (((1 : Nat), (0 : Nat), (0 : Nat)), (249 : Nat), [.inr (.inr (.inl (66 : Nat))), .inr (.inr (.inl (12 : Nat)))], ([], [], []), ([((66 : Nat), (3 : Int), (3 : Int)), ((67 : Nat), (0 : Int), (35 : Int))], []), [(.inr none, (249 : Nat), ([], [], []))])
set_option maxRecDepth 100000 in
theorem pl_s261_s {X : Int → Int} {LX : Nat} : ck_Ok p2_OL X LX 58 pl_s261 := ck_okq (cuts := []) (f := 114) ⟨pl_nmu, ck_E0⟩ (by decide +kernel)
set_option maxRecDepth 100000 in
/-- GlacierMail$Rows.copyFrom -/
noncomputable def pl_s262 : ck_Sum := (((1 : Nat), (0 : Nat), (0 : Nat)), (249 : Nat), [.inr (.inr (.inl (68 : Nat))), .inr (.inr (.inl (14 : Nat)))], ([], [], []), ([((68 : Nat), (3 : Int), (3 : Int)), ((69 : Nat), (0 : Int), (71 : Int))], []), [(.inr none, (249 : Nat), ([], [], []))])
set_option maxRecDepth 100000 in
theorem pl_s262_s {X : Int → Int} {LX : Nat} : ck_Ok p2_OL X LX 58 pl_s262 := ck_okq (cuts := []) (f := 114) ⟨pl_nmu, ck_E0⟩ (by decide +kernel)
set_option maxRecDepth 100000 in
/-- GlacierMail$State.copyFrom -/
noncomputable def pl_s263 : ck_Sum := (((2 : Nat), (0 : Nat), (0 : Nat)), (249 : Nat), [.inr (.inr (.inl (57 : Nat))), .inr (.inr (.inl (3 : Nat)))], ([], [((3 : Nat), (8 : Int), (246 : Nat)), ((57 : Nat), (8 : Int), (100057 : Nat))], [((3 : Nat), (6 : Int), (6 : Int), ((0 : Int), (299 : Int), [((10 : Nat), (0 : Int))]))]), (zl90, [((57 : Nat), (8 : Int))]), [(.inr none, (249 : Nat), ([], [((57 : Nat), (8 : Int), (246 : Nat))], [((57 : Nat), (6 : Int), (6 : Int), ((0 : Int), (299 : Int), [((10 : Nat), (0 : Int))]))]))])
set_option maxRecDepth 100000 in
theorem pl_s263_s {X : Int → Int} {LX : Nat} : ck_Ok p2_OL X LX 57 pl_s263 := ck_okq (cuts := []) (f := 204) ⟨pl_nmu, ck_E1 (ck_S1 pl_s257_s (ck_S1 pl_s258_s (ck_S1 pl_s259_s (ck_S1 pl_s260_s (ck_S1 pl_s261_s (ck_S1 pl_s262_s ck_S0)))))) ck_E0⟩ (by decide +kernel)
set_option maxRecDepth 100000 in
/-- GlacierMail$Rows.copyFrom -/
noncomputable def pl_s264 : ck_Sum := (((1 : Nat), (0 : Nat), (0 : Nat)), (249 : Nat), [.inr (.inr (.inl (71 : Nat))), .inr (.inr (.inl (4 : Nat)))], ([], [], []), ([((71 : Nat), (3 : Int), (3 : Int)), ((72 : Nat), (0 : Int), (55 : Int))], []), [(.inr none, (249 : Nat), ([], [], []))])
set_option maxRecDepth 100000 in
theorem pl_s264_s {X : Int → Int} {LX : Nat} : ck_Ok p2_OL X LX 58 pl_s264 := ck_okq (cuts := []) (f := 114) ⟨pl_nmu, ck_E0⟩ (by decide +kernel)
set_option maxRecDepth 100000 in
/-- GlacierMail$Rows.copyFrom -/
noncomputable def pl_s265 : ck_Sum := (((1 : Nat), (0 : Nat), (0 : Nat)), (249 : Nat), [.inr (.inr (.inl (73 : Nat))), .inr (.inr (.inl (6 : Nat)))], ([], [], []), ([((73 : Nat), (3 : Int), (3 : Int)), ((74 : Nat), (0 : Int), (23 : Int))], []), [(.inr none, (249 : Nat), ([], [], []))])
set_option maxRecDepth 100000 in
theorem pl_s265_s {X : Int → Int} {LX : Nat} : ck_Ok p2_OL X LX 58 pl_s265 := ck_okq (cuts := []) (f := 114) ⟨pl_nmu, ck_E0⟩ (by decide +kernel)
set_option maxRecDepth 100000 in
/-- GlacierMail$Rows.copyFrom -/
noncomputable def pl_s266 : ck_Sum := (((1 : Nat), (0 : Nat), (0 : Nat)), (249 : Nat), [.inr (.inr (.inl (75 : Nat))), .inr (.inr (.inl (8 : Nat)))], ([], [], []), ([((75 : Nat), (3 : Int), (3 : Int)), ((76 : Nat), (0 : Int), (23 : Int))], []), [(.inr none, (249 : Nat), ([], [], []))])
set_option maxRecDepth 100000 in
theorem pl_s266_s {X : Int → Int} {LX : Nat} : ck_Ok p2_OL X LX 58 pl_s266 := ck_okq (cuts := []) (f := 114) ⟨pl_nmu, ck_E0⟩ (by decide +kernel)
set_option maxRecDepth 100000 in
/-- GlacierMail$Rows.copyFrom -/
noncomputable def pl_s267 : ck_Sum := (((1 : Nat), (0 : Nat), (0 : Nat)), (249 : Nat), [.inr (.inr (.inl (77 : Nat))), .inr (.inr (.inl (10 : Nat)))], ([], [], []), ([((77 : Nat), (3 : Int), (3 : Int)), ((78 : Nat), (0 : Int), (167 : Int))], []), [(.inr none, (249 : Nat), ([], [], []))])
set_option maxRecDepth 100000 in
theorem pl_s267_s {X : Int → Int} {LX : Nat} : ck_Ok p2_OL X LX 58 pl_s267 := ck_okq (cuts := []) (f := 114) ⟨pl_nmu, ck_E0⟩ (by decide +kernel)
set_option maxRecDepth 100000 in
/-- GlacierMail$Rows.copyFrom -/
noncomputable def pl_s268 : ck_Sum := (((1 : Nat), (0 : Nat), (0 : Nat)), (249 : Nat), [.inr (.inr (.inl (79 : Nat))), .inr (.inr (.inl (12 : Nat)))], ([], [], []), ([((79 : Nat), (3 : Int), (3 : Int)), ((80 : Nat), (0 : Int), (35 : Int))], []), [(.inr none, (249 : Nat), ([], [], []))])
set_option maxRecDepth 100000 in
theorem pl_s268_s {X : Int → Int} {LX : Nat} : ck_Ok p2_OL X LX 58 pl_s268 := ck_okq (cuts := []) (f := 114) ⟨pl_nmu, ck_E0⟩ (by decide +kernel)
set_option maxRecDepth 100000 in
/-- GlacierMail$Rows.copyFrom -/
noncomputable def pl_s269 : ck_Sum := (((1 : Nat), (0 : Nat), (0 : Nat)), (249 : Nat), [.inr (.inr (.inl (81 : Nat))), .inr (.inr (.inl (14 : Nat)))], ([], [], []), ([((81 : Nat), (3 : Int), (3 : Int)), ((82 : Nat), (0 : Int), (71 : Int))], []), [(.inr none, (249 : Nat), ([], [], []))])
set_option maxRecDepth 100000 in
theorem pl_s269_s {X : Int → Int} {LX : Nat} : ck_Ok p2_OL X LX 58 pl_s269 := ck_okq (cuts := []) (f := 114) ⟨pl_nmu, ck_E0⟩ (by decide +kernel)
set_option maxRecDepth 100000 in
/-- GlacierMail$State.copyFrom -/
noncomputable def pl_s270 : ck_Sum := (((2 : Nat), (0 : Nat), (0 : Nat)), (249 : Nat), [.inr (.inr (.inl (70 : Nat))), .inr (.inr (.inl (3 : Nat)))], ([], [((3 : Nat), (8 : Int), (246 : Nat)), ((70 : Nat), (8 : Int), (100070 : Nat))], [((3 : Nat), (6 : Int), (6 : Int), ((0 : Int), (299 : Int), [((10 : Nat), (0 : Int))]))]), (zl91, [((70 : Nat), (8 : Int))]), [(.inr none, (249 : Nat), ([], [((70 : Nat), (8 : Int), (246 : Nat))], [((70 : Nat), (6 : Int), (6 : Int), ((0 : Int), (299 : Int), [((10 : Nat), (0 : Int))]))]))])
set_option maxRecDepth 100000 in
theorem pl_s270_s {X : Int → Int} {LX : Nat} : ck_Ok p2_OL X LX 57 pl_s270 := ck_okq (cuts := []) (f := 204) ⟨pl_nmu, ck_E1 (ck_S1 pl_s264_s (ck_S1 pl_s265_s (ck_S1 pl_s266_s (ck_S1 pl_s267_s (ck_S1 pl_s268_s (ck_S1 pl_s269_s ck_S0)))))) ck_E0⟩ (by decide +kernel)
end
/-! 78r86a03.sl -/
section
/-! EVERY CALL OF THE CLASS ENDS, under a law (laid by wip/am/p2l.py). -/
set_option maxRecDepth 100000 in
/-- GlacierMail$Rows.copyFrom -/
noncomputable def pl_s271 : ck_Sum := (((1 : Nat), (0 : Nat), (0 : Nat)), (249 : Nat), [.inr (.inr (.inl (84 : Nat))), .inr (.inr (.inl (4 : Nat)))], ([], [], []), ([((84 : Nat), (3 : Int), (3 : Int)), ((85 : Nat), (0 : Int), (55 : Int))], []), [(.inr none, (249 : Nat), ([], [], []))])
set_option maxRecDepth 100000 in
theorem pl_s271_s {X : Int → Int} {LX : Nat} : ck_Ok p2_OL X LX 58 pl_s271 := ck_okq (cuts := []) (f := 114) ⟨pl_nmu, ck_E0⟩ (by decide +kernel)
set_option maxRecDepth 100000 in
/-- GlacierMail$Rows.copyFrom -/
noncomputable def pl_s272 : ck_Sum := (((1 : Nat), (0 : Nat), (0 : Nat)), (249 : Nat), [.inr (.inr (.inl (86 : Nat))), .inr (.inr (.inl (6 : Nat)))], ([], [], []), ([((86 : Nat), (3 : Int), (3 : Int)), ((87 : Nat), (0 : Int), (23 : Int))], []), [(.inr none, (249 : Nat), ([], [], []))])
set_option maxRecDepth 100000 in
theorem pl_s272_s {X : Int → Int} {LX : Nat} : ck_Ok p2_OL X LX 58 pl_s272 := ck_okq (cuts := []) (f := 114) ⟨pl_nmu, ck_E0⟩ (by decide +kernel)
set_option maxRecDepth 100000 in
/-- GlacierMail$Rows.copyFrom -/
noncomputable def pl_s273 : ck_Sum := (((1 : Nat), (0 : Nat), (0 : Nat)), (249 : Nat), [.inr (.inr (.inl (88 : Nat))), .inr (.inr (.inl (8 : Nat)))], ([], [], []), ([((88 : Nat), (3 : Int), (3 : Int)), ((89 : Nat), (0 : Int), (23 : Int))], []), [(.inr none, (249 : Nat), ([], [], []))])
set_option maxRecDepth 100000 in
theorem pl_s273_s {X : Int → Int} {LX : Nat} : ck_Ok p2_OL X LX 58 pl_s273 := ck_okq (cuts := []) (f := 114) ⟨pl_nmu, ck_E0⟩ (by decide +kernel)
set_option maxRecDepth 100000 in
/-- GlacierMail$Rows.copyFrom -/
noncomputable def pl_s274 : ck_Sum := (((1 : Nat), (0 : Nat), (0 : Nat)), (249 : Nat), [.inr (.inr (.inl (90 : Nat))), .inr (.inr (.inl (10 : Nat)))], ([], [], []), ([((90 : Nat), (3 : Int), (3 : Int)), ((91 : Nat), (0 : Int), (167 : Int))], []), [(.inr none, (249 : Nat), ([], [], []))])
set_option maxRecDepth 100000 in
theorem pl_s274_s {X : Int → Int} {LX : Nat} : ck_Ok p2_OL X LX 58 pl_s274 := ck_okq (cuts := []) (f := 114) ⟨pl_nmu, ck_E0⟩ (by decide +kernel)
set_option maxRecDepth 100000 in
/-- GlacierMail$Rows.copyFrom -/
noncomputable def pl_s275 : ck_Sum := (((1 : Nat), (0 : Nat), (0 : Nat)), (249 : Nat), [.inr (.inr (.inl (92 : Nat))), .inr (.inr (.inl (12 : Nat)))], ([], [], []), ([((92 : Nat), (3 : Int), (3 : Int)), ((93 : Nat), (0 : Int), (35 : Int))], []), [(.inr none, (249 : Nat), ([], [], []))])
set_option maxRecDepth 100000 in
theorem pl_s275_s {X : Int → Int} {LX : Nat} : ck_Ok p2_OL X LX 58 pl_s275 := ck_okq (cuts := []) (f := 114) ⟨pl_nmu, ck_E0⟩ (by decide +kernel)
set_option maxRecDepth 100000 in
/-- GlacierMail$Rows.copyFrom -/
noncomputable def pl_s276 : ck_Sum := (((1 : Nat), (0 : Nat), (0 : Nat)), (249 : Nat), [.inr (.inr (.inl (94 : Nat))), .inr (.inr (.inl (14 : Nat)))], ([], [], []), ([((94 : Nat), (3 : Int), (3 : Int)), ((95 : Nat), (0 : Int), (71 : Int))], []), [(.inr none, (249 : Nat), ([], [], []))])
set_option maxRecDepth 100000 in
theorem pl_s276_s {X : Int → Int} {LX : Nat} : ck_Ok p2_OL X LX 58 pl_s276 := ck_okq (cuts := []) (f := 114) ⟨pl_nmu, ck_E0⟩ (by decide +kernel)
set_option maxRecDepth 100000 in
/-- GlacierMail$State.copyFrom -/
noncomputable def pl_s277 : ck_Sum := (((2 : Nat), (0 : Nat), (0 : Nat)), (249 : Nat), [.inr (.inr (.inl (83 : Nat))), .inr (.inr (.inl (3 : Nat)))], ([], [((3 : Nat), (8 : Int), (246 : Nat)), ((83 : Nat), (8 : Int), (100083 : Nat))], [((3 : Nat), (6 : Int), (6 : Int), ((0 : Int), (299 : Int), [((10 : Nat), (0 : Int))]))]), (zl92, [((83 : Nat), (8 : Int))]), [(.inr none, (249 : Nat), ([], [((83 : Nat), (8 : Int), (246 : Nat))], [((83 : Nat), (6 : Int), (6 : Int), ((0 : Int), (299 : Int), [((10 : Nat), (0 : Int))]))]))])
set_option maxRecDepth 100000 in
theorem pl_s277_s {X : Int → Int} {LX : Nat} : ck_Ok p2_OL X LX 57 pl_s277 := ck_okq (cuts := []) (f := 204) ⟨pl_nmu, ck_E1 (ck_S1 pl_s271_s (ck_S1 pl_s272_s (ck_S1 pl_s273_s (ck_S1 pl_s274_s (ck_S1 pl_s275_s (ck_S1 pl_s276_s ck_S0)))))) ck_E0⟩ (by decide +kernel)
set_option maxRecDepth 100000 in
/-- GlacierMail$Rows.copyFrom -/
noncomputable def pl_s278 : ck_Sum := (((1 : Nat), (0 : Nat), (0 : Nat)), (249 : Nat), [.inr (.inr (.inl (97 : Nat))), .inr (.inr (.inl (4 : Nat)))], ([], [], []), ([((97 : Nat), (3 : Int), (3 : Int)), ((98 : Nat), (0 : Int), (55 : Int))], []), [(.inr none, (249 : Nat), ([], [], []))])
set_option maxRecDepth 100000 in
theorem pl_s278_s {X : Int → Int} {LX : Nat} : ck_Ok p2_OL X LX 58 pl_s278 := ck_okq (cuts := []) (f := 114) ⟨pl_nmu, ck_E0⟩ (by decide +kernel)
set_option maxRecDepth 100000 in
/-- GlacierMail$Rows.copyFrom -/
noncomputable def pl_s279 : ck_Sum := (((1 : Nat), (0 : Nat), (0 : Nat)), (249 : Nat), [.inr (.inr (.inl (99 : Nat))), .inr (.inr (.inl (6 : Nat)))], ([], [], []), ([((99 : Nat), (3 : Int), (3 : Int)), ((100 : Nat), (0 : Int), (23 : Int))], []), [(.inr none, (249 : Nat), ([], [], []))])
set_option maxRecDepth 100000 in
theorem pl_s279_s {X : Int → Int} {LX : Nat} : ck_Ok p2_OL X LX 58 pl_s279 := ck_okq (cuts := []) (f := 114) ⟨pl_nmu, ck_E0⟩ (by decide +kernel)
set_option maxRecDepth 100000 in
/-- GlacierMail$Rows.copyFrom -/
noncomputable def pl_s280 : ck_Sum := (((1 : Nat), (0 : Nat), (0 : Nat)), (249 : Nat), [.inr (.inr (.inl (101 : Nat))), .inr (.inr (.inl (8 : Nat)))], ([], [], []), ([((101 : Nat), (3 : Int), (3 : Int)), ((102 : Nat), (0 : Int), (23 : Int))], []), [(.inr none, (249 : Nat), ([], [], []))])
set_option maxRecDepth 100000 in
theorem pl_s280_s {X : Int → Int} {LX : Nat} : ck_Ok p2_OL X LX 58 pl_s280 := ck_okq (cuts := []) (f := 114) ⟨pl_nmu, ck_E0⟩ (by decide +kernel)
set_option maxRecDepth 100000 in
/-- GlacierMail$Rows.copyFrom -/
noncomputable def pl_s281 : ck_Sum := (((1 : Nat), (0 : Nat), (0 : Nat)), (249 : Nat), [.inr (.inr (.inl (103 : Nat))), .inr (.inr (.inl (10 : Nat)))], ([], [], []), ([((103 : Nat), (3 : Int), (3 : Int)), ((104 : Nat), (0 : Int), (167 : Int))], []), [(.inr none, (249 : Nat), ([], [], []))])
set_option maxRecDepth 100000 in
theorem pl_s281_s {X : Int → Int} {LX : Nat} : ck_Ok p2_OL X LX 58 pl_s281 := ck_okq (cuts := []) (f := 114) ⟨pl_nmu, ck_E0⟩ (by decide +kernel)
set_option maxRecDepth 100000 in
/-- GlacierMail$Rows.copyFrom -/
noncomputable def pl_s282 : ck_Sum := (((1 : Nat), (0 : Nat), (0 : Nat)), (249 : Nat), [.inr (.inr (.inl (105 : Nat))), .inr (.inr (.inl (12 : Nat)))], ([], [], []), ([((105 : Nat), (3 : Int), (3 : Int)), ((106 : Nat), (0 : Int), (35 : Int))], []), [(.inr none, (249 : Nat), ([], [], []))])
set_option maxRecDepth 100000 in
theorem pl_s282_s {X : Int → Int} {LX : Nat} : ck_Ok p2_OL X LX 58 pl_s282 := ck_okq (cuts := []) (f := 114) ⟨pl_nmu, ck_E0⟩ (by decide +kernel)
set_option maxRecDepth 100000 in
/-- GlacierMail$Rows.copyFrom -/
noncomputable def pl_s283 : ck_Sum := (((1 : Nat), (0 : Nat), (0 : Nat)), (249 : Nat), [.inr (.inr (.inl (107 : Nat))), .inr (.inr (.inl (14 : Nat)))], ([], [], []), ([((107 : Nat), (3 : Int), (3 : Int)), ((108 : Nat), (0 : Int), (71 : Int))], []), [(.inr none, (249 : Nat), ([], [], []))])
set_option maxRecDepth 100000 in
theorem pl_s283_s {X : Int → Int} {LX : Nat} : ck_Ok p2_OL X LX 58 pl_s283 := ck_okq (cuts := []) (f := 114) ⟨pl_nmu, ck_E0⟩ (by decide +kernel)
set_option maxRecDepth 100000 in
/-- GlacierMail$State.copyFrom -/
noncomputable def pl_s284 : ck_Sum := (((2 : Nat), (0 : Nat), (0 : Nat)), (249 : Nat), [.inr (.inr (.inl (96 : Nat))), .inr (.inr (.inl (3 : Nat)))], ([], [((3 : Nat), (8 : Int), (246 : Nat)), ((96 : Nat), (8 : Int), (100096 : Nat))], [((3 : Nat), (6 : Int), (6 : Int), ((0 : Int), (299 : Int), [((10 : Nat), (0 : Int))]))]), (zl93, [((96 : Nat), (8 : Int))]), [(.inr none, (249 : Nat), ([], [((96 : Nat), (8 : Int), (246 : Nat))], [((96 : Nat), (6 : Int), (6 : Int), ((0 : Int), (299 : Int), [((10 : Nat), (0 : Int))]))]))])
set_option maxRecDepth 100000 in
theorem pl_s284_s {X : Int → Int} {LX : Nat} : ck_Ok p2_OL X LX 57 pl_s284 := ck_okq (cuts := []) (f := 204) ⟨pl_nmu, ck_E1 (ck_S1 pl_s278_s (ck_S1 pl_s279_s (ck_S1 pl_s280_s (ck_S1 pl_s281_s (ck_S1 pl_s282_s (ck_S1 pl_s283_s ck_S0)))))) ck_E0⟩ (by decide +kernel)
set_option maxRecDepth 100000 in
/-- GlacierMail$Rows.copyFrom -/
noncomputable def pl_s285 : ck_Sum := (((1 : Nat), (0 : Nat), (0 : Nat)), (249 : Nat), [.inr (.inr (.inl (110 : Nat))), .inr (.inr (.inl (4 : Nat)))], ([], [], []), ([((110 : Nat), (3 : Int), (3 : Int)), ((111 : Nat), (0 : Int), (55 : Int))], []), [(.inr none, (249 : Nat), ([], [], []))])
set_option maxRecDepth 100000 in
theorem pl_s285_s {X : Int → Int} {LX : Nat} : ck_Ok p2_OL X LX 58 pl_s285 := ck_okq (cuts := []) (f := 114) ⟨pl_nmu, ck_E0⟩ (by decide +kernel)
set_option maxRecDepth 100000 in
/-- GlacierMail$Rows.copyFrom -/
noncomputable def pl_s286 : ck_Sum := (((1 : Nat), (0 : Nat), (0 : Nat)), (249 : Nat), [.inr (.inr (.inl (112 : Nat))), .inr (.inr (.inl (6 : Nat)))], ([], [], []), ([((112 : Nat), (3 : Int), (3 : Int)), ((113 : Nat), (0 : Int), (23 : Int))], []), [(.inr none, (249 : Nat), ([], [], []))])
set_option maxRecDepth 100000 in
theorem pl_s286_s {X : Int → Int} {LX : Nat} : ck_Ok p2_OL X LX 58 pl_s286 := ck_okq (cuts := []) (f := 114) ⟨pl_nmu, ck_E0⟩ (by decide +kernel)
set_option maxRecDepth 100000 in
/-- GlacierMail$Rows.copyFrom -/
noncomputable def pl_s287 : ck_Sum := (((1 : Nat), (0 : Nat), (0 : Nat)), (249 : Nat), [.inr (.inr (.inl (114 : Nat))), .inr (.inr (.inl (8 : Nat)))], ([], [], []), ([((114 : Nat), (3 : Int), (3 : Int)), ((115 : Nat), (0 : Int), (23 : Int))], []), [(.inr none, (249 : Nat), ([], [], []))])
set_option maxRecDepth 100000 in
theorem pl_s287_s {X : Int → Int} {LX : Nat} : ck_Ok p2_OL X LX 58 pl_s287 := ck_okq (cuts := []) (f := 114) ⟨pl_nmu, ck_E0⟩ (by decide +kernel)
set_option maxRecDepth 100000 in
/-- GlacierMail$Rows.copyFrom -/
noncomputable def pl_s288 : ck_Sum := (((1 : Nat), (0 : Nat), (0 : Nat)), (249 : Nat), [.inr (.inr (.inl (116 : Nat))), .inr (.inr (.inl (10 : Nat)))], ([], [], []), ([((116 : Nat), (3 : Int), (3 : Int)), ((117 : Nat), (0 : Int), (167 : Int))], []), [(.inr none, (249 : Nat), ([], [], []))])
set_option maxRecDepth 100000 in
theorem pl_s288_s {X : Int → Int} {LX : Nat} : ck_Ok p2_OL X LX 58 pl_s288 := ck_okq (cuts := []) (f := 114) ⟨pl_nmu, ck_E0⟩ (by decide +kernel)
set_option maxRecDepth 100000 in
/-- GlacierMail$Rows.copyFrom -/
noncomputable def pl_s289 : ck_Sum := (((1 : Nat), (0 : Nat), (0 : Nat)), (249 : Nat), [.inr (.inr (.inl (118 : Nat))), .inr (.inr (.inl (12 : Nat)))], ([], [], []), ([((118 : Nat), (3 : Int), (3 : Int)), ((119 : Nat), (0 : Int), (35 : Int))], []), [(.inr none, (249 : Nat), ([], [], []))])
set_option maxRecDepth 100000 in
theorem pl_s289_s {X : Int → Int} {LX : Nat} : ck_Ok p2_OL X LX 58 pl_s289 := ck_okq (cuts := []) (f := 114) ⟨pl_nmu, ck_E0⟩ (by decide +kernel)
set_option maxRecDepth 100000 in
/-- GlacierMail$Rows.copyFrom -/
noncomputable def pl_s290 : ck_Sum := (((1 : Nat), (0 : Nat), (0 : Nat)), (249 : Nat), [.inr (.inr (.inl (120 : Nat))), .inr (.inr (.inl (14 : Nat)))], ([], [], []), ([((120 : Nat), (3 : Int), (3 : Int)), ((121 : Nat), (0 : Int), (71 : Int))], []), [(.inr none, (249 : Nat), ([], [], []))])
set_option maxRecDepth 100000 in
theorem pl_s290_s {X : Int → Int} {LX : Nat} : ck_Ok p2_OL X LX 58 pl_s290 := ck_okq (cuts := []) (f := 114) ⟨pl_nmu, ck_E0⟩ (by decide +kernel)
set_option maxRecDepth 100000 in
/-- GlacierMail$State.copyFrom -/
noncomputable def pl_s291 : ck_Sum := (((2 : Nat), (0 : Nat), (0 : Nat)), (249 : Nat), [.inr (.inr (.inl (109 : Nat))), .inr (.inr (.inl (3 : Nat)))], ([], [((3 : Nat), (8 : Int), (246 : Nat)), ((109 : Nat), (8 : Int), (100109 : Nat))], [((3 : Nat), (6 : Int), (6 : Int), ((0 : Int), (299 : Int), [((10 : Nat), (0 : Int))]))]), (zl94, [((109 : Nat), (8 : Int))]), [(.inr none, (249 : Nat), ([], [((109 : Nat), (8 : Int), (246 : Nat))], [((109 : Nat), (6 : Int), (6 : Int), ((0 : Int), (299 : Int), [((10 : Nat), (0 : Int))]))]))])
set_option maxRecDepth 100000 in
theorem pl_s291_s {X : Int → Int} {LX : Nat} : ck_Ok p2_OL X LX 57 pl_s291 := ck_okq (cuts := []) (f := 204) ⟨pl_nmu, ck_E1 (ck_S1 pl_s285_s (ck_S1 pl_s286_s (ck_S1 pl_s287_s (ck_S1 pl_s288_s (ck_S1 pl_s289_s (ck_S1 pl_s290_s ck_S0)))))) ck_E0⟩ (by decide +kernel)
set_option maxRecDepth 100000 in
/-- GlacierMail$Rows.copyFrom -/
noncomputable def pl_s292 : ck_Sum := (((1 : Nat), (0 : Nat), (0 : Nat)), (249 : Nat), [.inr (.inr (.inl (123 : Nat))), .inr (.inr (.inl (4 : Nat)))], ([], [], []), ([((123 : Nat), (3 : Int), (3 : Int)), ((124 : Nat), (0 : Int), (55 : Int))], []), [(.inr none, (249 : Nat), ([], [], []))])
set_option maxRecDepth 100000 in
theorem pl_s292_s {X : Int → Int} {LX : Nat} : ck_Ok p2_OL X LX 58 pl_s292 := ck_okq (cuts := []) (f := 114) ⟨pl_nmu, ck_E0⟩ (by decide +kernel)
set_option maxRecDepth 100000 in
/-- GlacierMail$Rows.copyFrom -/
noncomputable def pl_s293 : ck_Sum := (((1 : Nat), (0 : Nat), (0 : Nat)), (249 : Nat), [.inr (.inr (.inl (125 : Nat))), .inr (.inr (.inl (6 : Nat)))], ([], [], []), ([((125 : Nat), (3 : Int), (3 : Int)), ((126 : Nat), (0 : Int), (23 : Int))], []), [(.inr none, (249 : Nat), ([], [], []))])
set_option maxRecDepth 100000 in
theorem pl_s293_s {X : Int → Int} {LX : Nat} : ck_Ok p2_OL X LX 58 pl_s293 := ck_okq (cuts := []) (f := 114) ⟨pl_nmu, ck_E0⟩ (by decide +kernel)
set_option maxRecDepth 100000 in
/-- GlacierMail$Rows.copyFrom -/
noncomputable def pl_s294 : ck_Sum := (((1 : Nat), (0 : Nat), (0 : Nat)), (249 : Nat), [.inr (.inr (.inl (127 : Nat))), .inr (.inr (.inl (8 : Nat)))], ([], [], []), ([((127 : Nat), (3 : Int), (3 : Int)), ((128 : Nat), (0 : Int), (23 : Int))], []), [(.inr none, (249 : Nat), ([], [], []))])
set_option maxRecDepth 100000 in
theorem pl_s294_s {X : Int → Int} {LX : Nat} : ck_Ok p2_OL X LX 58 pl_s294 := ck_okq (cuts := []) (f := 114) ⟨pl_nmu, ck_E0⟩ (by decide +kernel)
set_option maxRecDepth 100000 in
/-- GlacierMail$Rows.copyFrom -/
noncomputable def pl_s295 : ck_Sum := (((1 : Nat), (0 : Nat), (0 : Nat)), (249 : Nat), [.inr (.inr (.inl (129 : Nat))), .inr (.inr (.inl (10 : Nat)))], ([], [], []), ([((129 : Nat), (3 : Int), (3 : Int)), ((130 : Nat), (0 : Int), (167 : Int))], []), [(.inr none, (249 : Nat), ([], [], []))])
set_option maxRecDepth 100000 in
theorem pl_s295_s {X : Int → Int} {LX : Nat} : ck_Ok p2_OL X LX 58 pl_s295 := ck_okq (cuts := []) (f := 114) ⟨pl_nmu, ck_E0⟩ (by decide +kernel)
set_option maxRecDepth 100000 in
/-- GlacierMail$Rows.copyFrom -/
noncomputable def pl_s296 : ck_Sum := (((1 : Nat), (0 : Nat), (0 : Nat)), (249 : Nat), [.inr (.inr (.inl (131 : Nat))), .inr (.inr (.inl (12 : Nat)))], ([], [], []), ([((131 : Nat), (3 : Int), (3 : Int)), ((132 : Nat), (0 : Int), (35 : Int))], []), [(.inr none, (249 : Nat), ([], [], []))])
set_option maxRecDepth 100000 in
theorem pl_s296_s {X : Int → Int} {LX : Nat} : ck_Ok p2_OL X LX 58 pl_s296 := ck_okq (cuts := []) (f := 114) ⟨pl_nmu, ck_E0⟩ (by decide +kernel)
set_option maxRecDepth 100000 in
/-- GlacierMail$Rows.copyFrom -/
noncomputable def pl_s297 : ck_Sum := (((1 : Nat), (0 : Nat), (0 : Nat)), (249 : Nat), [.inr (.inr (.inl (133 : Nat))), .inr (.inr (.inl (14 : Nat)))], ([], [], []), ([((133 : Nat), (3 : Int), (3 : Int)), ((134 : Nat), (0 : Int), (71 : Int))], []), [(.inr none, (249 : Nat), ([], [], []))])
set_option maxRecDepth 100000 in
theorem pl_s297_s {X : Int → Int} {LX : Nat} : ck_Ok p2_OL X LX 58 pl_s297 := ck_okq (cuts := []) (f := 114) ⟨pl_nmu, ck_E0⟩ (by decide +kernel)
set_option maxRecDepth 100000 in
/-- GlacierMail$State.copyFrom -/
noncomputable def pl_s298 : ck_Sum := (((2 : Nat), (0 : Nat), (0 : Nat)), (249 : Nat), [.inr (.inr (.inl (122 : Nat))), .inr (.inr (.inl (3 : Nat)))], ([], [((3 : Nat), (8 : Int), (246 : Nat)), ((122 : Nat), (8 : Int), (100122 : Nat))], [((3 : Nat), (6 : Int), (6 : Int), ((0 : Int), (299 : Int), [((10 : Nat), (0 : Int))]))]), (zl95, [((122 : Nat), (8 : Int))]), [(.inr none, (249 : Nat), ([], [((122 : Nat), (8 : Int), (246 : Nat))], [((122 : Nat), (6 : Int), (6 : Int), ((0 : Int), (299 : Int), [((10 : Nat), (0 : Int))]))]))])
set_option maxRecDepth 100000 in
theorem pl_s298_s {X : Int → Int} {LX : Nat} : ck_Ok p2_OL X LX 57 pl_s298 := ck_okq (cuts := []) (f := 204) ⟨pl_nmu, ck_E1 (ck_S1 pl_s292_s (ck_S1 pl_s293_s (ck_S1 pl_s294_s (ck_S1 pl_s295_s (ck_S1 pl_s296_s (ck_S1 pl_s297_s ck_S0)))))) ck_E0⟩ (by decide +kernel)
set_option maxRecDepth 100000 in
/-- GlacierMail$Rows.copyFrom -/
noncomputable def pl_s299 : ck_Sum := (((1 : Nat), (0 : Nat), (0 : Nat)), (249 : Nat), [.inr (.inr (.inl (136 : Nat))), .inr (.inr (.inl (4 : Nat)))], ([], [], []), ([((136 : Nat), (3 : Int), (3 : Int)), ((137 : Nat), (0 : Int), (55 : Int))], []), [(.inr none, (249 : Nat), ([], [], []))])
set_option maxRecDepth 100000 in
theorem pl_s299_s {X : Int → Int} {LX : Nat} : ck_Ok p2_OL X LX 58 pl_s299 := ck_okq (cuts := []) (f := 114) ⟨pl_nmu, ck_E0⟩ (by decide +kernel)
set_option maxRecDepth 100000 in
/-- GlacierMail$Rows.copyFrom -/
noncomputable def pl_s300 : ck_Sum := (((1 : Nat), (0 : Nat), (0 : Nat)), (249 : Nat), [.inr (.inr (.inl (138 : Nat))), .inr (.inr (.inl (6 : Nat)))], ([], [], []), ([((138 : Nat), (3 : Int), (3 : Int)), ((139 : Nat), (0 : Int), (23 : Int))], []), [(.inr none, (249 : Nat), ([], [], []))])
set_option maxRecDepth 100000 in
theorem pl_s300_s {X : Int → Int} {LX : Nat} : ck_Ok p2_OL X LX 58 pl_s300 := ck_okq (cuts := []) (f := 114) ⟨pl_nmu, ck_E0⟩ (by decide +kernel)
set_option maxRecDepth 100000 in
/-- GlacierMail$Rows.copyFrom -/
noncomputable def pl_s301 : ck_Sum := (((1 : Nat), (0 : Nat), (0 : Nat)), (249 : Nat), [.inr (.inr (.inl (140 : Nat))), .inr (.inr (.inl (8 : Nat)))], ([], [], []), ([((140 : Nat), (3 : Int), (3 : Int)), ((141 : Nat), (0 : Int), (23 : Int))], []), [(.inr none, (249 : Nat), ([], [], []))])
set_option maxRecDepth 100000 in
theorem pl_s301_s {X : Int → Int} {LX : Nat} : ck_Ok p2_OL X LX 58 pl_s301 := ck_okq (cuts := []) (f := 114) ⟨pl_nmu, ck_E0⟩ (by decide +kernel)
set_option maxRecDepth 100000 in
/-- GlacierMail$Rows.copyFrom -/
noncomputable def pl_s302 : ck_Sum := (((1 : Nat), (0 : Nat), (0 : Nat)), (249 : Nat), [.inr (.inr (.inl (142 : Nat))), .inr (.inr (.inl (10 : Nat)))], ([], [], []), ([((142 : Nat), (3 : Int), (3 : Int)), ((143 : Nat), (0 : Int), (167 : Int))], []), [(.inr none, (249 : Nat), ([], [], []))])
set_option maxRecDepth 100000 in
theorem pl_s302_s {X : Int → Int} {LX : Nat} : ck_Ok p2_OL X LX 58 pl_s302 := ck_okq (cuts := []) (f := 114) ⟨pl_nmu, ck_E0⟩ (by decide +kernel)
set_option maxRecDepth 100000 in
/-- GlacierMail$Rows.copyFrom -/
noncomputable def pl_s303 : ck_Sum := (((1 : Nat), (0 : Nat), (0 : Nat)), (249 : Nat), [.inr (.inr (.inl (144 : Nat))), .inr (.inr (.inl (12 : Nat)))], ([], [], []), ([((144 : Nat), (3 : Int), (3 : Int)), ((145 : Nat), (0 : Int), (35 : Int))], []), [(.inr none, (249 : Nat), ([], [], []))])
set_option maxRecDepth 100000 in
theorem pl_s303_s {X : Int → Int} {LX : Nat} : ck_Ok p2_OL X LX 58 pl_s303 := ck_okq (cuts := []) (f := 114) ⟨pl_nmu, ck_E0⟩ (by decide +kernel)
set_option maxRecDepth 100000 in
/-- GlacierMail$Rows.copyFrom -/
noncomputable def pl_s304 : ck_Sum := (((1 : Nat), (0 : Nat), (0 : Nat)), (249 : Nat), [.inr (.inr (.inl (146 : Nat))), .inr (.inr (.inl (14 : Nat)))], ([], [], []), ([((146 : Nat), (3 : Int), (3 : Int)), ((147 : Nat), (0 : Int), (71 : Int))], []), [(.inr none, (249 : Nat), ([], [], []))])
set_option maxRecDepth 100000 in
theorem pl_s304_s {X : Int → Int} {LX : Nat} : ck_Ok p2_OL X LX 58 pl_s304 := ck_okq (cuts := []) (f := 114) ⟨pl_nmu, ck_E0⟩ (by decide +kernel)
set_option maxRecDepth 100000 in
/-- GlacierMail$State.copyFrom -/
noncomputable def pl_s305 : ck_Sum := (((2 : Nat), (0 : Nat), (0 : Nat)), (249 : Nat), [.inr (.inr (.inl (135 : Nat))), .inr (.inr (.inl (3 : Nat)))], ([], [((3 : Nat), (8 : Int), (246 : Nat)), ((135 : Nat), (8 : Int), (100135 : Nat))], [((3 : Nat), (6 : Int), (6 : Int), ((0 : Int), (299 : Int), [((10 : Nat), (0 : Int))]))]), (zl96, [((135 : Nat), (8 : Int))]), [(.inr none, (249 : Nat), ([], [((135 : Nat), (8 : Int), (246 : Nat))], [((135 : Nat), (6 : Int), (6 : Int), ((0 : Int), (299 : Int), [((10 : Nat), (0 : Int))]))]))])
set_option maxRecDepth 100000 in
theorem pl_s305_s {X : Int → Int} {LX : Nat} : ck_Ok p2_OL X LX 57 pl_s305 := ck_okq (cuts := []) (f := 204) ⟨pl_nmu, ck_E1 (ck_S1 pl_s299_s (ck_S1 pl_s300_s (ck_S1 pl_s301_s (ck_S1 pl_s302_s (ck_S1 pl_s303_s (ck_S1 pl_s304_s ck_S0)))))) ck_E0⟩ (by decide +kernel)
set_option maxRecDepth 100000 in
/-- GlacierMail$Rows.copyFrom -/
noncomputable def pl_s306 : ck_Sum := (((1 : Nat), (0 : Nat), (0 : Nat)), (249 : Nat), [.inr (.inr (.inl (149 : Nat))), .inr (.inr (.inl (4 : Nat)))], ([], [], []), ([((149 : Nat), (3 : Int), (3 : Int)), ((150 : Nat), (0 : Int), (55 : Int))], []), [(.inr none, (249 : Nat), ([], [], []))])
set_option maxRecDepth 100000 in
theorem pl_s306_s {X : Int → Int} {LX : Nat} : ck_Ok p2_OL X LX 58 pl_s306 := ck_okq (cuts := []) (f := 114) ⟨pl_nmu, ck_E0⟩ (by decide +kernel)
set_option maxRecDepth 100000 in
/-- GlacierMail$Rows.copyFrom -/
noncomputable def pl_s307 : ck_Sum := (((1 : Nat), (0 : Nat), (0 : Nat)), (249 : Nat), [.inr (.inr (.inl (151 : Nat))), .inr (.inr (.inl (6 : Nat)))], ([], [], []), ([((151 : Nat), (3 : Int), (3 : Int)), ((152 : Nat), (0 : Int), (23 : Int))], []), [(.inr none, (249 : Nat), ([], [], []))])
set_option maxRecDepth 100000 in
theorem pl_s307_s {X : Int → Int} {LX : Nat} : ck_Ok p2_OL X LX 58 pl_s307 := ck_okq (cuts := []) (f := 114) ⟨pl_nmu, ck_E0⟩ (by decide +kernel)
set_option maxRecDepth 100000 in
/-- GlacierMail$Rows.copyFrom -/
noncomputable def pl_s308 : ck_Sum := (((1 : Nat), (0 : Nat), (0 : Nat)), (249 : Nat), [.inr (.inr (.inl (153 : Nat))), .inr (.inr (.inl (8 : Nat)))], ([], [], []), ([((153 : Nat), (3 : Int), (3 : Int)), ((154 : Nat), (0 : Int), (23 : Int))], []), [(.inr none, (249 : Nat), ([], [], []))])
set_option maxRecDepth 100000 in
theorem pl_s308_s {X : Int → Int} {LX : Nat} : ck_Ok p2_OL X LX 58 pl_s308 := ck_okq (cuts := []) (f := 114) ⟨pl_nmu, ck_E0⟩ (by decide +kernel)
set_option maxRecDepth 100000 in
/-- GlacierMail$Rows.copyFrom -/
noncomputable def pl_s309 : ck_Sum := (((1 : Nat), (0 : Nat), (0 : Nat)), (249 : Nat), [.inr (.inr (.inl (155 : Nat))), .inr (.inr (.inl (10 : Nat)))], ([], [], []), ([((155 : Nat), (3 : Int), (3 : Int)), ((156 : Nat), (0 : Int), (167 : Int))], []), [(.inr none, (249 : Nat), ([], [], []))])
set_option maxRecDepth 100000 in
theorem pl_s309_s {X : Int → Int} {LX : Nat} : ck_Ok p2_OL X LX 58 pl_s309 := ck_okq (cuts := []) (f := 114) ⟨pl_nmu, ck_E0⟩ (by decide +kernel)
set_option maxRecDepth 100000 in
/-- GlacierMail$Rows.copyFrom -/
noncomputable def pl_s310 : ck_Sum := (((1 : Nat), (0 : Nat), (0 : Nat)), (249 : Nat), [.inr (.inr (.inl (157 : Nat))), .inr (.inr (.inl (12 : Nat)))], ([], [], []), ([((157 : Nat), (3 : Int), (3 : Int)), ((158 : Nat), (0 : Int), (35 : Int))], []), [(.inr none, (249 : Nat), ([], [], []))])
set_option maxRecDepth 100000 in
theorem pl_s310_s {X : Int → Int} {LX : Nat} : ck_Ok p2_OL X LX 58 pl_s310 := ck_okq (cuts := []) (f := 114) ⟨pl_nmu, ck_E0⟩ (by decide +kernel)
set_option maxRecDepth 100000 in
/-- GlacierMail$Rows.copyFrom -/
noncomputable def pl_s311 : ck_Sum := (((1 : Nat), (0 : Nat), (0 : Nat)), (249 : Nat), [.inr (.inr (.inl (159 : Nat))), .inr (.inr (.inl (14 : Nat)))], ([], [], []), ([((159 : Nat), (3 : Int), (3 : Int)), ((160 : Nat), (0 : Int), (71 : Int))], []), [(.inr none, (249 : Nat), ([], [], []))])
set_option maxRecDepth 100000 in
theorem pl_s311_s {X : Int → Int} {LX : Nat} : ck_Ok p2_OL X LX 58 pl_s311 := ck_okq (cuts := []) (f := 114) ⟨pl_nmu, ck_E0⟩ (by decide +kernel)
set_option maxRecDepth 100000 in
/-- GlacierMail$State.copyFrom -/
noncomputable def pl_s312 : ck_Sum := (((2 : Nat), (0 : Nat), (0 : Nat)), (249 : Nat), [.inr (.inr (.inl (148 : Nat))), .inr (.inr (.inl (3 : Nat)))], ([], [((3 : Nat), (8 : Int), (246 : Nat)), ((148 : Nat), (8 : Int), (100148 : Nat))], [((3 : Nat), (6 : Int), (6 : Int), ((0 : Int), (299 : Int), [((10 : Nat), (0 : Int))]))]), (zl97, [((148 : Nat), (8 : Int))]), [(.inr none, (249 : Nat), ([], [((148 : Nat), (8 : Int), (246 : Nat))], [((148 : Nat), (6 : Int), (6 : Int), ((0 : Int), (299 : Int), [((10 : Nat), (0 : Int))]))]))])
set_option maxRecDepth 100000 in
theorem pl_s312_s {X : Int → Int} {LX : Nat} : ck_Ok p2_OL X LX 57 pl_s312 := ck_okq (cuts := []) (f := 204) ⟨pl_nmu, ck_E1 (ck_S1 pl_s306_s (ck_S1 pl_s307_s (ck_S1 pl_s308_s (ck_S1 pl_s309_s (ck_S1 pl_s310_s (ck_S1 pl_s311_s ck_S0)))))) ck_E0⟩ (by decide +kernel)
set_option maxRecDepth 100000 in
/-- GlacierMail$Rows.copyFrom -/
noncomputable def pl_s313 : ck_Sum := (((1 : Nat), (0 : Nat), (0 : Nat)), (249 : Nat), [.inr (.inr (.inl (162 : Nat))), .inr (.inr (.inl (4 : Nat)))], ([], [], []), ([((162 : Nat), (3 : Int), (3 : Int)), ((163 : Nat), (0 : Int), (55 : Int))], []), [(.inr none, (249 : Nat), ([], [], []))])
set_option maxRecDepth 100000 in
theorem pl_s313_s {X : Int → Int} {LX : Nat} : ck_Ok p2_OL X LX 58 pl_s313 := ck_okq (cuts := []) (f := 114) ⟨pl_nmu, ck_E0⟩ (by decide +kernel)
set_option maxRecDepth 100000 in
/-- GlacierMail$Rows.copyFrom -/
noncomputable def pl_s314 : ck_Sum := (((1 : Nat), (0 : Nat), (0 : Nat)), (249 : Nat), [.inr (.inr (.inl (164 : Nat))), .inr (.inr (.inl (6 : Nat)))], ([], [], []), ([((164 : Nat), (3 : Int), (3 : Int)), ((165 : Nat), (0 : Int), (23 : Int))], []), [(.inr none, (249 : Nat), ([], [], []))])
set_option maxRecDepth 100000 in
theorem pl_s314_s {X : Int → Int} {LX : Nat} : ck_Ok p2_OL X LX 58 pl_s314 := ck_okq (cuts := []) (f := 114) ⟨pl_nmu, ck_E0⟩ (by decide +kernel)
set_option maxRecDepth 100000 in
/-- GlacierMail$Rows.copyFrom -/
noncomputable def pl_s315 : ck_Sum := (((1 : Nat), (0 : Nat), (0 : Nat)), (249 : Nat), [.inr (.inr (.inl (166 : Nat))), .inr (.inr (.inl (8 : Nat)))], ([], [], []), ([((166 : Nat), (3 : Int), (3 : Int)), ((167 : Nat), (0 : Int), (23 : Int))], []), [(.inr none, (249 : Nat), ([], [], []))])
set_option maxRecDepth 100000 in
theorem pl_s315_s {X : Int → Int} {LX : Nat} : ck_Ok p2_OL X LX 58 pl_s315 := ck_okq (cuts := []) (f := 114) ⟨pl_nmu, ck_E0⟩ (by decide +kernel)
set_option maxRecDepth 100000 in
/-- GlacierMail$Rows.copyFrom -/
noncomputable def pl_s316 : ck_Sum := (((1 : Nat), (0 : Nat), (0 : Nat)), (249 : Nat), [.inr (.inr (.inl (168 : Nat))), .inr (.inr (.inl (10 : Nat)))], ([], [], []), ([((168 : Nat), (3 : Int), (3 : Int)), ((169 : Nat), (0 : Int), (167 : Int))], []), [(.inr none, (249 : Nat), ([], [], []))])
set_option maxRecDepth 100000 in
theorem pl_s316_s {X : Int → Int} {LX : Nat} : ck_Ok p2_OL X LX 58 pl_s316 := ck_okq (cuts := []) (f := 114) ⟨pl_nmu, ck_E0⟩ (by decide +kernel)
set_option maxRecDepth 100000 in
/-- GlacierMail$Rows.copyFrom -/
noncomputable def pl_s317 : ck_Sum := (((1 : Nat), (0 : Nat), (0 : Nat)), (249 : Nat), [.inr (.inr (.inl (170 : Nat))), .inr (.inr (.inl (12 : Nat)))], ([], [], []), ([((170 : Nat), (3 : Int), (3 : Int)), ((171 : Nat), (0 : Int), (35 : Int))], []), [(.inr none, (249 : Nat), ([], [], []))])
set_option maxRecDepth 100000 in
theorem pl_s317_s {X : Int → Int} {LX : Nat} : ck_Ok p2_OL X LX 58 pl_s317 := ck_okq (cuts := []) (f := 114) ⟨pl_nmu, ck_E0⟩ (by decide +kernel)
set_option maxRecDepth 100000 in
/-- GlacierMail$Rows.copyFrom -/
noncomputable def pl_s318 : ck_Sum := (((1 : Nat), (0 : Nat), (0 : Nat)), (249 : Nat), [.inr (.inr (.inl (172 : Nat))), .inr (.inr (.inl (14 : Nat)))], ([], [], []), ([((172 : Nat), (3 : Int), (3 : Int)), ((173 : Nat), (0 : Int), (71 : Int))], []), [(.inr none, (249 : Nat), ([], [], []))])
set_option maxRecDepth 100000 in
theorem pl_s318_s {X : Int → Int} {LX : Nat} : ck_Ok p2_OL X LX 58 pl_s318 := ck_okq (cuts := []) (f := 114) ⟨pl_nmu, ck_E0⟩ (by decide +kernel)
set_option maxRecDepth 100000 in
/-- GlacierMail$State.copyFrom -/
noncomputable def pl_s319 : ck_Sum := (((2 : Nat), (0 : Nat), (0 : Nat)), (249 : Nat), [.inr (.inr (.inl (161 : Nat))), .inr (.inr (.inl (3 : Nat)))], ([], [((3 : Nat), (8 : Int), (246 : Nat)), ((161 : Nat), (8 : Int), (100161 : Nat))], [((3 : Nat), (6 : Int), (6 : Int), ((0 : Int), (299 : Int), [((10 : Nat), (0 : Int))]))]), (zl98, [((161 : Nat), (8 : Int))]), [(.inr none, (249 : Nat), ([], [((161 : Nat), (8 : Int), (246 : Nat))], [((161 : Nat), (6 : Int), (6 : Int), ((0 : Int), (299 : Int), [((10 : Nat), (0 : Int))]))]))])
set_option maxRecDepth 100000 in
theorem pl_s319_s {X : Int → Int} {LX : Nat} : ck_Ok p2_OL X LX 57 pl_s319 := ck_okq (cuts := []) (f := 204) ⟨pl_nmu, ck_E1 (ck_S1 pl_s313_s (ck_S1 pl_s314_s (ck_S1 pl_s315_s (ck_S1 pl_s316_s (ck_S1 pl_s317_s (ck_S1 pl_s318_s ck_S0)))))) ck_E0⟩ (by decide +kernel)
set_option maxRecDepth 100000 in
/-- GlacierMail$Rows.copyFrom -/
noncomputable def pl_s320 : ck_Sum := (((1 : Nat), (0 : Nat), (0 : Nat)), (249 : Nat), [.inr (.inr (.inl (175 : Nat))), .inr (.inr (.inl (4 : Nat)))], ([], [], []), ([((175 : Nat), (3 : Int), (3 : Int)), ((176 : Nat), (0 : Int), (55 : Int))], []), [(.inr none, (249 : Nat), ([], [], []))])
set_option maxRecDepth 100000 in
theorem pl_s320_s {X : Int → Int} {LX : Nat} : ck_Ok p2_OL X LX 58 pl_s320 := ck_okq (cuts := []) (f := 114) ⟨pl_nmu, ck_E0⟩ (by decide +kernel)
set_option maxRecDepth 100000 in
/-- GlacierMail$Rows.copyFrom -/
noncomputable def pl_s321 : ck_Sum := (((1 : Nat), (0 : Nat), (0 : Nat)), (249 : Nat), [.inr (.inr (.inl (177 : Nat))), .inr (.inr (.inl (6 : Nat)))], ([], [], []), ([((177 : Nat), (3 : Int), (3 : Int)), ((178 : Nat), (0 : Int), (23 : Int))], []), [(.inr none, (249 : Nat), ([], [], []))])
set_option maxRecDepth 100000 in
theorem pl_s321_s {X : Int → Int} {LX : Nat} : ck_Ok p2_OL X LX 58 pl_s321 := ck_okq (cuts := []) (f := 114) ⟨pl_nmu, ck_E0⟩ (by decide +kernel)
set_option maxRecDepth 100000 in
/-- GlacierMail$Rows.copyFrom -/
noncomputable def pl_s322 : ck_Sum := (((1 : Nat), (0 : Nat), (0 : Nat)), (249 : Nat), [.inr (.inr (.inl (179 : Nat))), .inr (.inr (.inl (8 : Nat)))], ([], [], []), ([((179 : Nat), (3 : Int), (3 : Int)), ((180 : Nat), (0 : Int), (23 : Int))], []), [(.inr none, (249 : Nat), ([], [], []))])
set_option maxRecDepth 100000 in
theorem pl_s322_s {X : Int → Int} {LX : Nat} : ck_Ok p2_OL X LX 58 pl_s322 := ck_okq (cuts := []) (f := 114) ⟨pl_nmu, ck_E0⟩ (by decide +kernel)
set_option maxRecDepth 100000 in
/-- GlacierMail$Rows.copyFrom -/
noncomputable def pl_s323 : ck_Sum := (((1 : Nat), (0 : Nat), (0 : Nat)), (249 : Nat), [.inr (.inr (.inl (181 : Nat))), .inr (.inr (.inl (10 : Nat)))], ([], [], []), ([((181 : Nat), (3 : Int), (3 : Int)), ((182 : Nat), (0 : Int), (167 : Int))], []), [(.inr none, (249 : Nat), ([], [], []))])
set_option maxRecDepth 100000 in
theorem pl_s323_s {X : Int → Int} {LX : Nat} : ck_Ok p2_OL X LX 58 pl_s323 := ck_okq (cuts := []) (f := 114) ⟨pl_nmu, ck_E0⟩ (by decide +kernel)
set_option maxRecDepth 100000 in
/-- GlacierMail$Rows.copyFrom -/
noncomputable def pl_s324 : ck_Sum := (((1 : Nat), (0 : Nat), (0 : Nat)), (249 : Nat), [.inr (.inr (.inl (183 : Nat))), .inr (.inr (.inl (12 : Nat)))], ([], [], []), ([((183 : Nat), (3 : Int), (3 : Int)), ((184 : Nat), (0 : Int), (35 : Int))], []), [(.inr none, (249 : Nat), ([], [], []))])
set_option maxRecDepth 100000 in
theorem pl_s324_s {X : Int → Int} {LX : Nat} : ck_Ok p2_OL X LX 58 pl_s324 := ck_okq (cuts := []) (f := 114) ⟨pl_nmu, ck_E0⟩ (by decide +kernel)
set_option maxRecDepth 100000 in
/-- GlacierMail$Rows.copyFrom -/
noncomputable def pl_s325 : ck_Sum := (((1 : Nat), (0 : Nat), (0 : Nat)), (249 : Nat), [.inr (.inr (.inl (185 : Nat))), .inr (.inr (.inl (14 : Nat)))], ([], [], []), ([((185 : Nat), (3 : Int), (3 : Int)), ((186 : Nat), (0 : Int), (71 : Int))], []), [(.inr none, (249 : Nat), ([], [], []))])
set_option maxRecDepth 100000 in
theorem pl_s325_s {X : Int → Int} {LX : Nat} : ck_Ok p2_OL X LX 58 pl_s325 := ck_okq (cuts := []) (f := 114) ⟨pl_nmu, ck_E0⟩ (by decide +kernel)
set_option maxRecDepth 100000 in
/-- GlacierMail$State.copyFrom -/
noncomputable def pl_s326 : ck_Sum := (((2 : Nat), (0 : Nat), (0 : Nat)), (249 : Nat), [.inr (.inr (.inl (174 : Nat))), .inr (.inr (.inl (3 : Nat)))], ([], [((3 : Nat), (8 : Int), (246 : Nat)), ((174 : Nat), (8 : Int), (100174 : Nat))], [((3 : Nat), (6 : Int), (6 : Int), ((0 : Int), (299 : Int), [((10 : Nat), (0 : Int))]))]), (zl99, [((174 : Nat), (8 : Int))]), [(.inr none, (249 : Nat), ([], [((174 : Nat), (8 : Int), (246 : Nat))], [((174 : Nat), (6 : Int), (6 : Int), ((0 : Int), (299 : Int), [((10 : Nat), (0 : Int))]))]))])
set_option maxRecDepth 100000 in
theorem pl_s326_s {X : Int → Int} {LX : Nat} : ck_Ok p2_OL X LX 57 pl_s326 := ck_okq (cuts := []) (f := 204) ⟨pl_nmu, ck_E1 (ck_S1 pl_s320_s (ck_S1 pl_s321_s (ck_S1 pl_s322_s (ck_S1 pl_s323_s (ck_S1 pl_s324_s (ck_S1 pl_s325_s ck_S0)))))) ck_E0⟩ (by decide +kernel)
set_option maxRecDepth 100000 in
/-- GlacierMail$Rows.copyFrom -/
noncomputable def pl_s327 : ck_Sum := (((1 : Nat), (0 : Nat), (0 : Nat)), (249 : Nat), [.inr (.inr (.inl (188 : Nat))), .inr (.inr (.inl (4 : Nat)))], ([], [], []), ([((188 : Nat), (3 : Int), (3 : Int)), ((189 : Nat), (0 : Int), (55 : Int))], []), [(.inr none, (249 : Nat), ([], [], []))])
set_option maxRecDepth 100000 in
theorem pl_s327_s {X : Int → Int} {LX : Nat} : ck_Ok p2_OL X LX 58 pl_s327 := ck_okq (cuts := []) (f := 114) ⟨pl_nmu, ck_E0⟩ (by decide +kernel)
set_option maxRecDepth 100000 in
/-- GlacierMail$Rows.copyFrom -/
noncomputable def pl_s328 : ck_Sum := (((1 : Nat), (0 : Nat), (0 : Nat)), (249 : Nat), [.inr (.inr (.inl (190 : Nat))), .inr (.inr (.inl (6 : Nat)))], ([], [], []), ([((190 : Nat), (3 : Int), (3 : Int)), ((191 : Nat), (0 : Int), (23 : Int))], []), [(.inr none, (249 : Nat), ([], [], []))])
set_option maxRecDepth 100000 in
theorem pl_s328_s {X : Int → Int} {LX : Nat} : ck_Ok p2_OL X LX 58 pl_s328 := ck_okq (cuts := []) (f := 114) ⟨pl_nmu, ck_E0⟩ (by decide +kernel)
set_option maxRecDepth 100000 in
/-- GlacierMail$Rows.copyFrom -/
noncomputable def pl_s329 : ck_Sum := (((1 : Nat), (0 : Nat), (0 : Nat)), (249 : Nat), [.inr (.inr (.inl (192 : Nat))), .inr (.inr (.inl (8 : Nat)))], ([], [], []), ([((192 : Nat), (3 : Int), (3 : Int)), ((193 : Nat), (0 : Int), (23 : Int))], []), [(.inr none, (249 : Nat), ([], [], []))])
set_option maxRecDepth 100000 in
theorem pl_s329_s {X : Int → Int} {LX : Nat} : ck_Ok p2_OL X LX 58 pl_s329 := ck_okq (cuts := []) (f := 114) ⟨pl_nmu, ck_E0⟩ (by decide +kernel)
set_option maxRecDepth 100000 in
/-- GlacierMail$Rows.copyFrom -/
noncomputable def pl_s330 : ck_Sum := (((1 : Nat), (0 : Nat), (0 : Nat)), (249 : Nat), [.inr (.inr (.inl (194 : Nat))), .inr (.inr (.inl (10 : Nat)))], ([], [], []), ([((194 : Nat), (3 : Int), (3 : Int)), ((195 : Nat), (0 : Int), (167 : Int))], []), [(.inr none, (249 : Nat), ([], [], []))])
set_option maxRecDepth 100000 in
theorem pl_s330_s {X : Int → Int} {LX : Nat} : ck_Ok p2_OL X LX 58 pl_s330 := ck_okq (cuts := []) (f := 114) ⟨pl_nmu, ck_E0⟩ (by decide +kernel)
set_option maxRecDepth 100000 in
/-- GlacierMail$Rows.copyFrom -/
noncomputable def pl_s331 : ck_Sum := (((1 : Nat), (0 : Nat), (0 : Nat)), (249 : Nat), [.inr (.inr (.inl (196 : Nat))), .inr (.inr (.inl (12 : Nat)))], ([], [], []), ([((196 : Nat), (3 : Int), (3 : Int)), ((197 : Nat), (0 : Int), (35 : Int))], []), [(.inr none, (249 : Nat), ([], [], []))])
set_option maxRecDepth 100000 in
theorem pl_s331_s {X : Int → Int} {LX : Nat} : ck_Ok p2_OL X LX 58 pl_s331 := ck_okq (cuts := []) (f := 114) ⟨pl_nmu, ck_E0⟩ (by decide +kernel)
set_option maxRecDepth 100000 in
/-- GlacierMail$Rows.copyFrom -/
noncomputable def pl_s332 : ck_Sum := (((1 : Nat), (0 : Nat), (0 : Nat)), (249 : Nat), [.inr (.inr (.inl (198 : Nat))), .inr (.inr (.inl (14 : Nat)))], ([], [], []), ([((198 : Nat), (3 : Int), (3 : Int)), ((199 : Nat), (0 : Int), (71 : Int))], []), [(.inr none, (249 : Nat), ([], [], []))])
set_option maxRecDepth 100000 in
theorem pl_s332_s {X : Int → Int} {LX : Nat} : ck_Ok p2_OL X LX 58 pl_s332 := ck_okq (cuts := []) (f := 114) ⟨pl_nmu, ck_E0⟩ (by decide +kernel)
set_option maxRecDepth 100000 in
/-- GlacierMail$State.copyFrom -/
noncomputable def pl_s333 : ck_Sum := (((2 : Nat), (0 : Nat), (0 : Nat)), (249 : Nat), [.inr (.inr (.inl (187 : Nat))), .inr (.inr (.inl (3 : Nat)))], ([], [((3 : Nat), (8 : Int), (246 : Nat)), ((187 : Nat), (8 : Int), (100187 : Nat))], [((3 : Nat), (6 : Int), (6 : Int), ((0 : Int), (299 : Int), [((10 : Nat), (0 : Int))]))]), (zl100, [((187 : Nat), (8 : Int))]), [(.inr none, (249 : Nat), ([], [((187 : Nat), (8 : Int), (246 : Nat))], [((187 : Nat), (6 : Int), (6 : Int), ((0 : Int), (299 : Int), [((10 : Nat), (0 : Int))]))]))])
set_option maxRecDepth 100000 in
theorem pl_s333_s {X : Int → Int} {LX : Nat} : ck_Ok p2_OL X LX 57 pl_s333 := ck_okq (cuts := []) (f := 204) ⟨pl_nmu, ck_E1 (ck_S1 pl_s327_s (ck_S1 pl_s328_s (ck_S1 pl_s329_s (ck_S1 pl_s330_s (ck_S1 pl_s331_s (ck_S1 pl_s332_s ck_S0)))))) ck_E0⟩ (by decide +kernel)
set_option maxRecDepth 100000 in
/-- GlacierMail$Rows.copyFrom -/
noncomputable def pl_s334 : ck_Sum := (((1 : Nat), (0 : Nat), (0 : Nat)), (249 : Nat), [.inr (.inr (.inl (45 : Nat))), .inr (.inr (.inl (4 : Nat)))], ([], [], []), ([((45 : Nat), (3 : Int), (3 : Int)), ((46 : Nat), (0 : Int), (55 : Int))], []), [(.inr none, (249 : Nat), ([], [], []))])
set_option maxRecDepth 100000 in
theorem pl_s334_s {X : Int → Int} {LX : Nat} : ck_Ok p2_OL X LX 58 pl_s334 := ck_okq (cuts := []) (f := 114) ⟨pl_nmu, ck_E0⟩ (by decide +kernel)
set_option maxRecDepth 100000 in
/-- GlacierMail$Rows.copyFrom -/
noncomputable def pl_s335 : ck_Sum := (((1 : Nat), (0 : Nat), (0 : Nat)), (249 : Nat), [.inr (.inr (.inl (47 : Nat))), .inr (.inr (.inl (6 : Nat)))], ([], [], []), ([((47 : Nat), (3 : Int), (3 : Int)), ((48 : Nat), (0 : Int), (23 : Int))], []), [(.inr none, (249 : Nat), ([], [], []))])
set_option maxRecDepth 100000 in
theorem pl_s335_s {X : Int → Int} {LX : Nat} : ck_Ok p2_OL X LX 58 pl_s335 := ck_okq (cuts := []) (f := 114) ⟨pl_nmu, ck_E0⟩ (by decide +kernel)
set_option maxRecDepth 100000 in
/-- GlacierMail$Rows.copyFrom -/
noncomputable def pl_s336 : ck_Sum := (((1 : Nat), (0 : Nat), (0 : Nat)), (249 : Nat), [.inr (.inr (.inl (49 : Nat))), .inr (.inr (.inl (8 : Nat)))], ([], [], []), ([((49 : Nat), (3 : Int), (3 : Int)), ((50 : Nat), (0 : Int), (23 : Int))], []), [(.inr none, (249 : Nat), ([], [], []))])
set_option maxRecDepth 100000 in
theorem pl_s336_s {X : Int → Int} {LX : Nat} : ck_Ok p2_OL X LX 58 pl_s336 := ck_okq (cuts := []) (f := 114) ⟨pl_nmu, ck_E0⟩ (by decide +kernel)
set_option maxRecDepth 100000 in
/-- GlacierMail$Rows.copyFrom -/
noncomputable def pl_s337 : ck_Sum := (((1 : Nat), (0 : Nat), (0 : Nat)), (249 : Nat), [.inr (.inr (.inl (51 : Nat))), .inr (.inr (.inl (10 : Nat)))], ([], [], []), ([((51 : Nat), (3 : Int), (3 : Int)), ((52 : Nat), (0 : Int), (167 : Int))], []), [(.inr none, (249 : Nat), ([], [], []))])
set_option maxRecDepth 100000 in
theorem pl_s337_s {X : Int → Int} {LX : Nat} : ck_Ok p2_OL X LX 58 pl_s337 := ck_okq (cuts := []) (f := 114) ⟨pl_nmu, ck_E0⟩ (by decide +kernel)
set_option maxRecDepth 100000 in
/-- GlacierMail$Rows.copyFrom -/
noncomputable def pl_s338 : ck_Sum := (((1 : Nat), (0 : Nat), (0 : Nat)), (249 : Nat), [.inr (.inr (.inl (53 : Nat))), .inr (.inr (.inl (12 : Nat)))], ([], [], []), ([((53 : Nat), (3 : Int), (3 : Int)), ((54 : Nat), (0 : Int), (35 : Int))], []), [(.inr none, (249 : Nat), ([], [], []))])
set_option maxRecDepth 100000 in
theorem pl_s338_s {X : Int → Int} {LX : Nat} : ck_Ok p2_OL X LX 58 pl_s338 := ck_okq (cuts := []) (f := 114) ⟨pl_nmu, ck_E0⟩ (by decide +kernel)
set_option maxRecDepth 100000 in
/-- GlacierMail$Rows.copyFrom -/
noncomputable def pl_s339 : ck_Sum := (((1 : Nat), (0 : Nat), (0 : Nat)), (249 : Nat), [.inr (.inr (.inl (55 : Nat))), .inr (.inr (.inl (14 : Nat)))], ([], [], []), ([((55 : Nat), (3 : Int), (3 : Int)), ((56 : Nat), (0 : Int), (71 : Int))], []), [(.inr none, (249 : Nat), ([], [], []))])
set_option maxRecDepth 100000 in
theorem pl_s339_s {X : Int → Int} {LX : Nat} : ck_Ok p2_OL X LX 58 pl_s339 := ck_okq (cuts := []) (f := 114) ⟨pl_nmu, ck_E0⟩ (by decide +kernel)
set_option maxRecDepth 100000 in
/-- GlacierMail$State.copyFrom -/
noncomputable def pl_s340 : ck_Sum := (((2 : Nat), (0 : Nat), (0 : Nat)), (249 : Nat), [.inr (.inr (.inl (44 : Nat))), .inr (.inr (.inl (3 : Nat)))], ([], [((3 : Nat), (8 : Int), (246 : Nat)), ((44 : Nat), (8 : Int), (100044 : Nat))], [((3 : Nat), (6 : Int), (6 : Int), ((0 : Int), (299 : Int), [((10 : Nat), (0 : Int))]))]), (zl101, [((44 : Nat), (8 : Int))]), [(.inr none, (249 : Nat), ([], [((44 : Nat), (8 : Int), (246 : Nat))], [((44 : Nat), (6 : Int), (6 : Int), ((0 : Int), (299 : Int), [((10 : Nat), (0 : Int))]))]))])
set_option maxRecDepth 100000 in
theorem pl_s340_s {X : Int → Int} {LX : Nat} : ck_Ok p2_OL X LX 57 pl_s340 := ck_okq (cuts := []) (f := 204) ⟨pl_nmu, ck_E1 (ck_S1 pl_s334_s (ck_S1 pl_s335_s (ck_S1 pl_s336_s (ck_S1 pl_s337_s (ck_S1 pl_s338_s (ck_S1 pl_s339_s ck_S0)))))) ck_E0⟩ (by decide +kernel)
set_option maxRecDepth 100000 in
/-- GlacierMail$History.remember -/
noncomputable def pl_s341 : ck_Sum := (((3 : Nat), (0 : Nat), (0 : Nat)), (249 : Nat), [.inr (.inr (.inl (42 : Nat))), .inr (.inr (.inl (3 : Nat)))], ([], zl230, [((3 : Nat), (6 : Int), (6 : Int), ((0 : Int), (299 : Int), [((10 : Nat), (0 : Int))]))]), (zl103, zl104), [(.inr none, (249 : Nat), ([], zl105, zl106)), (.inr none, (249 : Nat), ([], zl231, zl108)), (.inr none, (249 : Nat), ([], zl232, zl110)), (.inr none, (249 : Nat), ([], zl233, zl112)), (.inr none, (249 : Nat), ([], zl234, zl114)), (.inr none, (249 : Nat), ([], zl235, zl116)), (.inr none, (249 : Nat), ([], zl236, zl118)), (.inr none, (249 : Nat), ([], zl237, zl120)), (.inr none, (249 : Nat), ([], zl238, zl122)), (.inr none, (249 : Nat), ([], zl239, zl124)), (.inr none, (249 : Nat), ([], zl240, zl126)), (.inr none, (249 : Nat), ([], zl241, zl128)), (.inr none, (249 : Nat), ([], zl242, zl130))])
set_option maxRecDepth 100000 in
theorem pl_s341_s {X : Int → Int} {LX : Nat} : ck_Ok p2_OL X LX 154 pl_s341 := ck_okq (cuts := []) (f := 124) ⟨pl_nmu, ck_E1 (ck_S1 pl_s256_s ck_S0) (ck_E1 (ck_S1 pl_s263_s (ck_S1 pl_s270_s (ck_S1 pl_s277_s (ck_S1 pl_s284_s (ck_S1 pl_s291_s (ck_S1 pl_s298_s (ck_S1 pl_s305_s (ck_S1 pl_s312_s (ck_S1 pl_s319_s (ck_S1 pl_s326_s (ck_S1 pl_s333_s (ck_S1 pl_s340_s ck_S0)))))))))))) ck_E0)⟩ (by decide +kernel)
set_option maxRecDepth 100000 in
/-- GlacierMail$Rows.add -/
noncomputable def pl_s342 : ck_Sum := (((0 : Nat), (0 : Nat), (0 : Nat)), (249 : Nat), [.inr (.inr (.inl (10 : Nat)))], ([], [], []), ([((10 : Nat), (3 : Int), (3 : Int))], []), zl243)
set_option maxRecDepth 100000 in
theorem pl_s342_s {X : Int → Int} {LX : Nat} : ck_Ok p2_OL X LX 102 pl_s342 := ck_okq (cuts := []) (f := 102) ⟨pl_nmu, ck_E0⟩ (by decide +kernel)
set_option maxRecDepth 100000 in
/-- GlacierMail$Rows.put -/
noncomputable def pl_s343 : ck_Sum := (((0 : Nat), (0 : Nat), (0 : Nat)), (249 : Nat), [.inr (.inr (.inl (10 : Nat))), .inl ((0 : Int), (23 : Int), []), .inl (ck_one 0), .inl ((0 : Int), (7 : Int), [])], ([], [], []), (zl132, []), [(.inr none, (249 : Nat), ([], [], []))])
set_option maxRecDepth 100000 in
theorem pl_s343_s {X : Int → Int} {LX : Nat} : ck_Ok p2_OL X LX 45 pl_s343 := ck_okq (cuts := []) (f := 116) ⟨pl_nmu, ck_E0⟩ (by decide +kernel)
set_option maxRecDepth 100000 in
/-- GlacierMail$Rows.put -/
noncomputable def pl_s344 : ck_Sum := (((0 : Nat), (0 : Nat), (0 : Nat)), (249 : Nat), [.inr (.inr (.inl (10 : Nat))), .inl ((0 : Int), (23 : Int), []), .inl (ck_one 1), .inl ((0 : Int), (7 : Int), [])], ([], [], []), (zl133, []), [(.inr none, (249 : Nat), ([], [], []))])
set_option maxRecDepth 100000 in
theorem pl_s344_s {X : Int → Int} {LX : Nat} : ck_Ok p2_OL X LX 45 pl_s344 := ck_okq (cuts := []) (f := 116) ⟨pl_nmu, ck_E0⟩ (by decide +kernel)
set_option maxRecDepth 100000 in
/-- GlacierMail$Rows.put -/
noncomputable def pl_s345 : ck_Sum := (((0 : Nat), (0 : Nat), (0 : Nat)), (249 : Nat), [.inr (.inr (.inl (10 : Nat))), .inl ((0 : Int), (23 : Int), []), .inl (ck_one 2), .inl ((-1 : Int), (98 : Int), [])], ([], [], []), (zl134, []), [(.inr none, (249 : Nat), ([], [], []))])
set_option maxRecDepth 100000 in
theorem pl_s345_s {X : Int → Int} {LX : Nat} : ck_Ok p2_OL X LX 45 pl_s345 := ck_okq (cuts := []) (f := 116) ⟨pl_nmu, ck_E0⟩ (by decide +kernel)
set_option maxRecDepth 100000 in
/-- GlacierMail$Rows.put -/
noncomputable def pl_s346 : ck_Sum := (((0 : Nat), (0 : Nat), (0 : Nat)), (249 : Nat), [.inr (.inr (.inl (10 : Nat))), .inl ((0 : Int), (23 : Int), []), .inl (ck_one 3), .inl ((0 : Int), (299 : Int), [])], ([], [], []), (zl135, []), [(.inr none, (249 : Nat), ([], [], []))])
set_option maxRecDepth 100000 in
theorem pl_s346_s {X : Int → Int} {LX : Nat} : ck_Ok p2_OL X LX 45 pl_s346 := ck_okq (cuts := []) (f := 116) ⟨pl_nmu, ck_E0⟩ (by decide +kernel)
set_option maxRecDepth 100000 in
/-- GlacierMail$Rows.put -/
noncomputable def pl_s347 : ck_Sum := (((0 : Nat), (0 : Nat), (0 : Nat)), (249 : Nat), [.inr (.inr (.inl (10 : Nat))), .inl ((0 : Int), (23 : Int), []), .inl (ck_one 4), .inl ((-1 : Int), (98 : Int), [])], ([], [], []), (zl136, []), [(.inr none, (249 : Nat), ([], [], []))])
set_option maxRecDepth 100000 in
theorem pl_s347_s {X : Int → Int} {LX : Nat} : ck_Ok p2_OL X LX 45 pl_s347 := ck_okq (cuts := []) (f := 116) ⟨pl_nmu, ck_E0⟩ (by decide +kernel)
set_option maxRecDepth 100000 in
/-- GlacierMail$Rows.put -/
noncomputable def pl_s348 : ck_Sum := (((0 : Nat), (0 : Nat), (0 : Nat)), (249 : Nat), [.inr (.inr (.inl (10 : Nat))), .inl ((0 : Int), (23 : Int), []), .inl (ck_one 5), .inl (ck_one (-1))], ([], [], []), (zl137, []), [(.inr none, (249 : Nat), ([], [], []))])
set_option maxRecDepth 100000 in
theorem pl_s348_s {X : Int → Int} {LX : Nat} : ck_Ok p2_OL X LX 45 pl_s348 := ck_okq (cuts := []) (f := 116) ⟨pl_nmu, ck_E0⟩ (by decide +kernel)
set_option maxRecDepth 100000 in
/-- GlacierMail$Rows.put -/
noncomputable def pl_s349 : ck_Sum := (((0 : Nat), (0 : Nat), (0 : Nat)), (249 : Nat), [.inr (.inr (.inl (10 : Nat))), .inl ((0 : Int), (23 : Int), []), .inl (ck_one 6), .inl (ck_one (-1))], ([], [], []), (zl138, []), [(.inr none, (249 : Nat), ([], [], []))])
set_option maxRecDepth 100000 in
theorem pl_s349_s {X : Int → Int} {LX : Nat} : ck_Ok p2_OL X LX 45 pl_s349 := ck_okq (cuts := []) (f := 116) ⟨pl_nmu, ck_E0⟩ (by decide +kernel)
set_option maxRecDepth 100000 in
/-- GlacierMail$Rows.put -/
noncomputable def pl_s350 : ck_Sum := (((0 : Nat), (0 : Nat), (0 : Nat)), (249 : Nat), [.inr (.inr (.inl (10 : Nat))), .inl (ck_one (-1)), .inl (ck_one 0), .inl ((0 : Int), (7 : Int), [])], ([], [], []), ([], []), [(.inr none, (249 : Nat), ([], [], []))])
set_option maxRecDepth 100000 in
theorem pl_s350_s {X : Int → Int} {LX : Nat} : ck_Ok p2_OL X LX 45 pl_s350 := ck_okq (cuts := []) (f := 76) ⟨pl_nmu, ck_E0⟩ (by decide +kernel)
set_option maxRecDepth 100000 in
/-- GlacierMail$Rows.put -/
noncomputable def pl_s351 : ck_Sum := (((0 : Nat), (0 : Nat), (0 : Nat)), (249 : Nat), [.inr (.inr (.inl (10 : Nat))), .inl (ck_one (-1)), .inl (ck_one 1), .inl ((0 : Int), (7 : Int), [])], ([], [], []), ([], []), [(.inr none, (249 : Nat), ([], [], []))])
set_option maxRecDepth 100000 in
theorem pl_s351_s {X : Int → Int} {LX : Nat} : ck_Ok p2_OL X LX 45 pl_s351 := ck_okq (cuts := []) (f := 76) ⟨pl_nmu, ck_E0⟩ (by decide +kernel)
set_option maxRecDepth 100000 in
/-- GlacierMail$Rows.put -/
noncomputable def pl_s352 : ck_Sum := (((0 : Nat), (0 : Nat), (0 : Nat)), (249 : Nat), [.inr (.inr (.inl (10 : Nat))), .inl (ck_one (-1)), .inl (ck_one 2), .inl ((-1 : Int), (98 : Int), [])], ([], [], []), ([], []), [(.inr none, (249 : Nat), ([], [], []))])
set_option maxRecDepth 100000 in
theorem pl_s352_s {X : Int → Int} {LX : Nat} : ck_Ok p2_OL X LX 45 pl_s352 := ck_okq (cuts := []) (f := 76) ⟨pl_nmu, ck_E0⟩ (by decide +kernel)
set_option maxRecDepth 100000 in
/-- GlacierMail$Rows.put -/
noncomputable def pl_s353 : ck_Sum := (((0 : Nat), (0 : Nat), (0 : Nat)), (249 : Nat), [.inr (.inr (.inl (10 : Nat))), .inl (ck_one (-1)), .inl (ck_one 3), .inl ((0 : Int), (299 : Int), [])], ([], [], []), ([], []), [(.inr none, (249 : Nat), ([], [], []))])
set_option maxRecDepth 100000 in
theorem pl_s353_s {X : Int → Int} {LX : Nat} : ck_Ok p2_OL X LX 45 pl_s353 := ck_okq (cuts := []) (f := 76) ⟨pl_nmu, ck_E0⟩ (by decide +kernel)
set_option maxRecDepth 100000 in
/-- GlacierMail$Rows.put -/
noncomputable def pl_s354 : ck_Sum := (((0 : Nat), (0 : Nat), (0 : Nat)), (249 : Nat), [.inr (.inr (.inl (10 : Nat))), .inl (ck_one (-1)), .inl (ck_one 4), .inl ((-1 : Int), (98 : Int), [])], ([], [], []), ([], []), [(.inr none, (249 : Nat), ([], [], []))])
set_option maxRecDepth 100000 in
theorem pl_s354_s {X : Int → Int} {LX : Nat} : ck_Ok p2_OL X LX 45 pl_s354 := ck_okq (cuts := []) (f := 76) ⟨pl_nmu, ck_E0⟩ (by decide +kernel)
set_option maxRecDepth 100000 in
/-- GlacierMail$Rows.put -/
noncomputable def pl_s355 : ck_Sum := (((0 : Nat), (0 : Nat), (0 : Nat)), (249 : Nat), [.inr (.inr (.inl (10 : Nat))), .inl (ck_one (-1)), .inl (ck_one 5), .inl (ck_one (-1))], ([], [], []), ([], []), [(.inr none, (249 : Nat), ([], [], []))])
set_option maxRecDepth 100000 in
theorem pl_s355_s {X : Int → Int} {LX : Nat} : ck_Ok p2_OL X LX 45 pl_s355 := ck_okq (cuts := []) (f := 76) ⟨pl_nmu, ck_E0⟩ (by decide +kernel)
set_option maxRecDepth 100000 in
/-- GlacierMail$Rows.put -/
noncomputable def pl_s356 : ck_Sum := (((0 : Nat), (0 : Nat), (0 : Nat)), (249 : Nat), [.inr (.inr (.inl (10 : Nat))), .inl (ck_one (-1)), .inl (ck_one 6), .inl (ck_one (-1))], ([], [], []), ([], []), [(.inr none, (249 : Nat), ([], [], []))])
set_option maxRecDepth 100000 in
theorem pl_s356_s {X : Int → Int} {LX : Nat} : ck_Ok p2_OL X LX 45 pl_s356 := ck_okq (cuts := []) (f := 76) ⟨pl_nmu, ck_E0⟩ (by decide +kernel)
set_option maxRecDepth 100000 in
/-- GlacierMail$State.throwIn -/
noncomputable def pl_s357 : ck_Sum := (((1 : Nat), (0 : Nat), (0 : Nat)), (249 : Nat), [.inr (.inr (.inl (3 : Nat))), .inl ((0 : Int), (7 : Int), []), .inl ((0 : Int), (7 : Int), []), .inl ((-1 : Int), (98 : Int), []), .inl ((-1 : Int), (98 : Int), [])], ([], [], [((3 : Nat), (6 : Int), (6 : Int), ((0 : Int), (299 : Int), [((10 : Nat), (0 : Int))]))]), ([((10 : Nat), (3 : Int), (3 : Int)), ((11 : Nat), (0 : Int), (167 : Int))], []), zl243)
set_option maxRecDepth 100000 in
theorem pl_s357_s {X : Int → Int} {LX : Nat} : ck_Ok p2_OL X LX 119 pl_s357 := ck_okq (cuts := []) (f := 168) ⟨pl_nmu, ck_E1 (ck_S1 pl_s342_s ck_S0) (ck_E1 (ck_S1 pl_s343_s (ck_S1 pl_s344_s (ck_S1 pl_s345_s (ck_S1 pl_s346_s (ck_S1 pl_s347_s (ck_S1 pl_s348_s (ck_S1 pl_s349_s (ck_S1 pl_s350_s (ck_S1 pl_s351_s (ck_S1 pl_s352_s (ck_S1 pl_s353_s (ck_S1 pl_s354_s (ck_S1 pl_s355_s (ck_S1 pl_s356_s ck_S0)))))))))))))) ck_E0)⟩ (by decide +kernel)
set_option maxRecDepth 100000 in
/-- GlacierMail.post -/
noncomputable def pl_s358 : ck_Sum := (((8 : Nat), (4 : Nat), (24 : Nat)), (249 : Nat), [.inr (.inr (.inl (1 : Nat))), .inl ((0 : Int), (7 : Int), []), .inl ((0 : Int), (7 : Int), [])], ([], zl230, [((3 : Nat), (6 : Int), (6 : Int), ((0 : Int), (299 : Int), [((10 : Nat), (0 : Int))]))]), (zl139, zl104), [(.inl (3 : Nat), (249 : Nat), ([], zl105, [])), (.inl (0 : Nat), (249 : Nat), ([], zl105, [])), (.inr (some (.inl ((0 : Int), (23 : Int), []))), (249 : Nat), ([], zl105, zl140)), (.inr (some (.inl (ck_one (-1)))), (249 : Nat), ([], zl105, zl141)), (.inr (some (.inl ((0 : Int), (23 : Int), []))), (249 : Nat), ([], zl242, zl142)), (.inr (some (.inl (ck_one (-1)))), (249 : Nat), ([], zl242, zl143)), (.inr (some (.inl ((0 : Int), (23 : Int), []))), (249 : Nat), ([], zl241, zl144)), (.inr (some (.inl (ck_one (-1)))), (249 : Nat), ([], zl241, zl145)), (.inr (some (.inl ((0 : Int), (23 : Int), []))), (249 : Nat), ([], zl240, zl146)), (.inr (some (.inl (ck_one (-1)))), (249 : Nat), ([], zl240, zl147)), (.inr (some (.inl ((0 : Int), (23 : Int), []))), (249 : Nat), ([], zl239, zl148)), (.inr (some (.inl (ck_one (-1)))), (249 : Nat), ([], zl239, zl149)), (.inr (some (.inl ((0 : Int), (23 : Int), []))), (249 : Nat), ([], zl238, zl150)), (.inr (some (.inl (ck_one (-1)))), (249 : Nat), ([], zl238, zl151)), (.inr (some (.inl ((0 : Int), (23 : Int), []))), (249 : Nat), ([], zl237, zl152)), (.inr (some (.inl (ck_one (-1)))), (249 : Nat), ([], zl237, zl153)), (.inr (some (.inl ((0 : Int), (23 : Int), []))), (249 : Nat), ([], zl236, zl154)), (.inr (some (.inl (ck_one (-1)))), (249 : Nat), ([], zl236, zl155)), (.inr (some (.inl ((0 : Int), (23 : Int), []))), (249 : Nat), ([], zl235, zl156)), (.inr (some (.inl (ck_one (-1)))), (249 : Nat), ([], zl235, zl157)), (.inr (some (.inl ((0 : Int), (23 : Int), []))), (249 : Nat), ([], zl234, zl158)), (.inr (some (.inl (ck_one (-1)))), (249 : Nat), ([], zl234, zl159)), (.inr (some (.inl ((0 : Int), (23 : Int), []))), (249 : Nat), ([], zl233, zl160)), (.inr (some (.inl (ck_one (-1)))), (249 : Nat), ([], zl233, zl161)), (.inr (some (.inl ((0 : Int), (23 : Int), []))), (249 : Nat), ([], zl232, zl162)), (.inr (some (.inl (ck_one (-1)))), (249 : Nat), ([], zl232, zl163)), (.inr (some (.inl ((0 : Int), (23 : Int), []))), (249 : Nat), ([], zl231, zl164)), (.inr (some (.inl (ck_one (-1)))), (249 : Nat), ([], zl231, zl165)), (.inl (1 : Nat), (249 : Nat), ([], zl105, [((10 : Nat), (3 : Int), (3 : Int), ck_one 24)]))])
set_option maxRecDepth 100000 in
theorem pl_s358_s {X : Int → Int} {LX : Nat} : ck_Ok p2_OL X LX 152 pl_s358 := ck_okq (cuts := []) (f := 152) ⟨pl_nmu, ck_E1 (ck_S1 pl_s197_s ck_S0) (ck_E1 (ck_S1 pl_s254_s ck_S0) (ck_E1 (ck_S1 pl_s255_s ck_S0) (ck_E1 (ck_S1 pl_s341_s ck_S0) (ck_E1 (ck_S1 pl_s224_s ck_S0) (ck_E1 (ck_S1 pl_s357_s ck_S0) ck_E0)))))⟩ (by decide +kernel)
set_option maxRecDepth 100000 in
/-- GlacierMail.watch -/
noncomputable def pl_s359 : ck_Sum := (((8 : Nat), (1 : Nat), (6 : Nat)), (249 : Nat), [.inr (.inr (.inl (1 : Nat))), .inl ((-2147483648 : Int), (-1 : Int), []), .inl ((-2147483648 : Int), (2147483647 : Int), [])], ([], [], []), ([], []), [(.inl (3 : Nat), (249 : Nat), ([], [], []))])
set_option maxRecDepth 100000 in
theorem pl_s359_s {X : Int → Int} {LX : Nat} : ck_Ok p2_OL X LX 156 pl_s359 := ck_okq (cuts := []) (f := 76) ⟨pl_nmu, ck_E1 (ck_S1 pl_s191_s ck_S0) ck_E0⟩ (by decide +kernel)
set_option maxRecDepth 100000 in
/-- GlacierMail.watch -/
noncomputable def pl_s360 : ck_Sum := (((8 : Nat), (1 : Nat), (6 : Nat)), (249 : Nat), [.inr (.inr (.inl (1 : Nat))), .inl ((8 : Int), (2147483647 : Int), []), .inl ((-2147483648 : Int), (2147483647 : Int), [])], ([], [], []), ([], []), [(.inl (3 : Nat), (249 : Nat), ([], [], []))])
set_option maxRecDepth 100000 in
theorem pl_s360_s {X : Int → Int} {LX : Nat} : ck_Ok p2_OL X LX 156 pl_s360 := ck_okq (cuts := []) (f := 76) ⟨pl_nmu, ck_E1 (ck_S1 pl_s194_s ck_S0) ck_E0⟩ (by decide +kernel)
end
