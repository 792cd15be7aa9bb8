/-! 78r80a22.sf -/
section
/-! EVERY CALL ENDS, whatever was done before (laid by wip/am/p2k.py). -/
set_option maxRecDepth 100000 in
/-- GlacierMail$Rows.copyFrom -/
noncomputable def p2_s1758 : ck_Sum := ((1, 0, 0), 245, [.inr (.inr (.inl 12)), .inr (.inr (.inl 38))], ([], [], []), ([(12, 3, 3), (13, 0, 35)], []), [(.inr none, 245, ([], [], []))])
set_option maxRecDepth 100000 in
theorem p2_s1758_s {X : Int → Int} {LX : Nat} : ck_Ok p2_O X LX 58 p2_s1758 := ck_ok_s (O := p2_O) (X := X) (LX := LX) (E := []) (mi := 58) (cuts := []) (f := 114) (S := p2_s1758) (lx := none) (XF := []) ⟨p2_nmu, ck_E0⟩ ck_X0 ck_l0 (by decide +kernel)
set_option maxRecDepth 100000 in
/-- GlacierMail$Rows.copyFrom -/
noncomputable def p2_s1759 : ck_Sum := ((1, 0, 0), 245, [.inr (.inr (.inl 14)), .inr (.inr (.inl 40))], ([], [], []), ([(14, 3, 3), (15, 0, 71)], []), [(.inr none, 245, ([], [], []))])
set_option maxRecDepth 100000 in
theorem p2_s1759_s {X : Int → Int} {LX : Nat} : ck_Ok p2_O X LX 58 p2_s1759 := ck_ok_s (O := p2_O) (X := X) (LX := LX) (E := []) (mi := 58) (cuts := []) (f := 114) (S := p2_s1759) (lx := none) (XF := []) ⟨p2_nmu, ck_E0⟩ ck_X0 ck_l0 (by decide +kernel)
set_option maxRecDepth 100000 in
/-- GlacierMail$State.copyFrom -/
noncomputable def p2_s1760 : ck_Sum := ((2, 0, 0), 245, [.inr (.inr (.inl 3)), .inr (.inr (.inl 29))], ([], [(3, 8, 0), (29, 8, 100029)], []), (zl1, [(3, 8)]), [(.inr none, 245, ([], [(3, 8, 100029)], []))])
set_option maxRecDepth 100000 in
theorem p2_s1760_s {X : Int → Int} {LX : Nat} : ck_Ok p2_O X LX 57 p2_s1760 := ck_ok_s (O := p2_O) (X := X) (LX := LX) (E := [(58, [p2_s1754, p2_s1755, p2_s1756, p2_s1757, p2_s1758, p2_s1759])]) (mi := 57) (cuts := []) (f := 204) (S := p2_s1760) (lx := none) (XF := []) ⟨p2_nmu, ck_E1 (ck_S1 p2_s1754_s (ck_S1 p2_s1755_s (ck_S1 p2_s1756_s (ck_S1 p2_s1757_s (ck_S1 p2_s1758_s (ck_S1 p2_s1759_s ck_S0)))))) ck_E0⟩ ck_X0 ck_l0 (by decide +kernel)
set_option maxRecDepth 100000 in
/-- GlacierMail.back -/
noncomputable def p2_s1761 : ck_Sum := ((4, 0, 0), 245, [.inr (.inr (.inl 1))], ([], [(3, 8, 0), (29, 8, 100029)], [(1, 6, 6, (0, 1, [(9, 0)]))]), (zl215, [(3, 8)]), [(.inr (some (.inl (ck_one 1))), 245, ([], [(3, 8, 100029)], zl216)), (.inr (some (.inl (ck_one 0))), 245, ([], [(3, 8, 0)], [(1, 6, 6, (0, 0, [(9, 0)]))]))])
set_option maxRecDepth 100000 in
theorem p2_s1761_s {X : Int → Int} {LX : Nat} : ck_Ok p2_O X LX 60 p2_s1761 := ck_ok_s (O := p2_O) (X := X) (LX := LX) (E := [(57, [p2_s1760]), (61, [p2_s144])]) (mi := 60) (cuts := []) (f := 94) (S := p2_s1761) (lx := none) (XF := []) ⟨p2_nmu, ck_E1 (ck_S1 p2_s1760_s ck_S0) (ck_E1 (ck_S1 p2_s144_s ck_S0) ck_E0)⟩ ck_X0 ck_l0 (by decide +kernel)
set_option maxRecDepth 100000 in
/-- GlacierMailModel.back -/
noncomputable def p2_s1762 : ck_Sum := ((1, 0, 0), 245, [.inr (.inr (.inl 226))], ([], [], [(227, 2, 2, (0, 8, [(20, 0)])), (227, 3, 3, (0, 8, [(21, 0)])), (227, 4, 4, (0, 24, [(22, 0)])), (227, 5, 5, (0, 8, [(23, 0)])), (227, 6, 6, (0, 6, [(24, 0)])), (227, 7, 7, (0, 12, [(25, 0)])), (227, 14, 14, (0, 24, [(26, 0)])), (226, 6, 6, (0, 12, [(27, 0)])), (226, 5, 5, (0, 1, [(8, 0)])), (227, 9, 9, (0, 299, [(11, 0)]))]), ([(226, 0, 0), (226, 6, 6), (226, 26, 26), (227, 0, 1243), (234, 0, 299)], []), [(.inr (some (.inl (ck_one 0))), 245, ([], [], [(226, 5, 5, (0, 0, [(8, 0)])), (226, 0, 0, ck_one 0), (227, 2, 2, (0, 8, [(20, 0)])), (227, 3, 3, (0, 8, [(21, 0)])), (227, 4, 4, (0, 24, [(22, 0)])), (227, 5, 5, (0, 8, [(23, 0)])), (227, 6, 6, (0, 6, [(24, 0)])), (227, 7, 7, (0, 12, [(25, 0)])), (227, 14, 14, (0, 24, [(26, 0)])), (226, 6, 6, (0, 12, [(27, 0)])), (227, 9, 9, (0, 299, [(11, 0)]))])), (.inr (some (.inl (ck_one 1))), 245, ([], [], [(226, 26, 26, ck_one (-1)), (226, 6, 6, ck_one 0), (226, 5, 5, (1, 1, [(8, 0)])), (226, 0, 0, ck_one 0)]))])
noncomputable def p2_s1762_E : List (Nat × List ck_Sum) := [(235, [p2_s245])]
set_option maxRecDepth 100000 in
noncomputable def p2_s1762_C16 : ck_C := ([some (.inr (.inr (.inl 226))), some (.inl (ck_one 0))], ([], [], [(226, 5, 5, (1, 1, [(8, 0)])), (226, 0, 0, ck_one 0), (227, 2, 2, (0, 8, [(20, 0)])), (227, 3, 3, (0, 8, [(21, 0)])), (227, 4, 4, (0, 24, [(22, 0)])), (227, 5, 5, (0, 8, [(23, 0)])), (227, 6, 6, (0, 6, [(24, 0)])), (227, 7, 7, (0, 12, [(25, 0)])), (227, 14, 14, (0, 24, [(26, 0)])), (226, 6, 6, (0, 12, [(27, 0)])), (227, 9, 9, (0, 299, [(11, 0)]))]), 0, .inl 1, true)
set_option maxRecDepth 100000 in
noncomputable def p2_s1762_Z : List (Nat × ck_C) := [(16, p2_s1762_C16)]
set_option maxRecDepth 100000 in
theorem p2_s1762_a : (decide (p2_s1762.2.2.1.length ≤ gm_ml 237) && ck_go p2_O none [] p2_s1762_E 237 p2_s1762.1.1 p2_s1762.2.1 p2_s1762.2.2.2.2.1 p2_s1762.2.2.2.2.2 p2_s1762_Z 126 false [(16, p2_s1762_C16, 0, 0, 245)] p2_s1762.1.2.1 p2_s1762.1.2.2 0 (p2_s1762.2.2.1.map some ++ List.replicate (gm_ml 237 - p2_s1762.2.2.1.length) none) [] p2_s1762.2.1 p2_s1762.2.2.2.1) = true := by decide +kernel
theorem p2_s1762_u : ck_cu p2_s1762_Z = true := by decide +kernel
theorem p2_s1762_h {X : Int → Int} {LX : Nat} : ck_nmu p2_O ∧ ck_OkE p2_O X LX p2_s1762_E := ⟨p2_nmu, ck_E1 (ck_S1 p2_s245_s ck_S0) ck_E0⟩
set_option maxRecDepth 100000 in
theorem p2_s1762_g16 : ck_go p2_O none [] p2_s1762_E 237 p2_s1762.1.1 p2_s1762.2.1 p2_s1762.2.2.2.2.1 p2_s1762.2.2.2.2.2 p2_s1762_Z 126 false [] 0 0 41 (p2_s1762_C16.1.set 1 (some (.inl (ck_one 1244)))) [] 245 (p2_s1762_C16.2.1.1, p2_s1762_C16.2.1.2.1, ck_cws [(227, 0, 1243)] p2_s1762_C16.2.1.2.2) = true := by decide +kernel
set_option maxRecDepth 100000 in
theorem p2_s1762_t16 : cp_tc p2_O 227 228 0 0 1244 = true := by decide +kernel
theorem p2_s1762_y16 {X : Int → Int} {LX : Nat} {σ σ0 : Nat → Int} {K0 : gm_K} {R0 : gm_R} {M0 : gm_M} (hσ : ∀ s, s < 100 → σ s = σ0 s) : ck_Hy p2_O X LX 237 p2_s1762.1.1 p2_s1762.2.2.2.2.1 p2_s1762.2.1 K0 R0 M0 (ck_Q p2_O σ0 p2_s1762.2.2.2.2.1 p2_s1762.2.1 K0 R0 M0 p2_s1762.2.2.2.2.2) σ (16, p2_s1762_C16, 0, 0, 245) := by
  refine ck_cpH (v := 1) (A := 227) (B := 228) (N := 1244) (wa := 0) (wb := 1243) (pc' := 41) p2_s1762_u p2_s1762_h hσ ⟨by decide, by decide⟩ (by decide +kernel) (fun bc bs L K R M hS => ?_) p2_s1762_g16 (fun _ h => nomatch h)
  · obtain ⟨hF, hl, -, hf, -⟩ := hS
    obtain ⟨u0, l0, g0⟩ := hl.2 0 (.inr (.inr (.inl 226))) rfl
    cases g0
    obtain ⟨u1, lv, x1, rfl, -, e1, e2, -⟩ := hl.2 1 (.inl (ck_one 0)) rfl
    have e1 : (0 : Int) ≤ x1 := e1
    have e2 : x1 ≤ (0 : Int) := e2
    have e3 : x1 = 0 := by omega
    subst e3
    have kA : (K 227).2 = 2093 := (md_kd hF md_o.1.2).2
    have kB : (K 228).2 = 1244 := (md_kd hF md_o.2.1.1).2
    refine ⟨0, 0, ⟨by omega, by omega⟩, gm_Fx_cpy hF (cp_tc_s hF p2_s1762_t16) (jj_back (K := K) hF.2.2.2.2), fun Q hx => ?_⟩
    exact cp_lp (iv := .iload_n 1) (v := 1) (ixA := 13) (ixB := 17) (jA := 1) (jB := 2) (A := 227) (B := 228) (mo := 226) (p := 16) (qA := 28) (qB := 33) (N := 1244) (offe := 21) (offb := (-22)) (by decide) (md_mo hF) (md_kd hF md_o.1.2).1 (md_kd hF md_o.2.1.1).1 (md_rf hF md_r.1.1) (md_rf hF md_r.1.2) (by decide +kernel) (by decide +kernel) (by decide +kernel) (by decide +kernel) ⟨by omega, ⟨by omega, by omega⟩, ⟨by omega, by omega⟩, by omega, by omega⟩ (fun e => absurd e (by decide)) (by decide) (by decide +kernel) l0 lv ⟨rfl, rfl⟩ ⟨gm_vr 226, l0, by simp [gm_sort]⟩ (by decide +kernel) (by decide +kernel) (by decide +kernel) (by decide) (by decide +kernel) (by decide +kernel) (cp_sg_i (iv := .iload_n 1) lv ⟨rfl, rfl⟩ (by decide +kernel)) (by decide +kernel) (by decide +kernel) (cp_sg_i (iv := .iload_n 1) lv ⟨rfl, rfl⟩ (by decide +kernel)) (by decide +kernel) (by decide +kernel) (by decide +kernel) (by decide +kernel) (by decide) (by decide) hx
theorem p2_s1762_s {X : Int → Int} {LX : Nat} : ck_Ok p2_O X LX 237 p2_s1762 := by
  refine ck_ok_st (cuts := p2_s1762_Z) p2_s1762_u p2_s1762_h p2_s1762_a (fun h hm => ?_)
  rcases List.mem_cons.mp hm with rfl | hm
  · exact ⟨by unfold p2_s1762_Z; exact List.mem_cons_self, fun σ K0 R0 M0 => p2_s1762_y16 (fun _ _ => rfl)⟩
  cases hm
set_option maxRecDepth 100000 in
/-- GlacierMail.count -/
noncomputable def p2_s1763 : ck_Sum := ((0, 0, 0), 245, [.inr (.inr (.inl 1)), .inl ((-2147483648), (-1), [])], ([], [], []), ([], []), [(.inr (some (.inl (ck_one (-1)))), 245, ([], [], []))])
set_option maxRecDepth 100000 in
theorem p2_s1763_s {X : Int → Int} {LX : Nat} : ck_Ok p2_O X LX 63 p2_s1763 := ck_ok_s (O := p2_O) (X := X) (LX := LX) (E := []) (mi := 63) (cuts := []) (f := 78) (S := p2_s1763) (lx := none) (XF := []) ⟨p2_nmu, ck_E0⟩ ck_X0 ck_l0 (by decide +kernel)
set_option maxRecDepth 100000 in
/-- GlacierMail$History.size -/
noncomputable def p2_s1764 : ck_Sum := ((0, 0, 0), 245, [.inr (.inr (.inl 42))], ([], [], []), ([], []), [(.inr (some (.inl (0, 12, []))), 245, ([], [], []))])
set_option maxRecDepth 100000 in
theorem p2_s1764_s {X : Int → Int} {LX : Nat} : ck_Ok p2_O X LX 69 p2_s1764 := ck_ok_s (O := p2_O) (X := X) (LX := LX) (E := []) (mi := 69) (cuts := []) (f := 76) (S := p2_s1764) (lx := none) (XF := []) ⟨p2_nmu, ck_E0⟩ ck_X0 ck_l0 (by decide +kernel)
set_option maxRecDepth 100000 in
/-- GlacierMail$Rows.size -/
noncomputable def p2_s1767 : ck_Sum := ((0, 0, 0), 245, [.inr (.inr (.inl 14))], ([], [], []), ([], []), [(.inr (some (.inl (0, 24, []))), 245, ([], [], []))])
set_option maxRecDepth 100000 in
theorem p2_s1767_s {X : Int → Int} {LX : Nat} : ck_Ok p2_O X LX 9 p2_s1767 := ck_ok_s (O := p2_O) (X := X) (LX := LX) (E := []) (mi := 9) (cuts := []) (f := 76) (S := p2_s1767) (lx := none) (XF := []) ⟨p2_nmu, ck_E0⟩ ck_X0 ck_l0 (by decide +kernel)
set_option maxRecDepth 100000 in
/-- GlacierMail.lawLines -/
noncomputable def p2_s1769 : ck_Sum := ((0, 0, 0), 245, [.inr (.inr (.inl 1))], ([], [(3, 8, 0)], []), ([], []), [(.inr (some (.inl (ck_one (-1)))), 245, ([], [], []))])
set_option maxRecDepth 100000 in
theorem p2_s1769_s {X : Int → Int} {LX : Nat} : ck_Ok p2_O X LX 64 p2_s1769 := ck_ok_s (O := p2_O) (X := X) (LX := LX) (E := []) (mi := 64) (cuts := []) (f := 84) (S := p2_s1769) (lx := none) (XF := []) ⟨p2_nmu, ck_E0⟩ ck_X0 ck_l0 (by decide +kernel)
set_option maxRecDepth 100000 in
/-- GlacierMail.count -/
noncomputable def p2_s1770 : ck_Sum := ((1, 0, 0), 245, [.inr (.inr (.inl 1)), .inl (0, 9, [])], ([], [(3, 8, 0)], [(3, 6, 6, (0, 299, [(10, 0)]))]), ([], []), [(.inr (some (.inl (0, 2147483647, []))), 245, ([], [], [])), (.inr (some (.inl ((-2147483648), (-1), []))), 245, ([], [], []))])
set_option maxRecDepth 100000 in
theorem p2_s1770_s {X : Int → Int} {LX : Nat} : ck_Ok p2_O X LX 63 p2_s1770 := ck_ok_s (O := p2_O) (X := X) (LX := LX) (E := [(64, [p2_s1769]), (9, [p2_s1441, p2_s139, p2_s331, p2_s320, p2_s135])]) (mi := 63) (cuts := []) (f := 84) (S := p2_s1770) (lx := none) (XF := []) ⟨p2_nmu, ck_E1 (ck_S1 p2_s1769_s ck_S0) (ck_E1 (ck_S1 p2_s1441_s (ck_S1 p2_s139_s (ck_S1 p2_s331_s (ck_S1 p2_s320_s (ck_S1 p2_s135_s ck_S0))))) ck_E0)⟩ ck_X0 ck_l0 (by decide +kernel)
set_option maxRecDepth 100000 in
/-- GlacierMailModel.in -/
noncomputable def p2_s1771 : ck_Sum := ((0, 0, 0), 245, [.inl ((-2147483648), (-1), []), .inl (ck_one 0), .inl (ck_one 13)], ([], [], []), ([], []), [(.inr (some (.inl (ck_one 0))), 245, ([], [], []))])
set_option maxRecDepth 100000 in
theorem p2_s1771_s {X : Int → Int} {LX : Nat} : ck_Ok p2_O X LX 286 p2_s1771 := ck_ok_s (O := p2_O) (X := X) (LX := LX) (E := []) (mi := 286) (cuts := []) (f := 80) (S := p2_s1771) (lx := none) (XF := []) ⟨p2_nmu, ck_E0⟩ ck_X0 ck_l0 (by decide +kernel)
set_option maxRecDepth 100000 in
/-- GlacierMailModel.count -/
noncomputable def p2_s1772 : ck_Sum := ((1, 0, 0), 245, [.inr (.inr (.inl 226)), .inl ((-2147483648), (-1), [])], ([], [], []), ([(226, 0, 0)], []), [(.inr (some (.inl (ck_one (-1)))), 245, ([], [], [(226, 0, 0, ck_one 0)]))])
set_option maxRecDepth 100000 in
theorem p2_s1772_s {X : Int → Int} {LX : Nat} : ck_Ok p2_O X LX 368 p2_s1772 := ck_ok_s (O := p2_O) (X := X) (LX := LX) (E := [(286, [p2_s1771])]) (mi := 368) (cuts := []) (f := 98) (S := p2_s1772) (lx := none) (XF := []) ⟨p2_nmu, ck_E1 (ck_S1 p2_s1771_s ck_S0) ck_E0⟩ ck_X0 ck_l0 (by decide +kernel)
set_option maxRecDepth 100000 in
/-- GlacierMailModel.in -/
noncomputable def p2_s1773 : ck_Sum := ((0, 0, 0), 245, [.inl (18, 2147483647, []), .inl (ck_one 0), .inl (ck_one 13)], ([], [], []), ([], []), [(.inr (some (.inl (ck_one 0))), 245, ([], [], []))])
set_option maxRecDepth 100000 in
theorem p2_s1773_s {X : Int → Int} {LX : Nat} : ck_Ok p2_O X LX 286 p2_s1773 := ck_ok_s (O := p2_O) (X := X) (LX := LX) (E := []) (mi := 286) (cuts := []) (f := 86) (S := p2_s1773) (lx := none) (XF := []) ⟨p2_nmu, ck_E0⟩ ck_X0 ck_l0 (by decide +kernel)
set_option maxRecDepth 100000 in
/-- GlacierMailModel.in -/
noncomputable def p2_s1774 : ck_Sum := ((0, 0, 0), 245, [.inl (ck_one 13), .inl (ck_one 0), .inl (ck_one 13)], ([], [], []), ([], []), [(.inr (some (.inl (ck_one 1))), 245, ([], [], []))])
set_option maxRecDepth 100000 in
theorem p2_s1774_s {X : Int → Int} {LX : Nat} : ck_Ok p2_O X LX 286 p2_s1774 := ck_ok_s (O := p2_O) (X := X) (LX := LX) (E := []) (mi := 286) (cuts := []) (f := 88) (S := p2_s1774) (lx := none) (XF := []) ⟨p2_nmu, ck_E0⟩ ck_X0 ck_l0 (by decide +kernel)
set_option maxRecDepth 100000 in
/-- GlacierMailModel.in -/
noncomputable def p2_s1775 : ck_Sum := ((0, 0, 0), 245, [.inl (ck_one 12), .inl (ck_one 0), .inl (ck_one 13)], ([], [], []), ([], []), [(.inr (some (.inl (ck_one 1))), 245, ([], [], []))])
set_option maxRecDepth 100000 in
theorem p2_s1775_s {X : Int → Int} {LX : Nat} : ck_Ok p2_O X LX 286 p2_s1775 := ck_ok_s (O := p2_O) (X := X) (LX := LX) (E := []) (mi := 286) (cuts := []) (f := 88) (S := p2_s1775) (lx := none) (XF := []) ⟨p2_nmu, ck_E0⟩ ck_X0 ck_l0 (by decide +kernel)
set_option maxRecDepth 100000 in
/-- GlacierMailModel.in -/
noncomputable def p2_s1776 : ck_Sum := ((0, 0, 0), 245, [.inl (ck_one 11), .inl (ck_one 0), .inl (ck_one 13)], ([], [], []), ([], []), [(.inr (some (.inl (ck_one 1))), 245, ([], [], []))])
set_option maxRecDepth 100000 in
theorem p2_s1776_s {X : Int → Int} {LX : Nat} : ck_Ok p2_O X LX 286 p2_s1776 := ck_ok_s (O := p2_O) (X := X) (LX := LX) (E := []) (mi := 286) (cuts := []) (f := 88) (S := p2_s1776) (lx := none) (XF := []) ⟨p2_nmu, ck_E0⟩ ck_X0 ck_l0 (by decide +kernel)
set_option maxRecDepth 100000 in
/-- GlacierMailModel.in -/
noncomputable def p2_s1777 : ck_Sum := ((0, 0, 0), 245, [.inl (ck_one 10), .inl (ck_one 0), .inl (ck_one 13)], ([], [], []), ([], []), [(.inr (some (.inl (ck_one 1))), 245, ([], [], []))])
set_option maxRecDepth 100000 in
theorem p2_s1777_s {X : Int → Int} {LX : Nat} : ck_Ok p2_O X LX 286 p2_s1777 := ck_ok_s (O := p2_O) (X := X) (LX := LX) (E := []) (mi := 286) (cuts := []) (f := 88) (S := p2_s1777) (lx := none) (XF := []) ⟨p2_nmu, ck_E0⟩ ck_X0 ck_l0 (by decide +kernel)
set_option maxRecDepth 100000 in
/-- GlacierMailModel.in -/
noncomputable def p2_s1779 : ck_Sum := ((0, 0, 0), 245, [.inl (0, 7, []), .inl (ck_one 0), .inl (ck_one 13)], ([], [], []), ([], []), [(.inr (some (.inl (ck_one 1))), 245, ([], [], []))])
set_option maxRecDepth 100000 in
theorem p2_s1779_s {X : Int → Int} {LX : Nat} : ck_Ok p2_O X LX 286 p2_s1779 := ck_ok_s (O := p2_O) (X := X) (LX := LX) (E := []) (mi := 286) (cuts := []) (f := 88) (S := p2_s1779) (lx := none) (XF := []) ⟨p2_nmu, ck_E0⟩ ck_X0 ck_l0 (by decide +kernel)
set_option maxRecDepth 100000 in
/-- GlacierMailModel.in -/
noncomputable def p2_s1780 : ck_Sum := ((0, 0, 0), 245, [.inl (ck_one 9), .inl (ck_one 0), .inl (ck_one 13)], ([], [], []), ([], []), [(.inr (some (.inl (ck_one 1))), 245, ([], [], []))])
set_option maxRecDepth 100000 in
theorem p2_s1780_s {X : Int → Int} {LX : Nat} : ck_Ok p2_O X LX 286 p2_s1780 := ck_ok_s (O := p2_O) (X := X) (LX := LX) (E := []) (mi := 286) (cuts := []) (f := 88) (S := p2_s1780) (lx := none) (XF := []) ⟨p2_nmu, ck_E0⟩ ck_X0 ck_l0 (by decide +kernel)
set_option maxRecDepth 100000 in
/-- GlacierMailModel.count -/
noncomputable def p2_s1781 : ck_Sum := ((1, 0, 0), 245, [.inr (.inr (.inl 226)), .inl (0, 9, [])], ([], [], [(227, 9, 9, (0, 299, [(11, 0)]))]), ([(226, 0, 0)], []), [(.inr (some (.inl (0, 299, []))), 245, ([], [], [(226, 0, 0, ck_one 0)])), (.inr (some (.inl (ck_one (-1)))), 245, ([], [], [(227, 8, 8, ck_one 0), (226, 0, 0, ck_one 0)]))])
set_option maxRecDepth 100000 in
theorem p2_s1781_s {X : Int → Int} {LX : Nat} : ck_Ok p2_O X LX 368 p2_s1781 := ck_ok_s (O := p2_O) (X := X) (LX := LX) (E := [(286, [p2_s1779, p2_s1780])]) (mi := 368) (cuts := []) (f := 108) (S := p2_s1781) (lx := none) (XF := []) ⟨p2_nmu, ck_E1 (ck_S1 p2_s1779_s (ck_S1 p2_s1780_s ck_S0)) ck_E0⟩ ck_X0 ck_l0 (by decide +kernel)
end
/-! 78r86a00.sl -/
section
/-! EVERY CALL OF THE CLASS ENDS, under a law (laid by wip/am/p2l.py). -/
set_option maxRecDepth 100000 in
/-- GlacierMail.putNumber -/
noncomputable def pl_s0 : ck_Sum := ((0, 0, 0), 249, [.inr (.inr (.inl 1)), .inl ((-2147483648), 2147483647, [])], ([], [], [(1, 1, 1, (0, 380, [(6, 0)]))]), ([(1, 1, 1), (2, 0, 383)], []), [(.inr none, 249, ([], [], [(1, 1, 1, (4, 384, [(6, 4)]))]))])
set_option maxRecDepth 100000 in
theorem pl_s0_s {X : Int → Int} {LX : Nat} : ck_Ok p2_OL X LX 20 pl_s0 := ck_ok_s (O := p2_OL) (X := X) (LX := LX) (E := []) (mi := 20) (cuts := []) (f := 280) (S := pl_s0) (lx := none) (XF := []) ⟨pl_nmu, ck_E0⟩ ck_X0 ck_l0 (by decide +kernel)
set_option maxRecDepth 100000 in
/-- GlacierMail.putNumber -/
noncomputable def pl_s1 : ck_Sum := ((0, 0, 0), 249, [.inr (.inr (.inl 1)), .inl ((-2147483648), 2147483647, [])], ([], [], [(1, 1, 1, (4, 384, [(6, 0)]))]), ([(1, 1, 1), (2, 4, 387)], []), [(.inr none, 249, ([], [], [(1, 1, 1, (8, 388, [(6, 4)]))]))])
set_option maxRecDepth 100000 in
theorem pl_s1_s {X : Int → Int} {LX : Nat} : ck_Ok p2_OL X LX 20 pl_s1 := ck_ok_s (O := p2_OL) (X := X) (LX := LX) (E := []) (mi := 20) (cuts := []) (f := 280) (S := pl_s1) (lx := none) (XF := []) ⟨pl_nmu, ck_E0⟩ ck_X0 ck_l0 (by decide +kernel)
set_option maxRecDepth 100000 in
/-- GlacierMail.putNumber -/
noncomputable def pl_s2 : ck_Sum := ((0, 0, 0), 249, [.inr (.inr (.inl 1)), .inl ((-2147483648), 2147483647, [])], ([], [], [(1, 1, 1, (8, 388, [(6, 0)]))]), ([(1, 1, 1), (2, 8, 391)], []), [(.inr none, 249, ([], [], [(1, 1, 1, (12, 392, [(6, 4)]))]))])
set_option maxRecDepth 100000 in
theorem pl_s2_s {X : Int → Int} {LX : Nat} : ck_Ok p2_OL X LX 20 pl_s2 := ck_ok_s (O := p2_OL) (X := X) (LX := LX) (E := []) (mi := 20) (cuts := []) (f := 280) (S := pl_s2) (lx := none) (XF := []) ⟨pl_nmu, ck_E0⟩ ck_X0 ck_l0 (by decide +kernel)
set_option maxRecDepth 100000 in
/-- GlacierMail.putNumber -/
noncomputable def pl_s3 : ck_Sum := ((0, 0, 0), 249, [.inr (.inr (.inl 1)), .inl ((-2147483648), 2147483647, [])], ([], [], [(1, 1, 1, (12, 392, [(6, 0)]))]), ([(1, 1, 1), (2, 12, 395)], []), [(.inr none, 249, ([], [], [(1, 1, 1, (16, 396, [(6, 4)]))]))])
set_option maxRecDepth 100000 in
theorem pl_s3_s {X : Int → Int} {LX : Nat} : ck_Ok p2_OL X LX 20 pl_s3 := ck_ok_s (O := p2_OL) (X := X) (LX := LX) (E := []) (mi := 20) (cuts := []) (f := 280) (S := pl_s3) (lx := none) (XF := []) ⟨pl_nmu, ck_E0⟩ ck_X0 ck_l0 (by decide +kernel)
set_option maxRecDepth 100000 in
/-- GlacierMail.putNumber -/
noncomputable def pl_s4 : ck_Sum := ((0, 0, 0), 249, [.inr (.inr (.inl 1)), .inl ((-2147483648), 2147483647, [])], ([], [], [(1, 1, 1, (16, 396, [(6, 0)]))]), ([(1, 1, 1), (2, 16, 399)], []), [(.inr none, 249, ([], [], [(1, 1, 1, (20, 400, [(6, 4)]))]))])
set_option maxRecDepth 100000 in
theorem pl_s4_s {X : Int → Int} {LX : Nat} : ck_Ok p2_OL X LX 20 pl_s4 := ck_ok_s (O := p2_OL) (X := X) (LX := LX) (E := []) (mi := 20) (cuts := []) (f := 280) (S := pl_s4) (lx := none) (XF := []) ⟨pl_nmu, ck_E0⟩ ck_X0 ck_l0 (by decide +kernel)
set_option maxRecDepth 100000 in
/-- GlacierMail.feed -/
noncomputable def pl_s5 : ck_Sum := ((1, 0, 0), 249, [.inr (.inr (.inl 1)), .inl ((-2147483648), 2147483647, []), .inl ((-2147483648), 2147483647, []), .inl ((-2147483648), 2147483647, []), .inl ((-2147483648), 2147483647, []), .inl ((-2147483648), 2147483647, [])], ([], [], [(1, 1, 1, (0, 400, [(6, 0)]))]), ([(1, 1, 1), (2, 0, 399)], []), [(.inr (some (.inl (20, 400, [(6, 20)]))), 249, ([], [], [(1, 1, 1, (20, 400, [(6, 20)]))])), (.inr (some (.inl (ck_one (-1)))), 249, ([], [], [(1, 1, 1, (381, 400, [(6, 0)]))]))])
set_option maxRecDepth 100000 in
theorem pl_s5_s {X : Int → Int} {LX : Nat} : ck_Ok p2_OL X LX 19 pl_s5 := ck_ok_s (O := p2_OL) (X := X) (LX := LX) (E := [(20, [pl_s0, pl_s1, pl_s2, pl_s3, pl_s4])]) (mi := 19) (cuts := []) (f := 118) (S := pl_s5) (lx := none) (XF := []) ⟨pl_nmu, ck_E1 (ck_S1 pl_s0_s (ck_S1 pl_s1_s (ck_S1 pl_s2_s (ck_S1 pl_s3_s (ck_S1 pl_s4_s ck_S0))))) ck_E0⟩ ck_X0 ck_l0 (by decide +kernel)
set_option maxRecDepth 100000 in
/-- GlacierMail$Rows.copyFrom -/
noncomputable def pl_s7 : ck_Sum := ((1, 0, 0), 249, [.inr (.inr (.inl 17)), .inr (.inr (.inl 4))], ([], [], []), ([(17, 3, 3), (18, 0, 55)], []), [(.inr none, 249, ([], [], []))])
set_option maxRecDepth 100000 in
theorem pl_s7_s {X : Int → Int} {LX : Nat} : ck_Ok p2_OL X LX 58 pl_s7 := ck_ok_s (O := p2_OL) (X := X) (LX := LX) (E := []) (mi := 58) (cuts := []) (f := 114) (S := pl_s7) (lx := none) (XF := []) ⟨pl_nmu, ck_E0⟩ ck_X0 ck_l0 (by decide +kernel)
set_option maxRecDepth 100000 in
/-- GlacierMail$Rows.copyFrom -/
noncomputable def pl_s8 : ck_Sum := ((1, 0, 0), 249, [.inr (.inr (.inl 19)), .inr (.inr (.inl 6))], ([], [], []), ([(19, 3, 3), (20, 0, 23)], []), [(.inr none, 249, ([], [], []))])
set_option maxRecDepth 100000 in
theorem pl_s8_s {X : Int → Int} {LX : Nat} : ck_Ok p2_OL X LX 58 pl_s8 := ck_ok_s (O := p2_OL) (X := X) (LX := LX) (E := []) (mi := 58) (cuts := []) (f := 114) (S := pl_s8) (lx := none) (XF := []) ⟨pl_nmu, ck_E0⟩ ck_X0 ck_l0 (by decide +kernel)
set_option maxRecDepth 100000 in
/-- GlacierMail$Rows.copyFrom -/
noncomputable def pl_s9 : ck_Sum := ((1, 0, 0), 249, [.inr (.inr (.inl 21)), .inr (.inr (.inl 8))], ([], [], []), ([(21, 3, 3), (22, 0, 23)], []), [(.inr none, 249, ([], [], []))])
set_option maxRecDepth 100000 in
theorem pl_s9_s {X : Int → Int} {LX : Nat} : ck_Ok p2_OL X LX 58 pl_s9 := ck_ok_s (O := p2_OL) (X := X) (LX := LX) (E := []) (mi := 58) (cuts := []) (f := 114) (S := pl_s9) (lx := none) (XF := []) ⟨pl_nmu, ck_E0⟩ ck_X0 ck_l0 (by decide +kernel)
set_option maxRecDepth 100000 in
/-- GlacierMail$Rows.copyFrom -/
noncomputable def pl_s10 : ck_Sum := ((1, 0, 0), 249, [.inr (.inr (.inl 23)), .inr (.inr (.inl 10))], ([], [], []), ([(23, 3, 3), (24, 0, 167)], []), [(.inr none, 249, ([], [], []))])
set_option maxRecDepth 100000 in
theorem pl_s10_s {X : Int → Int} {LX : Nat} : ck_Ok p2_OL X LX 58 pl_s10 := ck_ok_s (O := p2_OL) (X := X) (LX := LX) (E := []) (mi := 58) (cuts := []) (f := 114) (S := pl_s10) (lx := none) (XF := []) ⟨pl_nmu, ck_E0⟩ ck_X0 ck_l0 (by decide +kernel)
set_option maxRecDepth 100000 in
/-- GlacierMail$Rows.copyFrom -/
noncomputable def pl_s11 : ck_Sum := ((1, 0, 0), 249, [.inr (.inr (.inl 25)), .inr (.inr (.inl 12))], ([], [], []), ([(25, 3, 3), (26, 0, 35)], []), [(.inr none, 249, ([], [], []))])
set_option maxRecDepth 100000 in
theorem pl_s11_s {X : Int → Int} {LX : Nat} : ck_Ok p2_OL X LX 58 pl_s11 := ck_ok_s (O := p2_OL) (X := X) (LX := LX) (E := []) (mi := 58) (cuts := []) (f := 114) (S := pl_s11) (lx := none) (XF := []) ⟨pl_nmu, ck_E0⟩ ck_X0 ck_l0 (by decide +kernel)
set_option maxRecDepth 100000 in
/-- GlacierMail$Rows.copyFrom -/
noncomputable def pl_s12 : ck_Sum := ((1, 0, 0), 249, [.inr (.inr (.inl 27)), .inr (.inr (.inl 14))], ([], [], []), ([(27, 3, 3), (28, 0, 71)], []), [(.inr none, 249, ([], [], []))])
set_option maxRecDepth 100000 in
theorem pl_s12_s {X : Int → Int} {LX : Nat} : ck_Ok p2_OL X LX 58 pl_s12 := ck_ok_s (O := p2_OL) (X := X) (LX := LX) (E := []) (mi := 58) (cuts := []) (f := 114) (S := pl_s12) (lx := none) (XF := []) ⟨pl_nmu, ck_E0⟩ ck_X0 ck_l0 (by decide +kernel)
set_option maxRecDepth 100000 in
/-- GlacierMail$State.copyFrom -/
noncomputable def pl_s13 : ck_Sum := ((2, 0, 0), 249, [.inr (.inr (.inl 16)), .inr (.inr (.inl 3))], ([], [(3, 8, 246), (16, 8, 100016)], [(3, 6, 6, (0, 299, [(10, 0)]))]), (zl0, [(16, 8)]), [(.inr none, 249, ([], [(16, 8, 246)], [(16, 6, 6, (0, 299, [(10, 0)]))]))])
set_option maxRecDepth 100000 in
theorem pl_s13_s {X : Int → Int} {LX : Nat} : ck_Ok p2_OL X LX 57 pl_s13 := ck_ok_s (O := p2_OL) (X := X) (LX := LX) (E := [(58, [pl_s7, pl_s8, pl_s9, pl_s10, pl_s11, pl_s12])]) (mi := 57) (cuts := []) (f := 204) (S := pl_s13) (lx := none) (XF := []) ⟨pl_nmu, ck_E1 (ck_S1 pl_s7_s (ck_S1 pl_s8_s (ck_S1 pl_s9_s (ck_S1 pl_s10_s (ck_S1 pl_s11_s (ck_S1 pl_s12_s ck_S0)))))) ck_E0⟩ ck_X0 ck_l0 (by decide +kernel)
set_option maxRecDepth 100000 in
/-- GlacierMail$Rows.copyFrom -/
noncomputable def pl_s14 : ck_Sum := ((1, 0, 0), 249, [.inr (.inr (.inl 4)), .inr (.inr (.inl 17))], ([], [], []), ([(4, 3, 3), (5, 0, 55)], []), [(.inr none, 249, ([], [], []))])
set_option maxRecDepth 100000 in
theorem pl_s14_s {X : Int → Int} {LX : Nat} : ck_Ok p2_OL X LX 58 pl_s14 := ck_ok_s (O := p2_OL) (X := X) (LX := LX) (E := []) (mi := 58) (cuts := []) (f := 114) (S := pl_s14) (lx := none) (XF := []) ⟨pl_nmu, ck_E0⟩ ck_X0 ck_l0 (by decide +kernel)
set_option maxRecDepth 100000 in
/-- GlacierMail$Rows.copyFrom -/
noncomputable def pl_s15 : ck_Sum := ((1, 0, 0), 249, [.inr (.inr (.inl 6)), .inr (.inr (.inl 19))], ([], [], []), ([(6, 3, 3), (7, 0, 23)], []), [(.inr none, 249, ([], [], []))])
set_option maxRecDepth 100000 in
theorem pl_s15_s {X : Int → Int} {LX : Nat} : ck_Ok p2_OL X LX 58 pl_s15 := ck_ok_s (O := p2_OL) (X := X) (LX := LX) (E := []) (mi := 58) (cuts := []) (f := 114) (S := pl_s15) (lx := none) (XF := []) ⟨pl_nmu, ck_E0⟩ ck_X0 ck_l0 (by decide +kernel)
set_option maxRecDepth 100000 in
/-- GlacierMail$Rows.copyFrom -/
noncomputable def pl_s16 : ck_Sum := ((1, 0, 0), 249, [.inr (.inr (.inl 8)), .inr (.inr (.inl 21))], ([], [], []), ([(8, 3, 3), (9, 0, 23)], []), [(.inr none, 249, ([], [], []))])
set_option maxRecDepth 100000 in
theorem pl_s16_s {X : Int → Int} {LX : Nat} : ck_Ok p2_OL X LX 58 pl_s16 := ck_ok_s (O := p2_OL) (X := X) (LX := LX) (E := []) (mi := 58) (cuts := []) (f := 114) (S := pl_s16) (lx := none) (XF := []) ⟨pl_nmu, ck_E0⟩ ck_X0 ck_l0 (by decide +kernel)
set_option maxRecDepth 100000 in
/-- GlacierMail$Rows.copyFrom -/
noncomputable def pl_s17 : ck_Sum := ((1, 0, 0), 249, [.inr (.inr (.inl 10)), .inr (.inr (.inl 23))], ([], [], []), ([(10, 3, 3), (11, 0, 167)], []), [(.inr none, 249, ([], [], []))])
set_option maxRecDepth 100000 in
theorem pl_s17_s {X : Int → Int} {LX : Nat} : ck_Ok p2_OL X LX 58 pl_s17 := ck_ok_s (O := p2_OL) (X := X) (LX := LX) (E := []) (mi := 58) (cuts := []) (f := 114) (S := pl_s17) (lx := none) (XF := []) ⟨pl_nmu, ck_E0⟩ ck_X0 ck_l0 (by decide +kernel)
set_option maxRecDepth 100000 in
/-- GlacierMail$Rows.copyFrom -/
noncomputable def pl_s18 : ck_Sum := ((1, 0, 0), 249, [.inr (.inr (.inl 12)), .inr (.inr (.inl 25))], ([], [], []), ([(12, 3, 3), (13, 0, 35)], []), [(.inr none, 249, ([], [], []))])
set_option maxRecDepth 100000 in
theorem pl_s18_s {X : Int → Int} {LX : Nat} : ck_Ok p2_OL X LX 58 pl_s18 := ck_ok_s (O := p2_OL) (X := X) (LX := LX) (E := []) (mi := 58) (cuts := []) (f := 114) (S := pl_s18) (lx := none) (XF := []) ⟨pl_nmu, ck_E0⟩ ck_X0 ck_l0 (by decide +kernel)
set_option maxRecDepth 100000 in
/-- GlacierMail$Rows.copyFrom -/
noncomputable def pl_s19 : ck_Sum := ((1, 0, 0), 249, [.inr (.inr (.inl 14)), .inr (.inr (.inl 27))], ([], [], []), ([(14, 3, 3), (15, 0, 71)], []), [(.inr none, 249, ([], [], []))])
set_option maxRecDepth 100000 in
theorem pl_s19_s {X : Int → Int} {LX : Nat} : ck_Ok p2_OL X LX 58 pl_s19 := ck_ok_s (O := p2_OL) (X := X) (LX := LX) (E := []) (mi := 58) (cuts := []) (f := 114) (S := pl_s19) (lx := none) (XF := []) ⟨pl_nmu, ck_E0⟩ ck_X0 ck_l0 (by decide +kernel)
set_option maxRecDepth 100000 in
/-- GlacierMail$State.copyFrom -/
noncomputable def pl_s20 : ck_Sum := ((2, 0, 0), 249, [.inr (.inr (.inl 3)), .inr (.inr (.inl 16))], ([], [(3, 8, 246), (16, 8, 246)], []), (zl1, [(3, 8)]), [(.inr none, 249, ([], [(3, 8, 246)], []))])
set_option maxRecDepth 100000 in
theorem pl_s20_s {X : Int → Int} {LX : Nat} : ck_Ok p2_OL X LX 57 pl_s20 := ck_ok_s (O := p2_OL) (X := X) (LX := LX) (E := [(58, [pl_s14, pl_s15, pl_s16, pl_s17, pl_s18, pl_s19])]) (mi := 57) (cuts := []) (f := 204) (S := pl_s20) (lx := none) (XF := []) ⟨pl_nmu, ck_E1 (ck_S1 pl_s14_s (ck_S1 pl_s15_s (ck_S1 pl_s16_s (ck_S1 pl_s17_s (ck_S1 pl_s18_s (ck_S1 pl_s19_s ck_S0)))))) ck_E0⟩ ck_X0 ck_l0 (by decide +kernel)
set_option maxRecDepth 100000 in
/-- GlacierMail$ValleyReader.clear -/
noncomputable def pl_s21 : ck_Sum := ((0, 0, 0), 249, [.inr (.inr (.inl 213))], ([], [], []), ([], []), [(.inr none, 249, ([], [], []))])
set_option maxRecDepth 100000 in
theorem pl_s21_s {X : Int → Int} {LX : Nat} : ck_Ok p2_OL X LX 74 pl_s21 := ck_ok_s (O := p2_OL) (X := X) (LX := LX) (E := []) (mi := 74) (cuts := []) (f := 72) (S := pl_s21) (lx := none) (XF := []) ⟨pl_nmu, ck_E0⟩ ck_X0 ck_l0 (by decide +kernel)
set_option maxRecDepth 100000 in
/-- GlacierMail$Words.isSmall -/
noncomputable def pl_s22 : ck_Sum := ((0, 0, 0), 249, [.inl ((-128), 127, [])], ([], [], []), ([], []), [(.inr (some (.inl (ck_one 0))), 249, ([], [], [])), (.inr (some (.inl (ck_one 1))), 249, ([], [], []))])
set_option maxRecDepth 100000 in
theorem pl_s22_s {X : Int → Int} {LX : Nat} : ck_Ok p2_OL X LX 77 pl_s22 := ck_ok_s (O := p2_OL) (X := X) (LX := LX) (E := []) (mi := 77) (cuts := []) (f := 88) (S := pl_s22) (lx := none) (XF := []) ⟨pl_nmu, ck_E0⟩ ck_X0 ck_l0 (by decide +kernel)
set_option maxRecDepth 100000 in
/-- GlacierMail$Words.isDigit -/
noncomputable def pl_s23 : ck_Sum := ((0, 0, 0), 249, [.inl ((-128), 127, [])], ([], [], []), ([], []), [(.inr (some (.inl (ck_one 0))), 249, ([], [], [])), (.inr (some (.inl (ck_one 1))), 249, ([], [], []))])
set_option maxRecDepth 100000 in
theorem pl_s23_s {X : Int → Int} {LX : Nat} : ck_Ok p2_OL X LX 78 pl_s23 := ck_ok_s (O := p2_OL) (X := X) (LX := LX) (E := []) (mi := 78) (cuts := []) (f := 88) (S := pl_s23) (lx := none) (XF := []) ⟨pl_nmu, ck_E0⟩ ck_X0 ck_l0 (by decide +kernel)
set_option maxRecDepth 100000 in
/-- GlacierMail$Words.next -/
noncomputable def pl_s24 : ck_Sum := ((1, 0, 0), 249, [.inr (.inr (.inl 214))], ([], [], [(214, 3, 3, (0, 400, [(12, 0)]))]), ([(214, 3, 4), (214, 6, 7)], []), [(.inr none, 249, ([], [], [(214, 3, 3, (0, 400, [(1000012, 0)]))]))])
set_option maxRecDepth 100000 in
theorem pl_s24_s {X : Int → Int} {LX : Nat} : ck_Ok p2_OL X LX 76 pl_s24 := ck_ok_s (O := p2_OL) (X := X) (LX := LX) (E := [(77, [pl_s22]), (78, [pl_s23])]) (mi := 76) (cuts := [(0, [some (.inr (.inr (.inl 214))), none], ([], [], [(214, 3, 3, (0, 400, [(1000012, 0)]))]), 100, .inr (214, 3), true), (160, [some (.inr (.inr (.inl 214))), none], ([], [], [(214, 6, 6, ck_one 258), (214, 2, 2, (1, 400, [])), (214, 3, 3, (0, 400, [(1000100, 0), (1000012, 0)])), (214, 4, 4, (0, 400, [(100, 0)]))]), 300, .inr (214, 3), true), (94, [some (.inr (.inr (.inl 214))), none], ([], [], [(214, 6, 6, ck_one 257), (214, 2, 2, (1, 400, [])), (214, 3, 3, (0, 400, [(1000100, 0), (1000012, 0)])), (214, 7, 7, ck_one (-1)), (214, 4, 4, (0, 400, [(100, 0), (1000012, 0)]))]), 500, .inr (214, 3), true)]) (f := 562) (S := pl_s24) (lx := none) (XF := []) ⟨pl_nmu, ck_E1 (ck_S1 pl_s22_s ck_S0) (ck_E1 (ck_S1 pl_s23_s ck_S0) ck_E0)⟩ ck_X0 ck_l0 (by decide +kernel)
set_option maxRecDepth 100000 in
/-- GlacierMail$Words.start -/
noncomputable def pl_s25 : ck_Sum := ((2, 0, 0), 249, [.inr (.inr (.inl 214)), .inl (0, 400, [])], ([], [], [(214, 3, 3, (0, 400, [(12, 0)]))]), ([(214, 2, 7)], []), [(.inr none, 249, ([], [], [(214, 5, 5, ck_one (-1))]))])
set_option maxRecDepth 100000 in
theorem pl_s25_s {X : Int → Int} {LX : Nat} : ck_Ok p2_OL X LX 75 pl_s25 := ck_ok_s (O := p2_OL) (X := X) (LX := LX) (E := [(76, [pl_s24])]) (mi := 75) (cuts := []) (f := 102) (S := pl_s25) (lx := none) (XF := []) ⟨pl_nmu, ck_E1 (ck_S1 pl_s24_s ck_S0) ck_E0⟩ ck_X0 ck_l0 (by decide +kernel)
set_option maxRecDepth 100000 in
/-- GlacierMail$Words.refuse -/
noncomputable def pl_s26 : ck_Sum := ((0, 0, 0), 249, [.inr (.inr (.inl 214))], ([], [], []), ([(214, 5, 5)], []), [(.inr (some (.inl (ck_one 0))), 249, ([], [], [(214, 5, 5, (0, 400, []))]))])
set_option maxRecDepth 100000 in
theorem pl_s26_s {X : Int → Int} {LX : Nat} : ck_Ok p2_OL X LX 93 pl_s26 := ck_ok_s (O := p2_OL) (X := X) (LX := LX) (E := []) (mi := 93) (cuts := []) (f := 90) (S := pl_s26) (lx := none) (XF := []) ⟨pl_nmu, ck_E0⟩ ck_X0 ck_l0 (by decide +kernel)
set_option maxRecDepth 100000 in
/-- GlacierMail$Words.wrong -/
noncomputable def pl_s27 : ck_Sum := ((0, 0, 0), 249, [.inr (.inr (.inl 214))], ([], [], []), ([], []), zl217)
set_option maxRecDepth 100000 in
theorem pl_s27_s {X : Int → Int} {LX : Nat} : ck_Ok p2_OL X LX 121 pl_s27 := ck_ok_s (O := p2_OL) (X := X) (LX := LX) (E := []) (mi := 121) (cuts := []) (f := 76) (S := pl_s27) (lx := none) (XF := []) ⟨pl_nmu, ck_E0⟩ ck_X0 ck_l0 (by decide +kernel)
set_option maxRecDepth 100000 in
/-- GlacierMail$Words.isWord -/
noncomputable def pl_s28 : ck_Sum := ((6, 0, 0), 249, [.inr (.inr (.inl 214)), .inr (.inr (.inr 17))], ([], [], [(214, 3, 3, (0, 400, [(12, 0)]))]), ([], []), zl218)
set_option maxRecDepth 100000 in
theorem pl_s28_s {X : Int → Int} {LX : Nat} : ck_Ok p2_OL X LX 81 pl_s28 := ck_ok_s (O := p2_OL) (X := X) (LX := LX) (E := []) (mi := 81) (cuts := []) (f := 360) (S := pl_s28) (lx := none) (XF := []) ⟨pl_nmu, ck_E0⟩ ck_X0 ck_l0 (by decide +kernel)
set_option maxRecDepth 100000 in
/-- GlacierMail$Words.isWord -/
noncomputable def pl_s29 : ck_Sum := ((6, 0, 0), 249, [.inr (.inr (.inl 214)), .inr (.inr (.inr 18))], ([], [], [(214, 3, 3, (0, 400, [(12, 0)]))]), ([], []), zl219)
set_option maxRecDepth 100000 in
theorem pl_s29_s {X : Int → Int} {LX : Nat} : ck_Ok p2_OL X LX 81 pl_s29 := ck_ok_s (O := p2_OL) (X := X) (LX := LX) (E := []) (mi := 81) (cuts := []) (f := 310) (S := pl_s29) (lx := none) (XF := []) ⟨pl_nmu, ck_E0⟩ ck_X0 ck_l0 (by decide +kernel)
set_option maxRecDepth 100000 in
/-- GlacierMail$Words.isWord -/
noncomputable def pl_s30 : ck_Sum := ((6, 0, 0), 249, [.inr (.inr (.inl 214)), .inr (.inr (.inr 19))], ([], [], [(214, 3, 3, (0, 400, [(12, 0)]))]), ([], []), [(.inr (some (.inl (ck_one 0))), 249, ([], [], [])), (.inr (some (.inl (ck_one 1))), 249, ([], [], zl5))])
set_option maxRecDepth 100000 in
theorem pl_s30_s {X : Int → Int} {LX : Nat} : ck_Ok p2_OL X LX 81 pl_s30 := ck_ok_s (O := p2_OL) (X := X) (LX := LX) (E := []) (mi := 81) (cuts := []) (f := 460) (S := pl_s30) (lx := none) (XF := []) ⟨pl_nmu, ck_E0⟩ ck_X0 ck_l0 (by decide +kernel)
set_option maxRecDepth 100000 in
/-- GlacierMail$Words.isWord -/
noncomputable def pl_s31 : ck_Sum := ((6, 0, 0), 249, [.inr (.inr (.inl 214)), .inr (.inr (.inr 20))], ([], [], [(214, 3, 3, (0, 400, [(12, 0)]))]), ([], []), zl219)
set_option maxRecDepth 100000 in
theorem pl_s31_s {X : Int → Int} {LX : Nat} : ck_Ok p2_OL X LX 81 pl_s31 := ck_ok_s (O := p2_OL) (X := X) (LX := LX) (E := []) (mi := 81) (cuts := []) (f := 310) (S := pl_s31) (lx := none) (XF := []) ⟨pl_nmu, ck_E0⟩ ck_X0 ck_l0 (by decide +kernel)
set_option maxRecDepth 100000 in
/-- GlacierMail$Words.isWord -/
noncomputable def pl_s32 : ck_Sum := ((6, 0, 0), 249, [.inr (.inr (.inl 214)), .inr (.inr (.inr 22))], ([], [], [(214, 3, 3, (0, 400, [(12, 0)]))]), ([], []), zl220)
set_option maxRecDepth 100000 in
theorem pl_s32_s {X : Int → Int} {LX : Nat} : ck_Ok p2_OL X LX 81 pl_s32 := ck_ok_s (O := p2_OL) (X := X) (LX := LX) (E := []) (mi := 81) (cuts := []) (f := 410) (S := pl_s32) (lx := none) (XF := []) ⟨pl_nmu, ck_E0⟩ ck_X0 ck_l0 (by decide +kernel)
set_option maxRecDepth 100000 in
/-- GlacierMail$Words.isWord -/
noncomputable def pl_s33 : ck_Sum := ((6, 0, 0), 249, [.inr (.inr (.inl 214)), .inr (.inr (.inr 23))], ([], [], [(214, 3, 3, (0, 400, [(12, 0)]))]), ([], []), zl219)
set_option maxRecDepth 100000 in
theorem pl_s33_s {X : Int → Int} {LX : Nat} : ck_Ok p2_OL X LX 81 pl_s33 := ck_ok_s (O := p2_OL) (X := X) (LX := LX) (E := []) (mi := 81) (cuts := []) (f := 310) (S := pl_s33) (lx := none) (XF := []) ⟨pl_nmu, ck_E0⟩ ck_X0 ck_l0 (by decide +kernel)
set_option maxRecDepth 100000 in
/-- GlacierMail$Words.isWord -/
noncomputable def pl_s34 : ck_Sum := ((6, 0, 0), 249, [.inr (.inr (.inl 214)), .inr (.inr (.inr 24))], ([], [], [(214, 3, 3, (0, 400, [(12, 0)]))]), ([], []), zl218)
set_option maxRecDepth 100000 in
theorem pl_s34_s {X : Int → Int} {LX : Nat} : ck_Ok p2_OL X LX 81 pl_s34 := ck_ok_s (O := p2_OL) (X := X) (LX := LX) (E := []) (mi := 81) (cuts := []) (f := 360) (S := pl_s34) (lx := none) (XF := []) ⟨pl_nmu, ck_E0⟩ ck_X0 ck_l0 (by decide +kernel)
set_option maxRecDepth 100000 in
/-- GlacierMail$Words.isWord -/
noncomputable def pl_s35 : ck_Sum := ((6, 0, 0), 249, [.inr (.inr (.inl 214)), .inr (.inr (.inr 25))], ([], [], [(214, 3, 3, (0, 400, [(12, 0)]))]), ([], []), zl220)
set_option maxRecDepth 100000 in
theorem pl_s35_s {X : Int → Int} {LX : Nat} : ck_Ok p2_OL X LX 81 pl_s35 := ck_ok_s (O := p2_OL) (X := X) (LX := LX) (E := []) (mi := 81) (cuts := []) (f := 410) (S := pl_s35) (lx := none) (XF := []) ⟨pl_nmu, ck_E0⟩ ck_X0 ck_l0 (by decide +kernel)
set_option maxRecDepth 100000 in
/-- GlacierMail$Words.isWord -/
noncomputable def pl_s36 : ck_Sum := ((6, 0, 0), 249, [.inr (.inr (.inl 214)), .inr (.inr (.inr 27))], ([], [], [(214, 3, 3, (0, 400, [(12, 0)]))]), ([], []), zl219)
set_option maxRecDepth 100000 in
theorem pl_s36_s {X : Int → Int} {LX : Nat} : ck_Ok p2_OL X LX 81 pl_s36 := ck_ok_s (O := p2_OL) (X := X) (LX := LX) (E := []) (mi := 81) (cuts := []) (f := 310) (S := pl_s36) (lx := none) (XF := []) ⟨pl_nmu, ck_E0⟩ ck_X0 ck_l0 (by decide +kernel)
set_option maxRecDepth 100000 in
/-- GlacierMail$Words.isWord -/
noncomputable def pl_s37 : ck_Sum := ((6, 0, 0), 249, [.inr (.inr (.inl 214)), .inr (.inr (.inr 28))], ([], [], [(214, 3, 3, (0, 400, [(12, 0)]))]), ([], []), zl218)
set_option maxRecDepth 100000 in
theorem pl_s37_s {X : Int → Int} {LX : Nat} : ck_Ok p2_OL X LX 81 pl_s37 := ck_ok_s (O := p2_OL) (X := X) (LX := LX) (E := []) (mi := 81) (cuts := []) (f := 360) (S := pl_s37) (lx := none) (XF := []) ⟨pl_nmu, ck_E0⟩ ck_X0 ck_l0 (by decide +kernel)
set_option maxRecDepth 100000 in
/-- GlacierMail$Rows.isFull -/
noncomputable def pl_s38 : ck_Sum := ((0, 0, 0), 249, [.inr (.inr (.inl 25))], ([], [], []), ([], []), [(.inr (some (.inl (ck_one 0))), 249, ([], [], [(25, 3, 3, (0, 5, []))])), (.inr (some (.inl (ck_one 1))), 249, ([], [], [(25, 3, 3, ck_one 6)]))])
set_option maxRecDepth 100000 in
theorem pl_s38_s {X : Int → Int} {LX : Nat} : ck_Ok p2_OL X LX 108 pl_s38 := ck_ok_s (O := p2_OL) (X := X) (LX := LX) (E := []) (mi := 108) (cuts := []) (f := 86) (S := pl_s38) (lx := none) (XF := []) ⟨pl_nmu, ck_E0⟩ ck_X0 ck_l0 (by decide +kernel)
set_option maxRecDepth 100000 in
/-- GlacierMail$Rows.add -/
noncomputable def pl_s39 : ck_Sum := ((0, 0, 0), 249, [.inr (.inr (.inl 25))], ([], [], []), ([(25, 3, 3)], []), [(.inr (some (.inl (0, 5, []))), 249, ([], [], [(25, 3, 3, (1, 6, []))])), (.inr (some (.inl (ck_one (-1)))), 249, ([], [], [(25, 3, 3, ck_one 6)]))])
set_option maxRecDepth 100000 in
theorem pl_s39_s {X : Int → Int} {LX : Nat} : ck_Ok p2_OL X LX 102 pl_s39 := ck_ok_s (O := p2_OL) (X := X) (LX := LX) (E := []) (mi := 102) (cuts := []) (f := 102) (S := pl_s39) (lx := none) (XF := []) ⟨pl_nmu, ck_E0⟩ ck_X0 ck_l0 (by decide +kernel)
set_option maxRecDepth 100000 in
/-- GlacierMail$Words.needNumber -/
noncomputable def pl_s40 : ck_Sum := ((2, 0, 0), 249, [.inr (.inr (.inl 214)), .inl (ck_one 0), .inl (ck_one 20)], ([], [], [(214, 3, 3, (0, 400, [(12, 0)]))]), ([(214, 3, 7)], []), [(.inr (some (.inl (ck_one (-1)))), 249, ([], [], zl7)), (.inr (some (.inl (0, 20, []))), 249, ([], [], [(214, 3, 3, (0, 400, [(1000012, 0)]))]))])
set_option maxRecDepth 100000 in
theorem pl_s40_s {X : Int → Int} {LX : Nat} : ck_Ok p2_OL X LX 94 pl_s40 := ck_ok_s (O := p2_OL) (X := X) (LX := LX) (E := [(93, [pl_s26]), (76, [pl_s24])]) (mi := 94) (cuts := []) (f := 106) (S := pl_s40) (lx := none) (XF := []) ⟨pl_nmu, ck_E1 (ck_S1 pl_s26_s ck_S0) (ck_E1 (ck_S1 pl_s24_s ck_S0) ck_E0)⟩ ck_X0 ck_l0 (by decide +kernel)
set_option maxRecDepth 100000 in
/-- GlacierMail$Rows.put -/
noncomputable def pl_s41 : ck_Sum := ((0, 0, 0), 249, [.inr (.inr (.inl 25)), .inl (0, 5, []), .inl (0, 5, []), .inl (0, 20, [])], ([], [], []), ([(26, 0, 35)], []), [(.inr none, 249, ([], [], []))])
set_option maxRecDepth 100000 in
theorem pl_s41_s {X : Int → Int} {LX : Nat} : ck_Ok p2_OL X LX 45 pl_s41 := ck_ok_s (O := p2_OL) (X := X) (LX := LX) (E := []) (mi := 45) (cuts := []) (f := 116) (S := pl_s41) (lx := none) (XF := []) ⟨pl_nmu, ck_E0⟩ ck_X0 ck_l0 (by decide +kernel)
set_option maxRecDepth 100000 in
/-- GlacierMail$ValleyReader.readSpeeds -/
noncomputable def pl_s42 : ck_Sum := ((3, 0, 0), 249, [.inr (.inr (.inl 213)), .inr (.inr (.inl 25)), .inl (0, 5, []), .inl (ck_one 0)], ([], [], [(214, 3, 3, (0, 400, [(12, 0)]))]), ([(26, 0, 35), (214, 3, 7)], []), zl221)
set_option maxRecDepth 100000 in
theorem pl_s42_s {X : Int → Int} {LX : Nat} : ck_Ok p2_OL X LX 109 pl_s42 := ck_ok_s (O := p2_OL) (X := X) (LX := LX) (E := [(94, [pl_s40]), (45, [pl_s41])]) (mi := 109) (cuts := [(3, [some (.inr (.inr (.inl 213))), some (.inr (.inr (.inl 25))), some (.inl (0, 5, [])), some (.inl (ck_one 0)), some (.inl (0, 6, [])), none], ([], [], [(214, 3, 3, (0, 400, [(1000012, 0)]))]), 100, .inl 4, true)]) (f := 186) (S := pl_s42) (lx := none) (XF := []) ⟨pl_nmu, ck_E1 (ck_S1 pl_s40_s ck_S0) (ck_E1 (ck_S1 pl_s41_s ck_S0) ck_E0)⟩ ck_X0 ck_l0 (by decide +kernel)
set_option maxRecDepth 100000 in
/-- GlacierMail$Rows.put -/
noncomputable def pl_s43 : ck_Sum := ((0, 0, 0), 249, [.inr (.inr (.inl 25)), .inl (ck_one (-1)), .inl (0, 5, []), .inl (0, 20, [])], ([], [], []), ([], []), [(.inr none, 249, ([], [], []))])
set_option maxRecDepth 100000 in
theorem pl_s43_s {X : Int → Int} {LX : Nat} : ck_Ok p2_OL X LX 45 pl_s43 := ck_ok_s (O := p2_OL) (X := X) (LX := LX) (E := []) (mi := 45) (cuts := []) (f := 76) (S := pl_s43) (lx := none) (XF := []) ⟨pl_nmu, ck_E0⟩ ck_X0 ck_l0 (by decide +kernel)
set_option maxRecDepth 100000 in
/-- GlacierMail$ValleyReader.readSpeeds -/
noncomputable def pl_s44 : ck_Sum := ((3, 0, 0), 249, [.inr (.inr (.inl 213)), .inr (.inr (.inl 25)), .inl (ck_one (-1)), .inl (ck_one 0)], ([], [], [(214, 3, 3, (0, 400, [(12, 0)]))]), ([(214, 3, 7)], []), zl221)
set_option maxRecDepth 100000 in
theorem pl_s44_s {X : Int → Int} {LX : Nat} : ck_Ok p2_OL X LX 109 pl_s44 := ck_ok_s (O := p2_OL) (X := X) (LX := LX) (E := [(94, [pl_s40]), (45, [pl_s43])]) (mi := 109) (cuts := [(3, [some (.inr (.inr (.inl 213))), some (.inr (.inr (.inl 25))), some (.inl (ck_one (-1))), some (.inl (ck_one 0)), some (.inl (0, 6, [])), none], ([], [], [(214, 3, 3, (0, 400, [(1000012, 0)]))]), 100, .inl 4, true)]) (f := 186) (S := pl_s44) (lx := none) (XF := []) ⟨pl_nmu, ck_E1 (ck_S1 pl_s40_s ck_S0) (ck_E1 (ck_S1 pl_s43_s ck_S0) ck_E0)⟩ ck_X0 ck_l0 (by decide +kernel)
set_option maxRecDepth 100000 in
/-- GlacierMail$ValleyReader.readTable -/
noncomputable def pl_s45 : ck_Sum := ((4, 0, 0), 249, [.inr (.inr (.inl 213))], ([], [], [(214, 3, 3, (0, 400, [(12, 0)]))]), ([(25, 3, 3), (26, 0, 35), (214, 3, 7)], []), [(.inr (some (.inl (ck_one 1))), 249, ([], [], zl9)), (.inr (some (.inl (ck_one 0))), 249, ([], [], zl10))])
set_option maxRecDepth 100000 in
theorem pl_s45_s {X : Int → Int} {LX : Nat} : ck_Ok p2_OL X LX 120 pl_s45 := ck_ok_s (O := p2_OL) (X := X) (LX := LX) (E := [(108, [pl_s38]), (76, [pl_s24]), (102, [pl_s39]), (109, [pl_s42, pl_s44]), (93, [pl_s26])]) (mi := 120) (cuts := []) (f := 108) (S := pl_s45) (lx := none) (XF := []) ⟨pl_nmu, ck_E1 (ck_S1 pl_s38_s ck_S0) (ck_E1 (ck_S1 pl_s24_s ck_S0) (ck_E1 (ck_S1 pl_s39_s ck_S0) (ck_E1 (ck_S1 pl_s42_s (ck_S1 pl_s44_s ck_S0)) (ck_E1 (ck_S1 pl_s26_s ck_S0) ck_E0))))⟩ ck_X0 ck_l0 (by decide +kernel)
set_option maxRecDepth 100000 in
/-- GlacierMail$Rows.isFull -/
noncomputable def pl_s46 : ck_Sum := ((0, 0, 0), 249, [.inr (.inr (.inl 23))], ([], [], []), ([], []), [(.inr (some (.inl (ck_one 0))), 249, ([], [], [(23, 3, 3, (0, 23, []))])), (.inr (some (.inl (ck_one 1))), 249, ([], [], [(23, 3, 3, ck_one 24)]))])
set_option maxRecDepth 100000 in
theorem pl_s46_s {X : Int → Int} {LX : Nat} : ck_Ok p2_OL X LX 108 pl_s46 := ck_ok_s (O := p2_OL) (X := X) (LX := LX) (E := []) (mi := 108) (cuts := []) (f := 86) (S := pl_s46) (lx := none) (XF := []) ⟨pl_nmu, ck_E0⟩ ck_X0 ck_l0 (by decide +kernel)
set_option maxRecDepth 100000 in
/-- GlacierMail$Words.needNumber -/
noncomputable def pl_s47 : ck_Sum := ((2, 0, 0), 249, [.inr (.inr (.inl 214)), .inl (ck_one 0), .inl (0, 5, [])], ([], [], [(214, 3, 3, (0, 400, [(12, 0)]))]), ([(214, 3, 7)], []), zl222)
set_option maxRecDepth 100000 in
theorem pl_s47_s {X : Int → Int} {LX : Nat} : ck_Ok p2_OL X LX 94 pl_s47 := ck_ok_s (O := p2_OL) (X := X) (LX := LX) (E := [(93, [pl_s26]), (76, [pl_s24])]) (mi := 94) (cuts := []) (f := 106) (S := pl_s47) (lx := none) (XF := []) ⟨pl_nmu, ck_E1 (ck_S1 pl_s26_s ck_S0) (ck_E1 (ck_S1 pl_s24_s ck_S0) ck_E0)⟩ ck_X0 ck_l0 (by decide +kernel)
set_option maxRecDepth 100000 in
/-- GlacierMail$ValleyReader.readLane -/
noncomputable def pl_s48 : ck_Sum := ((3, 0, 0), 249, [.inr (.inr (.inl 213))], ([], [], [(214, 3, 3, (0, 400, [(12, 0)]))]), ([(214, 3, 7)], []), zl222)
set_option maxRecDepth 100000 in
theorem pl_s48_s {X : Int → Int} {LX : Nat} : ck_Ok p2_OL X LX 117 pl_s48 := ck_ok_s (O := p2_OL) (X := X) (LX := LX) (E := [(94, [pl_s47])]) (mi := 117) (cuts := []) (f := 90) (S := pl_s48) (lx := none) (XF := []) ⟨pl_nmu, ck_E1 (ck_S1 pl_s47_s ck_S0) ck_E0⟩ ck_X0 ck_l0 (by decide +kernel)
set_option maxRecDepth 100000 in
/-- GlacierMail$Words.needNumber -/
noncomputable def pl_s49 : ck_Sum := ((2, 0, 0), 249, [.inr (.inr (.inl 214)), .inl (ck_one 0), .inl (9, 98, [])], ([], [], [(214, 3, 3, (0, 400, [(12, 0)]))]), ([(214, 3, 7)], []), zl223)
set_option maxRecDepth 100000 in
theorem pl_s49_s {X : Int → Int} {LX : Nat} : ck_Ok p2_OL X LX 94 pl_s49 := ck_ok_s (O := p2_OL) (X := X) (LX := LX) (E := [(93, [pl_s26]), (76, [pl_s24])]) (mi := 94) (cuts := []) (f := 106) (S := pl_s49) (lx := none) (XF := []) ⟨pl_nmu, ck_E1 (ck_S1 pl_s26_s ck_S0) (ck_E1 (ck_S1 pl_s24_s ck_S0) ck_E0)⟩ ck_X0 ck_l0 (by decide +kernel)
set_option maxRecDepth 100000 in
/-- GlacierMail$ValleyReader.readRow -/
noncomputable def pl_s50 : ck_Sum := ((3, 0, 0), 249, [.inr (.inr (.inl 213))], ([], [], [(214, 3, 3, (0, 400, [(12, 0)]))]), ([(214, 3, 7)], []), zl223)
set_option maxRecDepth 100000 in
theorem pl_s50_s {X : Int → Int} {LX : Nat} : ck_Ok p2_OL X LX 111 pl_s50 := ck_ok_s (O := p2_OL) (X := X) (LX := LX) (E := [(94, [pl_s49])]) (mi := 111) (cuts := []) (f := 90) (S := pl_s50) (lx := none) (XF := []) ⟨pl_nmu, ck_E1 (ck_S1 pl_s49_s ck_S0) ck_E0⟩ ck_X0 ck_l0 (by decide +kernel)
set_option maxRecDepth 100000 in
/-- GlacierMail$Rows.add -/
noncomputable def pl_s51 : ck_Sum := ((0, 0, 0), 249, [.inr (.inr (.inl 23))], ([], [], []), ([(23, 3, 3)], []), zl224)
set_option maxRecDepth 100000 in
theorem pl_s51_s {X : Int → Int} {LX : Nat} : ck_Ok p2_OL X LX 102 pl_s51 := ck_ok_s (O := p2_OL) (X := X) (LX := LX) (E := []) (mi := 102) (cuts := []) (f := 102) (S := pl_s51) (lx := none) (XF := []) ⟨pl_nmu, ck_E0⟩ ck_X0 ck_l0 (by decide +kernel)
set_option maxRecDepth 100000 in
/-- GlacierMail$Rows.put -/
noncomputable def pl_s52 : ck_Sum := ((0, 0, 0), 249, [.inr (.inr (.inl 23)), .inl (0, 23, []), .inl (ck_one 0), .inl (ck_one (-1))], ([], [], []), (zl14, []), [(.inr none, 249, ([], [], []))])
set_option maxRecDepth 100000 in
theorem pl_s52_s {X : Int → Int} {LX : Nat} : ck_Ok p2_OL X LX 45 pl_s52 := ck_ok_s (O := p2_OL) (X := X) (LX := LX) (E := []) (mi := 45) (cuts := []) (f := 116) (S := pl_s52) (lx := none) (XF := []) ⟨pl_nmu, ck_E0⟩ ck_X0 ck_l0 (by decide +kernel)
set_option maxRecDepth 100000 in
/-- GlacierMail$Rows.put -/
noncomputable def pl_s53 : ck_Sum := ((0, 0, 0), 249, [.inr (.inr (.inl 23)), .inl (0, 23, []), .inl (ck_one 1), .inl (ck_one (-1))], ([], [], []), (zl15, []), [(.inr none, 249, ([], [], []))])
set_option maxRecDepth 100000 in
theorem pl_s53_s {X : Int → Int} {LX : Nat} : ck_Ok p2_OL X LX 45 pl_s53 := ck_ok_s (O := p2_OL) (X := X) (LX := LX) (E := []) (mi := 45) (cuts := []) (f := 116) (S := pl_s53) (lx := none) (XF := []) ⟨pl_nmu, ck_E0⟩ ck_X0 ck_l0 (by decide +kernel)
set_option maxRecDepth 100000 in
/-- GlacierMail$Rows.put -/
noncomputable def pl_s54 : ck_Sum := ((0, 0, 0), 249, [.inr (.inr (.inl 23)), .inl (0, 23, []), .inl (ck_one 2), .inl (0, 5, [])], ([], [], []), (zl16, []), [(.inr none, 249, ([], [], []))])
set_option maxRecDepth 100000 in
theorem pl_s54_s {X : Int → Int} {LX : Nat} : ck_Ok p2_OL X LX 45 pl_s54 := ck_ok_s (O := p2_OL) (X := X) (LX := LX) (E := []) (mi := 45) (cuts := []) (f := 116) (S := pl_s54) (lx := none) (XF := []) ⟨pl_nmu, ck_E0⟩ ck_X0 ck_l0 (by decide +kernel)
set_option maxRecDepth 100000 in
/-- GlacierMail$Rows.put -/
noncomputable def pl_s55 : ck_Sum := ((0, 0, 0), 249, [.inr (.inr (.inl 23)), .inl (0, 23, []), .inl (ck_one 3), .inl (0, 299, [])], ([], [], []), (zl17, []), [(.inr none, 249, ([], [], []))])
set_option maxRecDepth 100000 in
theorem pl_s55_s {X : Int → Int} {LX : Nat} : ck_Ok p2_OL X LX 45 pl_s55 := ck_ok_s (O := p2_OL) (X := X) (LX := LX) (E := []) (mi := 45) (cuts := []) (f := 116) (S := pl_s55) (lx := none) (XF := []) ⟨pl_nmu, ck_E0⟩ ck_X0 ck_l0 (by decide +kernel)
set_option maxRecDepth 100000 in
/-- GlacierMail$Rows.put -/
noncomputable def pl_s56 : ck_Sum := ((0, 0, 0), 249, [.inr (.inr (.inl 23)), .inl (0, 23, []), .inl (ck_one 4), .inl (0, 98, [])], ([], [], []), (zl18, []), [(.inr none, 249, ([], [], []))])
set_option maxRecDepth 100000 in
theorem pl_s56_s {X : Int → Int} {LX : Nat} : ck_Ok p2_OL X LX 45 pl_s56 := ck_ok_s (O := p2_OL) (X := X) (LX := LX) (E := []) (mi := 45) (cuts := []) (f := 116) (S := pl_s56) (lx := none) (XF := []) ⟨pl_nmu, ck_E0⟩ ck_X0 ck_l0 (by decide +kernel)
set_option maxRecDepth 100000 in
/-- GlacierMail$Rows.put -/
noncomputable def pl_s57 : ck_Sum := ((0, 0, 0), 249, [.inr (.inr (.inl 23)), .inl (0, 23, []), .inl (ck_one 5), .inl (ck_one (-1))], ([], [], []), (zl19, []), [(.inr none, 249, ([], [], []))])
set_option maxRecDepth 100000 in
theorem pl_s57_s {X : Int → Int} {LX : Nat} : ck_Ok p2_OL X LX 45 pl_s57 := ck_ok_s (O := p2_OL) (X := X) (LX := LX) (E := []) (mi := 45) (cuts := []) (f := 116) (S := pl_s57) (lx := none) (XF := []) ⟨pl_nmu, ck_E0⟩ ck_X0 ck_l0 (by decide +kernel)
set_option maxRecDepth 100000 in
/-- GlacierMail$Rows.put -/
noncomputable def pl_s58 : ck_Sum := ((0, 0, 0), 249, [.inr (.inr (.inl 23)), .inl (0, 23, []), .inl (ck_one 6), .inl (ck_one (-1))], ([], [], []), (zl20, []), [(.inr none, 249, ([], [], []))])
set_option maxRecDepth 100000 in
theorem pl_s58_s {X : Int → Int} {LX : Nat} : ck_Ok p2_OL X LX 45 pl_s58 := ck_ok_s (O := p2_OL) (X := X) (LX := LX) (E := []) (mi := 45) (cuts := []) (f := 116) (S := pl_s58) (lx := none) (XF := []) ⟨pl_nmu, ck_E0⟩ ck_X0 ck_l0 (by decide +kernel)
set_option maxRecDepth 100000 in
/-- GlacierMail$Rows.put -/
noncomputable def pl_s59 : ck_Sum := ((0, 0, 0), 249, [.inr (.inr (.inl 23)), .inl (ck_one (-1)), .inl (ck_one 0), .inl (ck_one (-1))], ([], [], []), ([], []), [(.inr none, 249, ([], [], []))])
set_option maxRecDepth 100000 in
theorem pl_s59_s {X : Int → Int} {LX : Nat} : ck_Ok p2_OL X LX 45 pl_s59 := ck_ok_s (O := p2_OL) (X := X) (LX := LX) (E := []) (mi := 45) (cuts := []) (f := 76) (S := pl_s59) (lx := none) (XF := []) ⟨pl_nmu, ck_E0⟩ ck_X0 ck_l0 (by decide +kernel)
set_option maxRecDepth 100000 in
/-- GlacierMail$Rows.put -/
noncomputable def pl_s60 : ck_Sum := ((0, 0, 0), 249, [.inr (.inr (.inl 23)), .inl (ck_one (-1)), .inl (ck_one 1), .inl (ck_one (-1))], ([], [], []), ([], []), [(.inr none, 249, ([], [], []))])
set_option maxRecDepth 100000 in
theorem pl_s60_s {X : Int → Int} {LX : Nat} : ck_Ok p2_OL X LX 45 pl_s60 := ck_ok_s (O := p2_OL) (X := X) (LX := LX) (E := []) (mi := 45) (cuts := []) (f := 76) (S := pl_s60) (lx := none) (XF := []) ⟨pl_nmu, ck_E0⟩ ck_X0 ck_l0 (by decide +kernel)
set_option maxRecDepth 100000 in
/-- GlacierMail$Rows.put -/
noncomputable def pl_s61 : ck_Sum := ((0, 0, 0), 249, [.inr (.inr (.inl 23)), .inl (ck_one (-1)), .inl (ck_one 2), .inl (0, 5, [])], ([], [], []), ([], []), [(.inr none, 249, ([], [], []))])
set_option maxRecDepth 100000 in
theorem pl_s61_s {X : Int → Int} {LX : Nat} : ck_Ok p2_OL X LX 45 pl_s61 := ck_ok_s (O := p2_OL) (X := X) (LX := LX) (E := []) (mi := 45) (cuts := []) (f := 76) (S := pl_s61) (lx := none) (XF := []) ⟨pl_nmu, ck_E0⟩ ck_X0 ck_l0 (by decide +kernel)
set_option maxRecDepth 100000 in
/-- GlacierMail$Rows.put -/
noncomputable def pl_s62 : ck_Sum := ((0, 0, 0), 249, [.inr (.inr (.inl 23)), .inl (ck_one (-1)), .inl (ck_one 3), .inl (0, 299, [])], ([], [], []), ([], []), [(.inr none, 249, ([], [], []))])
set_option maxRecDepth 100000 in
theorem pl_s62_s {X : Int → Int} {LX : Nat} : ck_Ok p2_OL X LX 45 pl_s62 := ck_ok_s (O := p2_OL) (X := X) (LX := LX) (E := []) (mi := 45) (cuts := []) (f := 76) (S := pl_s62) (lx := none) (XF := []) ⟨pl_nmu, ck_E0⟩ ck_X0 ck_l0 (by decide +kernel)
set_option maxRecDepth 100000 in
/-- GlacierMail$Rows.put -/
noncomputable def pl_s63 : ck_Sum := ((0, 0, 0), 249, [.inr (.inr (.inl 23)), .inl (ck_one (-1)), .inl (ck_one 4), .inl (0, 98, [])], ([], [], []), ([], []), [(.inr none, 249, ([], [], []))])
set_option maxRecDepth 100000 in
theorem pl_s63_s {X : Int → Int} {LX : Nat} : ck_Ok p2_OL X LX 45 pl_s63 := ck_ok_s (O := p2_OL) (X := X) (LX := LX) (E := []) (mi := 45) (cuts := []) (f := 76) (S := pl_s63) (lx := none) (XF := []) ⟨pl_nmu, ck_E0⟩ ck_X0 ck_l0 (by decide +kernel)
set_option maxRecDepth 100000 in
/-- GlacierMail$Rows.put -/
noncomputable def pl_s64 : ck_Sum := ((0, 0, 0), 249, [.inr (.inr (.inl 23)), .inl (ck_one (-1)), .inl (ck_one 5), .inl (ck_one (-1))], ([], [], []), ([], []), [(.inr none, 249, ([], [], []))])
set_option maxRecDepth 100000 in
theorem pl_s64_s {X : Int → Int} {LX : Nat} : ck_Ok p2_OL X LX 45 pl_s64 := ck_ok_s (O := p2_OL) (X := X) (LX := LX) (E := []) (mi := 45) (cuts := []) (f := 76) (S := pl_s64) (lx := none) (XF := []) ⟨pl_nmu, ck_E0⟩ ck_X0 ck_l0 (by decide +kernel)
set_option maxRecDepth 100000 in
/-- GlacierMail$Rows.put -/
noncomputable def pl_s65 : ck_Sum := ((0, 0, 0), 249, [.inr (.inr (.inl 23)), .inl (ck_one (-1)), .inl (ck_one 6), .inl (ck_one (-1))], ([], [], []), ([], []), [(.inr none, 249, ([], [], []))])
set_option maxRecDepth 100000 in
theorem pl_s65_s {X : Int → Int} {LX : Nat} : ck_Ok p2_OL X LX 45 pl_s65 := ck_ok_s (O := p2_OL) (X := X) (LX := LX) (E := []) (mi := 45) (cuts := []) (f := 76) (S := pl_s65) (lx := none) (XF := []) ⟨pl_nmu, ck_E0⟩ ck_X0 ck_l0 (by decide +kernel)
set_option maxRecDepth 100000 in
/-- GlacierMail$State.throwIn -/
noncomputable def pl_s66 : ck_Sum := ((1, 0, 0), 249, [.inr (.inr (.inl 16)), .inl (ck_one (-1)), .inl (ck_one (-1)), .inl (0, 5, []), .inl (0, 98, [])], ([], [], []), ([(23, 3, 3), (24, 0, 167)], []), zl224)
set_option maxRecDepth 100000 in
theorem pl_s66_s {X : Int → Int} {LX : Nat} : ck_Ok p2_OL X LX 119 pl_s66 := ck_ok_s (O := p2_OL) (X := X) (LX := LX) (E := [(102, [pl_s51]), (45, [pl_s52, pl_s53, pl_s54, pl_s55, pl_s56, pl_s57, pl_s58, pl_s59, pl_s60, pl_s61, pl_s62, pl_s63, pl_s64, pl_s65])]) (mi := 119) (cuts := []) (f := 168) (S := pl_s66) (lx := none) (XF := []) ⟨pl_nmu, ck_E1 (ck_S1 pl_s51_s ck_S0) (ck_E1 (ck_S1 pl_s52_s (ck_S1 pl_s53_s (ck_S1 pl_s54_s (ck_S1 pl_s55_s (ck_S1 pl_s56_s (ck_S1 pl_s57_s (ck_S1 pl_s58_s (ck_S1 pl_s59_s (ck_S1 pl_s60_s (ck_S1 pl_s61_s (ck_S1 pl_s62_s (ck_S1 pl_s63_s (ck_S1 pl_s64_s (ck_S1 pl_s65_s ck_S0)))))))))))))) ck_E0)⟩ ck_X0 ck_l0 (by decide +kernel)
set_option maxRecDepth 100000 in
/-- GlacierMail$ValleyReader.readRock -/
noncomputable def pl_s67 : ck_Sum := ((4, 0, 0), 249, [.inr (.inr (.inl 213))], ([], [], [(214, 3, 3, (0, 400, [(12, 0)]))]), ([(23, 3, 3), (24, 0, 167), (214, 3, 7)], []), [(.inr (some (.inl (ck_one 0))), 249, ([], [], zl21)), (.inr (some (.inl (ck_one 1))), 249, ([], [], zl22))])
set_option maxRecDepth 100000 in
theorem pl_s67_s {X : Int → Int} {LX : Nat} : ck_Ok p2_OL X LX 118 pl_s67 := ck_ok_s (O := p2_OL) (X := X) (LX := LX) (E := [(108, [pl_s46]), (76, [pl_s24]), (117, [pl_s48]), (111, [pl_s50]), (119, [pl_s66]), (93, [pl_s26])]) (mi := 118) (cuts := []) (f := 130) (S := pl_s67) (lx := none) (XF := []) ⟨pl_nmu, ck_E1 (ck_S1 pl_s46_s ck_S0) (ck_E1 (ck_S1 pl_s24_s ck_S0) (ck_E1 (ck_S1 pl_s48_s ck_S0) (ck_E1 (ck_S1 pl_s50_s ck_S0) (ck_E1 (ck_S1 pl_s66_s ck_S0) (ck_E1 (ck_S1 pl_s26_s ck_S0) ck_E0)))))⟩ ck_X0 ck_l0 (by decide +kernel)
set_option maxRecDepth 100000 in
/-- GlacierMail$Rows.isFull -/
noncomputable def pl_s68 : ck_Sum := ((0, 0, 0), 249, [.inr (.inr (.inl 21))], ([], [], []), ([], []), [(.inr (some (.inl (ck_one 0))), 249, ([], [], [(21, 3, 3, (0, 7, []))])), (.inr (some (.inl (ck_one 1))), 249, ([], [], [(21, 3, 3, ck_one 8)]))])
set_option maxRecDepth 100000 in
theorem pl_s68_s {X : Int → Int} {LX : Nat} : ck_Ok p2_OL X LX 108 pl_s68 := ck_ok_s (O := p2_OL) (X := X) (LX := LX) (E := []) (mi := 108) (cuts := []) (f := 86) (S := pl_s68) (lx := none) (XF := []) ⟨pl_nmu, ck_E0⟩ ck_X0 ck_l0 (by decide +kernel)
set_option maxRecDepth 100000 in
/-- GlacierMail$Words.isWord -/
noncomputable def pl_s69 : ck_Sum := ((6, 0, 0), 249, [.inr (.inr (.inl 214)), .inr (.inr (.inr 26))], ([], [], [(214, 3, 3, (0, 400, [(12, 0)]))]), ([], []), zl218)
set_option maxRecDepth 100000 in
theorem pl_s69_s {X : Int → Int} {LX : Nat} : ck_Ok p2_OL X LX 81 pl_s69 := ck_ok_s (O := p2_OL) (X := X) (LX := LX) (E := []) (mi := 81) (cuts := []) (f := 360) (S := pl_s69) (lx := none) (XF := []) ⟨pl_nmu, ck_E0⟩ ck_X0 ck_l0 (by decide +kernel)
set_option maxRecDepth 100000 in
/-- GlacierMail$Words.takeWord -/
noncomputable def pl_s70 : ck_Sum := ((7, 0, 0), 249, [.inr (.inr (.inl 214)), .inr (.inr (.inr 26))], ([], [], [(214, 3, 3, (0, 400, [(12, 0)]))]), ([(214, 3, 4), (214, 6, 7)], []), [(.inr (some (.inl (ck_one 0))), 249, ([], [], [(214, 3, 3, (0, 400, [(12, 0)]))])), (.inr (some (.inl (ck_one 1))), 249, ([], [], [(214, 3, 3, (5, 400, [(1000012, 0)]))]))])
set_option maxRecDepth 100000 in
theorem pl_s70_s {X : Int → Int} {LX : Nat} : ck_Ok p2_OL X LX 95 pl_s70 := ck_ok_s (O := p2_OL) (X := X) (LX := LX) (E := [(81, [pl_s69]), (76, [pl_s24])]) (mi := 95) (cuts := []) (f := 90) (S := pl_s70) (lx := none) (XF := []) ⟨pl_nmu, ck_E1 (ck_S1 pl_s69_s ck_S0) (ck_E1 (ck_S1 pl_s24_s ck_S0) ck_E0)⟩ ck_X0 ck_l0 (by decide +kernel)
set_option maxRecDepth 100000 in
/-- GlacierMail$Rows.add -/
noncomputable def pl_s71 : ck_Sum := ((0, 0, 0), 249, [.inr (.inr (.inl 21))], ([], [], []), ([(21, 3, 3)], []), [(.inr (some (.inl (0, 7, []))), 249, ([], [], [(21, 3, 3, (1, 8, []))])), (.inr (some (.inl (ck_one (-1)))), 249, ([], [], [(21, 3, 3, ck_one 8)]))])
set_option maxRecDepth 100000 in
theorem pl_s71_s {X : Int → Int} {LX : Nat} : ck_Ok p2_OL X LX 102 pl_s71 := ck_ok_s (O := p2_OL) (X := X) (LX := LX) (E := []) (mi := 102) (cuts := []) (f := 102) (S := pl_s71) (lx := none) (XF := []) ⟨pl_nmu, ck_E0⟩ ck_X0 ck_l0 (by decide +kernel)
set_option maxRecDepth 100000 in
/-- GlacierMail$Rows.put -/
noncomputable def pl_s72 : ck_Sum := ((0, 0, 0), 249, [.inr (.inr (.inl 21)), .inl (0, 7, []), .inl (ck_one 0), .inl (0, 5, [])], ([], [], []), (zl23, []), [(.inr none, 249, ([], [], []))])
set_option maxRecDepth 100000 in
theorem pl_s72_s {X : Int → Int} {LX : Nat} : ck_Ok p2_OL X LX 45 pl_s72 := ck_ok_s (O := p2_OL) (X := X) (LX := LX) (E := []) (mi := 45) (cuts := []) (f := 116) (S := pl_s72) (lx := none) (XF := []) ⟨pl_nmu, ck_E0⟩ ck_X0 ck_l0 (by decide +kernel)
set_option maxRecDepth 100000 in
/-- GlacierMail$Rows.put -/
noncomputable def pl_s73 : ck_Sum := ((0, 0, 0), 249, [.inr (.inr (.inl 21)), .inl (0, 7, []), .inl (ck_one 1), .inl (0, 98, [])], ([], [], []), (zl24, []), [(.inr none, 249, ([], [], []))])
set_option maxRecDepth 100000 in
theorem pl_s73_s {X : Int → Int} {LX : Nat} : ck_Ok p2_OL X LX 45 pl_s73 := ck_ok_s (O := p2_OL) (X := X) (LX := LX) (E := []) (mi := 45) (cuts := []) (f := 116) (S := pl_s73) (lx := none) (XF := []) ⟨pl_nmu, ck_E0⟩ ck_X0 ck_l0 (by decide +kernel)
set_option maxRecDepth 100000 in
/-- GlacierMail$Rows.put -/
noncomputable def pl_s74 : ck_Sum := ((0, 0, 0), 249, [.inr (.inr (.inl 21)), .inl (0, 7, []), .inl (ck_one 2), .inl (ck_one (-1))], ([], [], []), (zl25, []), [(.inr none, 249, ([], [], []))])
set_option maxRecDepth 100000 in
theorem pl_s74_s {X : Int → Int} {LX : Nat} : ck_Ok p2_OL X LX 45 pl_s74 := ck_ok_s (O := p2_OL) (X := X) (LX := LX) (E := []) (mi := 45) (cuts := []) (f := 116) (S := pl_s74) (lx := none) (XF := []) ⟨pl_nmu, ck_E0⟩ ck_X0 ck_l0 (by decide +kernel)
set_option maxRecDepth 100000 in
/-- GlacierMail$Rows.put -/
noncomputable def pl_s75 : ck_Sum := ((0, 0, 0), 249, [.inr (.inr (.inl 21)), .inl (ck_one (-1)), .inl (ck_one 0), .inl (0, 5, [])], ([], [], []), ([], []), [(.inr none, 249, ([], [], []))])
set_option maxRecDepth 100000 in
theorem pl_s75_s {X : Int → Int} {LX : Nat} : ck_Ok p2_OL X LX 45 pl_s75 := ck_ok_s (O := p2_OL) (X := X) (LX := LX) (E := []) (mi := 45) (cuts := []) (f := 76) (S := pl_s75) (lx := none) (XF := []) ⟨pl_nmu, ck_E0⟩ ck_X0 ck_l0 (by decide +kernel)
set_option maxRecDepth 100000 in
/-- GlacierMail$Rows.put -/
noncomputable def pl_s76 : ck_Sum := ((0, 0, 0), 249, [.inr (.inr (.inl 21)), .inl (ck_one (-1)), .inl (ck_one 1), .inl (0, 98, [])], ([], [], []), ([], []), [(.inr none, 249, ([], [], []))])
set_option maxRecDepth 100000 in
theorem pl_s76_s {X : Int → Int} {LX : Nat} : ck_Ok p2_OL X LX 45 pl_s76 := ck_ok_s (O := p2_OL) (X := X) (LX := LX) (E := []) (mi := 45) (cuts := []) (f := 76) (S := pl_s76) (lx := none) (XF := []) ⟨pl_nmu, ck_E0⟩ ck_X0 ck_l0 (by decide +kernel)
set_option maxRecDepth 100000 in
/-- GlacierMail$Rows.put -/
noncomputable def pl_s77 : ck_Sum := ((0, 0, 0), 249, [.inr (.inr (.inl 21)), .inl (ck_one (-1)), .inl (ck_one 2), .inl (ck_one (-1))], ([], [], []), ([], []), [(.inr none, 249, ([], [], []))])
set_option maxRecDepth 100000 in
theorem pl_s77_s {X : Int → Int} {LX : Nat} : ck_Ok p2_OL X LX 45 pl_s77 := ck_ok_s (O := p2_OL) (X := X) (LX := LX) (E := []) (mi := 45) (cuts := []) (f := 76) (S := pl_s77) (lx := none) (XF := []) ⟨pl_nmu, ck_E0⟩ ck_X0 ck_l0 (by decide +kernel)
set_option maxRecDepth 100000 in
/-- GlacierMail$Rows.put -/
noncomputable def pl_s78 : ck_Sum := ((0, 0, 0), 249, [.inr (.inr (.inl 21)), .inl (0, 7, []), .inl (ck_one 2), .inl (0, 5, [])], ([], [], []), (zl25, []), [(.inr none, 249, ([], [], []))])
set_option maxRecDepth 100000 in
theorem pl_s78_s {X : Int → Int} {LX : Nat} : ck_Ok p2_OL X LX 45 pl_s78 := ck_ok_s (O := p2_OL) (X := X) (LX := LX) (E := []) (mi := 45) (cuts := []) (f := 116) (S := pl_s78) (lx := none) (XF := []) ⟨pl_nmu, ck_E0⟩ ck_X0 ck_l0 (by decide +kernel)
set_option maxRecDepth 100000 in
/-- GlacierMail$Rows.put -/
noncomputable def pl_s79 : ck_Sum := ((0, 0, 0), 249, [.inr (.inr (.inl 21)), .inl (ck_one (-1)), .inl (ck_one 2), .inl (0, 5, [])], ([], [], []), ([], []), [(.inr none, 249, ([], [], []))])
set_option maxRecDepth 100000 in
theorem pl_s79_s {X : Int → Int} {LX : Nat} : ck_Ok p2_OL X LX 45 pl_s79 := ck_ok_s (O := p2_OL) (X := X) (LX := LX) (E := []) (mi := 45) (cuts := []) (f := 76) (S := pl_s79) (lx := none) (XF := []) ⟨pl_nmu, ck_E0⟩ ck_X0 ck_l0 (by decide +kernel)
set_option maxRecDepth 100000 in
/-- GlacierMail$ValleyReader.readPerson -/
noncomputable def pl_s80 : ck_Sum := ((8, 0, 0), 249, [.inr (.inr (.inl 213))], ([], [], [(214, 3, 3, (0, 400, [(12, 0)]))]), ([(21, 3, 3), (22, 0, 23), (214, 3, 7)], []), [(.inr (some (.inl (ck_one 0))), 249, ([], [], zl21)), (.inr (some (.inl (ck_one 1))), 249, ([], [], zl26))])
set_option maxRecDepth 100000 in
theorem pl_s80_s {X : Int → Int} {LX : Nat} : ck_Ok p2_OL X LX 116 pl_s80 := ck_ok_s (O := p2_OL) (X := X) (LX := LX) (E := [(108, [pl_s68]), (76, [pl_s24]), (117, [pl_s48]), (111, [pl_s50]), (95, [pl_s70]), (102, [pl_s71]), (45, [pl_s72, pl_s73, pl_s74, pl_s75, pl_s76, pl_s77, pl_s78, pl_s79]), (93, [pl_s26])]) (mi := 116) (cuts := []) (f := 192) (S := pl_s80) (lx := none) (XF := []) ⟨pl_nmu, ck_E1 (ck_S1 pl_s68_s ck_S0) (ck_E1 (ck_S1 pl_s24_s ck_S0) (ck_E1 (ck_S1 pl_s48_s ck_S0) (ck_E1 (ck_S1 pl_s50_s ck_S0) (ck_E1 (ck_S1 pl_s70_s ck_S0) (ck_E1 (ck_S1 pl_s71_s ck_S0) (ck_E1 (ck_S1 pl_s72_s (ck_S1 pl_s73_s (ck_S1 pl_s74_s (ck_S1 pl_s75_s (ck_S1 pl_s76_s (ck_S1 pl_s77_s (ck_S1 pl_s78_s (ck_S1 pl_s79_s ck_S0)))))))) (ck_E1 (ck_S1 pl_s26_s ck_S0) ck_E0)))))))⟩ ck_X0 ck_l0 (by decide +kernel)
set_option maxRecDepth 100000 in
/-- GlacierMail$Rows.isFull -/
noncomputable def pl_s81 : ck_Sum := ((0, 0, 0), 249, [.inr (.inr (.inl 19))], ([], [], []), ([], []), [(.inr (some (.inl (ck_one 0))), 249, ([], [], [(19, 3, 3, (0, 7, []))])), (.inr (some (.inl (ck_one 1))), 249, ([], [], [(19, 3, 3, ck_one 8)]))])
set_option maxRecDepth 100000 in
theorem pl_s81_s {X : Int → Int} {LX : Nat} : ck_Ok p2_OL X LX 108 pl_s81 := ck_ok_s (O := p2_OL) (X := X) (LX := LX) (E := []) (mi := 108) (cuts := []) (f := 86) (S := pl_s81) (lx := none) (XF := []) ⟨pl_nmu, ck_E0⟩ ck_X0 ck_l0 (by decide +kernel)
set_option maxRecDepth 100000 in
/-- GlacierMail$Words.needNumber -/
noncomputable def pl_s82 : ck_Sum := ((2, 0, 0), 249, [.inr (.inr (.inl 214)), .inl (0, 299, []), .inl (ck_one 299)], ([], [], [(214, 3, 3, (0, 400, [(12, 0)]))]), ([(214, 3, 7)], []), [(.inr (some (.inl (ck_one (-1)))), 249, ([], [], zl7)), (.inr (some (.inl (0, 299, []))), 249, ([], [], [(214, 3, 3, (0, 400, [(1000012, 0)]))]))])
set_option maxRecDepth 100000 in
theorem pl_s82_s {X : Int → Int} {LX : Nat} : ck_Ok p2_OL X LX 94 pl_s82 := ck_ok_s (O := p2_OL) (X := X) (LX := LX) (E := [(93, [pl_s26]), (76, [pl_s24])]) (mi := 94) (cuts := []) (f := 106) (S := pl_s82) (lx := none) (XF := []) ⟨pl_nmu, ck_E1 (ck_S1 pl_s26_s ck_S0) (ck_E1 (ck_S1 pl_s24_s ck_S0) ck_E0)⟩ ck_X0 ck_l0 (by decide +kernel)
set_option maxRecDepth 100000 in
/-- GlacierMail$Words.needNumber -/
noncomputable def pl_s83 : ck_Sum := ((2, 0, 0), 249, [.inr (.inr (.inl 214)), .inl (ck_one 1), .inl (ck_one 20)], ([], [], [(214, 3, 3, (0, 400, [(12, 0)]))]), ([(214, 3, 7)], []), [(.inr (some (.inl (ck_one (-1)))), 249, ([], [], zl7)), (.inr (some (.inl (1, 20, []))), 249, ([], [], [(214, 3, 3, (0, 400, [(1000012, 0)]))]))])
set_option maxRecDepth 100000 in
theorem pl_s83_s {X : Int → Int} {LX : Nat} : ck_Ok p2_OL X LX 94 pl_s83 := ck_ok_s (O := p2_OL) (X := X) (LX := LX) (E := [(93, [pl_s26]), (76, [pl_s24])]) (mi := 94) (cuts := []) (f := 106) (S := pl_s83) (lx := none) (XF := []) ⟨pl_nmu, ck_E1 (ck_S1 pl_s26_s ck_S0) (ck_E1 (ck_S1 pl_s24_s ck_S0) ck_E0)⟩ ck_X0 ck_l0 (by decide +kernel)
set_option maxRecDepth 100000 in
/-- GlacierMail$Rows.add -/
noncomputable def pl_s84 : ck_Sum := ((0, 0, 0), 249, [.inr (.inr (.inl 19))], ([], [], []), ([(19, 3, 3)], []), [(.inr (some (.inl (0, 7, []))), 249, ([], [], [(19, 3, 3, (1, 8, []))])), (.inr (some (.inl (ck_one (-1)))), 249, ([], [], [(19, 3, 3, ck_one 8)]))])
set_option maxRecDepth 100000 in
theorem pl_s84_s {X : Int → Int} {LX : Nat} : ck_Ok p2_OL X LX 102 pl_s84 := ck_ok_s (O := p2_OL) (X := X) (LX := LX) (E := []) (mi := 102) (cuts := []) (f := 102) (S := pl_s84) (lx := none) (XF := []) ⟨pl_nmu, ck_E0⟩ ck_X0 ck_l0 (by decide +kernel)
set_option maxRecDepth 100000 in
/-- GlacierMail$Rows.put -/
noncomputable def pl_s85 : ck_Sum := ((0, 0, 0), 249, [.inr (.inr (.inl 19)), .inl (0, 7, []), .inl (ck_one 0), .inl (0, 299, [])], ([], [], []), (zl27, []), [(.inr none, 249, ([], [], []))])
set_option maxRecDepth 100000 in
theorem pl_s85_s {X : Int → Int} {LX : Nat} : ck_Ok p2_OL X LX 45 pl_s85 := ck_ok_s (O := p2_OL) (X := X) (LX := LX) (E := []) (mi := 45) (cuts := []) (f := 116) (S := pl_s85) (lx := none) (XF := []) ⟨pl_nmu, ck_E0⟩ ck_X0 ck_l0 (by decide +kernel)
set_option maxRecDepth 100000 in
/-- GlacierMail$Rows.put -/
noncomputable def pl_s86 : ck_Sum := ((0, 0, 0), 249, [.inr (.inr (.inl 19)), .inl (0, 7, []), .inl (ck_one 1), .inl (0, 98, [])], ([], [], []), (zl28, []), [(.inr none, 249, ([], [], []))])
set_option maxRecDepth 100000 in
theorem pl_s86_s {X : Int → Int} {LX : Nat} : ck_Ok p2_OL X LX 45 pl_s86 := ck_ok_s (O := p2_OL) (X := X) (LX := LX) (E := []) (mi := 45) (cuts := []) (f := 116) (S := pl_s86) (lx := none) (XF := []) ⟨pl_nmu, ck_E0⟩ ck_X0 ck_l0 (by decide +kernel)
set_option maxRecDepth 100000 in
/-- GlacierMail$Rows.put -/
noncomputable def pl_s87 : ck_Sum := ((0, 0, 0), 249, [.inr (.inr (.inl 19)), .inl (0, 7, []), .inl (ck_one 2), .inl (1, 20, [])], ([], [], []), (zl29, []), [(.inr none, 249, ([], [], []))])
set_option maxRecDepth 100000 in
theorem pl_s87_s {X : Int → Int} {LX : Nat} : ck_Ok p2_OL X LX 45 pl_s87 := ck_ok_s (O := p2_OL) (X := X) (LX := LX) (E := []) (mi := 45) (cuts := []) (f := 116) (S := pl_s87) (lx := none) (XF := []) ⟨pl_nmu, ck_E0⟩ ck_X0 ck_l0 (by decide +kernel)
set_option maxRecDepth 100000 in
/-- GlacierMail$Rows.put -/
noncomputable def pl_s88 : ck_Sum := ((0, 0, 0), 249, [.inr (.inr (.inl 19)), .inl (ck_one (-1)), .inl (ck_one 0), .inl (0, 299, [])], ([], [], []), ([], []), [(.inr none, 249, ([], [], []))])
set_option maxRecDepth 100000 in
theorem pl_s88_s {X : Int → Int} {LX : Nat} : ck_Ok p2_OL X LX 45 pl_s88 := ck_ok_s (O := p2_OL) (X := X) (LX := LX) (E := []) (mi := 45) (cuts := []) (f := 76) (S := pl_s88) (lx := none) (XF := []) ⟨pl_nmu, ck_E0⟩ ck_X0 ck_l0 (by decide +kernel)
set_option maxRecDepth 100000 in
/-- GlacierMail$Rows.put -/
noncomputable def pl_s89 : ck_Sum := ((0, 0, 0), 249, [.inr (.inr (.inl 19)), .inl (ck_one (-1)), .inl (ck_one 1), .inl (0, 98, [])], ([], [], []), ([], []), [(.inr none, 249, ([], [], []))])
set_option maxRecDepth 100000 in
theorem pl_s89_s {X : Int → Int} {LX : Nat} : ck_Ok p2_OL X LX 45 pl_s89 := ck_ok_s (O := p2_OL) (X := X) (LX := LX) (E := []) (mi := 45) (cuts := []) (f := 76) (S := pl_s89) (lx := none) (XF := []) ⟨pl_nmu, ck_E0⟩ ck_X0 ck_l0 (by decide +kernel)
end
/-! 78r86a01.sl -/
section
/-! EVERY CALL OF THE CLASS ENDS, under a law (laid by wip/am/p2l.py). -/
set_option maxRecDepth 100000 in
/-- GlacierMail$Rows.put -/
noncomputable def pl_s90 : ck_Sum := ((0, 0, 0), 249, [.inr (.inr (.inl 19)), .inl (ck_one (-1)), .inl (ck_one 2), .inl (1, 20, [])], ([], [], []), ([], []), [(.inr none, 249, ([], [], []))])
set_option maxRecDepth 100000 in
theorem pl_s90_s {X : Int → Int} {LX : Nat} : ck_Ok p2_OL X LX 45 pl_s90 := ck_ok_s (O := p2_OL) (X := X) (LX := LX) (E := []) (mi := 45) (cuts := []) (f := 76) (S := pl_s90) (lx := none) (XF := []) ⟨pl_nmu, ck_E0⟩ ck_X0 ck_l0 (by decide +kernel)
set_option maxRecDepth 100000 in
/-- GlacierMail$ValleyReader.readFlood -/
noncomputable def pl_s91 : ck_Sum := ((4, 0, 0), 249, [.inr (.inr (.inl 213))], ([], [], [(214, 3, 3, (0, 400, [(12, 0)]))]), ([(19, 3, 3), (20, 0, 23), (214, 3, 7)], []), [(.inr (some (.inl (ck_one 0))), 249, ([], [], zl21)), (.inr (some (.inl (ck_one 1))), 249, ([], [], zl30))])
set_option maxRecDepth 100000 in
theorem pl_s91_s {X : Int → Int} {LX : Nat} : ck_Ok p2_OL X LX 115 pl_s91 := ck_ok_s (O := p2_OL) (X := X) (LX := LX) (E := [(108, [pl_s81]), (76, [pl_s24]), (94, [pl_s82, pl_s83]), (111, [pl_s50]), (102, [pl_s84]), (45, [pl_s85, pl_s86, pl_s87, pl_s88, pl_s89, pl_s90]), (93, [pl_s26])]) (mi := 115) (cuts := []) (f := 194) (S := pl_s91) (lx := none) (XF := []) ⟨pl_nmu, ck_E1 (ck_S1 pl_s81_s ck_S0) (ck_E1 (ck_S1 pl_s24_s ck_S0) (ck_E1 (ck_S1 pl_s82_s (ck_S1 pl_s83_s ck_S0)) (ck_E1 (ck_S1 pl_s50_s ck_S0) (ck_E1 (ck_S1 pl_s84_s ck_S0) (ck_E1 (ck_S1 pl_s85_s (ck_S1 pl_s86_s (ck_S1 pl_s87_s (ck_S1 pl_s88_s (ck_S1 pl_s89_s (ck_S1 pl_s90_s ck_S0)))))) (ck_E1 (ck_S1 pl_s26_s ck_S0) ck_E0))))))⟩ ck_X0 ck_l0 (by decide +kernel)
set_option maxRecDepth 100000 in
/-- GlacierMail$Words.needNumber -/
noncomputable def pl_s92 : ck_Sum := ((2, 0, 0), 249, [.inr (.inr (.inl 214)), .inl (ck_one 0), .inl (ck_one 9999)], ([], [], [(214, 3, 3, (0, 400, [(12, 0)]))]), ([(214, 3, 7)], []), [(.inr (some (.inl (ck_one (-1)))), 249, ([], [], zl7)), (.inr (some (.inl (0, 9999, []))), 249, ([], [], [(214, 3, 3, (0, 400, [(1000012, 0)]))]))])
set_option maxRecDepth 100000 in
theorem pl_s92_s {X : Int → Int} {LX : Nat} : ck_Ok p2_OL X LX 94 pl_s92 := ck_ok_s (O := p2_OL) (X := X) (LX := LX) (E := [(93, [pl_s26]), (76, [pl_s24])]) (mi := 94) (cuts := []) (f := 106) (S := pl_s92) (lx := none) (XF := []) ⟨pl_nmu, ck_E1 (ck_S1 pl_s26_s ck_S0) (ck_E1 (ck_S1 pl_s24_s ck_S0) ck_E0)⟩ ck_X0 ck_l0 (by decide +kernel)
set_option maxRecDepth 100000 in
/-- GlacierMail$ValleyReader.readSeed -/
noncomputable def pl_s93 : ck_Sum := ((3, 0, 0), 249, [.inr (.inr (.inl 213))], ([], [], [(214, 3, 3, (0, 400, [(12, 0)]))]), ([(16, 5, 5), (214, 3, 7)], []), zl225)
set_option maxRecDepth 100000 in
theorem pl_s93_s {X : Int → Int} {LX : Nat} : ck_Ok p2_OL X LX 114 pl_s93 := ck_ok_s (O := p2_OL) (X := X) (LX := LX) (E := [(76, [pl_s24]), (94, [pl_s92])]) (mi := 114) (cuts := []) (f := 106) (S := pl_s93) (lx := none) (XF := []) ⟨pl_nmu, ck_E1 (ck_S1 pl_s24_s ck_S0) (ck_E1 (ck_S1 pl_s92_s ck_S0) ck_E0)⟩ ck_X0 ck_l0 (by decide +kernel)
set_option maxRecDepth 100000 in
/-- GlacierMail$Words.needNumber -/
noncomputable def pl_s94 : ck_Sum := ((2, 0, 0), 249, [.inr (.inr (.inl 214)), .inl (ck_one 0), .inl (1, 6, [])], ([], [], [(214, 3, 3, (0, 400, [(12, 0)]))]), ([(214, 3, 7)], []), [(.inr (some (.inl (ck_one (-1)))), 249, ([], [], zl7)), (.inr (some (.inl (0, 6, []))), 249, ([], [], [(214, 3, 3, (0, 400, [(1000012, 0)]))]))])
set_option maxRecDepth 100000 in
theorem pl_s94_s {X : Int → Int} {LX : Nat} : ck_Ok p2_OL X LX 94 pl_s94 := ck_ok_s (O := p2_OL) (X := X) (LX := LX) (E := [(93, [pl_s26]), (76, [pl_s24])]) (mi := 94) (cuts := []) (f := 106) (S := pl_s94) (lx := none) (XF := []) ⟨pl_nmu, ck_E1 (ck_S1 pl_s26_s ck_S0) (ck_E1 (ck_S1 pl_s24_s ck_S0) ck_E0)⟩ ck_X0 ck_l0 (by decide +kernel)
set_option maxRecDepth 100000 in
/-- GlacierMail$ValleyReader.readStripe -/
noncomputable def pl_s95 : ck_Sum := ((3, 0, 0), 249, [.inr (.inr (.inl 213))], ([], [], [(214, 3, 3, (0, 400, [(12, 0)]))]), ([(16, 4, 4), (214, 3, 7)], []), zl225)
set_option maxRecDepth 100000 in
theorem pl_s95_s {X : Int → Int} {LX : Nat} : ck_Ok p2_OL X LX 113 pl_s95 := ck_ok_s (O := p2_OL) (X := X) (LX := LX) (E := [(76, [pl_s24]), (94, [pl_s94])]) (mi := 113) (cuts := []) (f := 110) (S := pl_s95) (lx := none) (XF := []) ⟨pl_nmu, ck_E1 (ck_S1 pl_s24_s ck_S0) (ck_E1 (ck_S1 pl_s94_s ck_S0) ck_E0)⟩ ck_X0 ck_l0 (by decide +kernel)
set_option maxRecDepth 100000 in
/-- GlacierMail$Words.isWord -/
noncomputable def pl_s96 : ck_Sum := ((6, 0, 0), 249, [.inr (.inr (.inl 214)), .inr (.inr (.inr 21))], ([], [], [(214, 3, 3, (0, 400, [(12, 0)]))]), ([], []), zl219)
set_option maxRecDepth 100000 in
theorem pl_s96_s {X : Int → Int} {LX : Nat} : ck_Ok p2_OL X LX 81 pl_s96 := ck_ok_s (O := p2_OL) (X := X) (LX := LX) (E := []) (mi := 81) (cuts := []) (f := 310) (S := pl_s96) (lx := none) (XF := []) ⟨pl_nmu, ck_E0⟩ ck_X0 ck_l0 (by decide +kernel)
set_option maxRecDepth 100000 in
/-- GlacierMail$Words.takeWord -/
noncomputable def pl_s97 : ck_Sum := ((7, 0, 0), 249, [.inr (.inr (.inl 214)), .inr (.inr (.inr 21))], ([], [], [(214, 3, 3, (0, 400, [(12, 0)]))]), ([(214, 3, 4), (214, 6, 7)], []), [(.inr (some (.inl (ck_one 0))), 249, ([], [], [(214, 3, 3, (0, 400, [(12, 0)]))])), (.inr (some (.inl (ck_one 1))), 249, ([], [], [(214, 3, 3, (4, 400, [(1000012, 0)]))]))])
set_option maxRecDepth 100000 in
theorem pl_s97_s {X : Int → Int} {LX : Nat} : ck_Ok p2_OL X LX 95 pl_s97 := ck_ok_s (O := p2_OL) (X := X) (LX := LX) (E := [(81, [pl_s96]), (76, [pl_s24])]) (mi := 95) (cuts := []) (f := 90) (S := pl_s97) (lx := none) (XF := []) ⟨pl_nmu, ck_E1 (ck_S1 pl_s96_s ck_S0) (ck_E1 (ck_S1 pl_s24_s ck_S0) ck_E0)⟩ ck_X0 ck_l0 (by decide +kernel)
set_option maxRecDepth 100000 in
/-- GlacierMail$Words.needWord -/
noncomputable def pl_s98 : ck_Sum := ((8, 0, 0), 249, [.inr (.inr (.inl 214)), .inr (.inr (.inr 21))], ([], [], [(214, 3, 3, (0, 400, [(12, 0)]))]), ([(214, 3, 7)], []), [(.inr (some (.inl (ck_one 0))), 249, ([], [], zl7)), (.inr (some (.inl (ck_one 1))), 249, ([], [], [(214, 3, 3, (4, 400, [(1000012, 0)]))]))])
set_option maxRecDepth 100000 in
theorem pl_s98_s {X : Int → Int} {LX : Nat} : ck_Ok p2_OL X LX 112 pl_s98 := ck_ok_s (O := p2_OL) (X := X) (LX := LX) (E := [(95, [pl_s97]), (93, [pl_s26])]) (mi := 112) (cuts := []) (f := 88) (S := pl_s98) (lx := none) (XF := []) ⟨pl_nmu, ck_E1 (ck_S1 pl_s97_s ck_S0) (ck_E1 (ck_S1 pl_s26_s ck_S0) ck_E0)⟩ ck_X0 ck_l0 (by decide +kernel)
set_option maxRecDepth 100000 in
/-- GlacierMail$Words.needNumber -/
noncomputable def pl_s99 : ck_Sum := ((2, 0, 0), 249, [.inr (.inr (.inl 214)), .inl (ck_one 0), .inl (ck_one 9)], ([], [], [(214, 3, 3, (0, 400, [(12, 0)]))]), ([(214, 3, 7)], []), [(.inr (some (.inl (ck_one (-1)))), 249, ([], [], zl7)), (.inr (some (.inl (0, 9, []))), 249, ([], [], [(214, 3, 3, (0, 400, [(1000012, 0)]))]))])
set_option maxRecDepth 100000 in
theorem pl_s99_s {X : Int → Int} {LX : Nat} : ck_Ok p2_OL X LX 94 pl_s99 := ck_ok_s (O := p2_OL) (X := X) (LX := LX) (E := [(93, [pl_s26]), (76, [pl_s24])]) (mi := 94) (cuts := []) (f := 106) (S := pl_s99) (lx := none) (XF := []) ⟨pl_nmu, ck_E1 (ck_S1 pl_s26_s ck_S0) (ck_E1 (ck_S1 pl_s24_s ck_S0) ck_E0)⟩ ck_X0 ck_l0 (by decide +kernel)
set_option maxRecDepth 100000 in
/-- GlacierMail$ValleyReader.readSnow -/
noncomputable def pl_s100 : ck_Sum := ((9, 0, 0), 249, [.inr (.inr (.inl 213))], ([], [], [(214, 3, 3, (0, 400, [(12, 0)]))]), ([(16, 2, 3), (214, 3, 7)], []), zl226)
set_option maxRecDepth 100000 in
theorem pl_s100_s {X : Int → Int} {LX : Nat} : ck_Ok p2_OL X LX 110 pl_s100 := ck_ok_s (O := p2_OL) (X := X) (LX := LX) (E := [(76, [pl_s24]), (111, [pl_s50]), (112, [pl_s98]), (94, [pl_s99])]) (mi := 110) (cuts := []) (f := 136) (S := pl_s100) (lx := none) (XF := []) ⟨pl_nmu, ck_E1 (ck_S1 pl_s24_s ck_S0) (ck_E1 (ck_S1 pl_s50_s ck_S0) (ck_E1 (ck_S1 pl_s98_s ck_S0) (ck_E1 (ck_S1 pl_s99_s ck_S0) ck_E0)))⟩ ck_X0 ck_l0 (by decide +kernel)
set_option maxRecDepth 100000 in
/-- GlacierMail$Rows.isFull -/
noncomputable def pl_s101 : ck_Sum := ((0, 0, 0), 249, [.inr (.inr (.inl 17))], ([], [], []), ([], []), [(.inr (some (.inl (ck_one 0))), 249, ([], [], [(17, 3, 3, (0, 7, []))])), (.inr (some (.inl (ck_one 1))), 249, ([], [], [(17, 3, 3, ck_one 8)]))])
set_option maxRecDepth 100000 in
theorem pl_s101_s {X : Int → Int} {LX : Nat} : ck_Ok p2_OL X LX 108 pl_s101 := ck_ok_s (O := p2_OL) (X := X) (LX := LX) (E := []) (mi := 108) (cuts := []) (f := 86) (S := pl_s101) (lx := none) (XF := []) ⟨pl_nmu, ck_E0⟩ ck_X0 ck_l0 (by decide +kernel)
set_option maxRecDepth 100000 in
/-- GlacierMail$Rows.size -/
noncomputable def pl_s102 : ck_Sum := ((0, 0, 0), 249, [.inr (.inr (.inl 17))], ([], [], []), ([], []), [(.inr (some (.inl (0, 8, []))), 249, ([], [], []))])
set_option maxRecDepth 100000 in
theorem pl_s102_s {X : Int → Int} {LX : Nat} : ck_Ok p2_OL X LX 9 pl_s102 := ck_ok_s (O := p2_OL) (X := X) (LX := LX) (E := []) (mi := 9) (cuts := []) (f := 76) (S := pl_s102) (lx := none) (XF := []) ⟨pl_nmu, ck_E0⟩ ck_X0 ck_l0 (by decide +kernel)
set_option maxRecDepth 100000 in
/-- GlacierMail$Rows.get -/
noncomputable def pl_s103 : ck_Sum := ((0, 0, 0), 249, [.inr (.inr (.inl 17)), .inl ((-2147483648), 2147483647, []), .inl ((-2147483648), 2147483647, [])], ([], [], []), ([], []), [(.inr (some (.inl (ck_one (-1)))), 249, ([], [], [])), (.inr (some (.inl (0, 98, []))), 249, ([], [], [(17, 3, 3, (1, 8, []))]))])
set_option maxRecDepth 100000 in
theorem pl_s103_s {X : Int → Int} {LX : Nat} : ck_Ok p2_OL X LX 10 pl_s103 := ck_ok_s (O := p2_OL) (X := X) (LX := LX) (E := []) (mi := 10) (cuts := []) (f := 114) (S := pl_s103) (lx := none) (XF := []) ⟨pl_nmu, ck_E0⟩ ck_X0 ck_l0 (by decide +kernel)
set_option maxRecDepth 100000 in
/-- GlacierMail$Words.needNumber -/
noncomputable def pl_s104 : ck_Sum := ((2, 0, 0), 249, [.inr (.inr (.inl 214)), .inl (ck_one 0), .inl (ck_one 0)], ([], [], [(214, 3, 3, (0, 400, [(12, 0)]))]), ([(214, 3, 7)], []), [(.inr (some (.inl (ck_one (-1)))), 249, ([], [], zl7)), (.inr (some (.inl (ck_one 0))), 249, ([], [], [(214, 3, 3, (0, 400, [(1000012, 0)]))]))])
set_option maxRecDepth 100000 in
theorem pl_s104_s {X : Int → Int} {LX : Nat} : ck_Ok p2_OL X LX 94 pl_s104 := ck_ok_s (O := p2_OL) (X := X) (LX := LX) (E := [(93, [pl_s26]), (76, [pl_s24])]) (mi := 94) (cuts := []) (f := 106) (S := pl_s104) (lx := none) (XF := []) ⟨pl_nmu, ck_E1 (ck_S1 pl_s26_s ck_S0) (ck_E1 (ck_S1 pl_s24_s ck_S0) ck_E0)⟩ ck_X0 ck_l0 (by decide +kernel)
set_option maxRecDepth 100000 in
/-- GlacierMail$Words.needNumber -/
noncomputable def pl_s105 : ck_Sum := ((2, 0, 0), 249, [.inr (.inr (.inl 214)), .inl (1, 99, []), .inl (9, 98, [])], ([], [], [(214, 3, 3, (0, 400, [(12, 0)]))]), ([(214, 3, 7)], []), [(.inr (some (.inl (ck_one (-1)))), 249, ([], [], zl7)), (.inr (some (.inl (1, 98, []))), 249, ([], [], [(214, 3, 3, (0, 400, [(1000012, 0)]))]))])
set_option maxRecDepth 100000 in
theorem pl_s105_s {X : Int → Int} {LX : Nat} : ck_Ok p2_OL X LX 94 pl_s105 := ck_ok_s (O := p2_OL) (X := X) (LX := LX) (E := [(93, [pl_s26]), (76, [pl_s24])]) (mi := 94) (cuts := []) (f := 106) (S := pl_s105) (lx := none) (XF := []) ⟨pl_nmu, ck_E1 (ck_S1 pl_s26_s ck_S0) (ck_E1 (ck_S1 pl_s24_s ck_S0) ck_E0)⟩ ck_X0 ck_l0 (by decide +kernel)
set_option maxRecDepth 100000 in
/-- GlacierMail$Words.needNumber -/
noncomputable def pl_s106 : ck_Sum := ((1, 0, 0), 249, [.inr (.inr (.inl 214)), .inl (1, 99, []), .inl (ck_one 0)], ([], [], []), ([(214, 5, 5)], []), [(.inr (some (.inl (ck_one (-1)))), 249, ([], [], [(214, 5, 5, (0, 400, []))]))])
set_option maxRecDepth 100000 in
theorem pl_s106_s {X : Int → Int} {LX : Nat} : ck_Ok p2_OL X LX 94 pl_s106 := ck_ok_s (O := p2_OL) (X := X) (LX := LX) (E := [(93, [pl_s26])]) (mi := 94) (cuts := []) (f := 106) (S := pl_s106) (lx := none) (XF := []) ⟨pl_nmu, ck_E1 (ck_S1 pl_s26_s ck_S0) ck_E0⟩ ck_X0 ck_l0 (by decide +kernel)
set_option maxRecDepth 100000 in
/-- GlacierMail$Rows.add -/
noncomputable def pl_s107 : ck_Sum := ((0, 0, 0), 249, [.inr (.inr (.inl 17))], ([], [], []), ([(17, 3, 3)], []), [(.inr (some (.inl (0, 7, []))), 249, ([], [], [(17, 3, 3, (1, 8, []))])), (.inr (some (.inl (ck_one (-1)))), 249, ([], [], [(17, 3, 3, ck_one 8)]))])
set_option maxRecDepth 100000 in
theorem pl_s107_s {X : Int → Int} {LX : Nat} : ck_Ok p2_OL X LX 102 pl_s107 := ck_ok_s (O := p2_OL) (X := X) (LX := LX) (E := []) (mi := 102) (cuts := []) (f := 102) (S := pl_s107) (lx := none) (XF := []) ⟨pl_nmu, ck_E0⟩ ck_X0 ck_l0 (by decide +kernel)
set_option maxRecDepth 100000 in
/-- GlacierMail$Rows.put -/
noncomputable def pl_s108 : ck_Sum := ((0, 0, 0), 249, [.inr (.inr (.inl 17)), .inl (0, 7, []), .inl (ck_one 0), .inl (0, 98, [])], ([], [], []), (zl33, []), [(.inr none, 249, ([], [], []))])
set_option maxRecDepth 100000 in
theorem pl_s108_s {X : Int → Int} {LX : Nat} : ck_Ok p2_OL X LX 45 pl_s108 := ck_ok_s (O := p2_OL) (X := X) (LX := LX) (E := []) (mi := 45) (cuts := []) (f := 116) (S := pl_s108) (lx := none) (XF := []) ⟨pl_nmu, ck_E0⟩ ck_X0 ck_l0 (by decide +kernel)
set_option maxRecDepth 100000 in
/-- GlacierMail$Rows.put -/
noncomputable def pl_s109 : ck_Sum := ((0, 0, 0), 249, [.inr (.inr (.inl 17)), .inl (ck_one (-1)), .inl (ck_one 0), .inl (0, 98, [])], ([], [], []), ([], []), [(.inr none, 249, ([], [], []))])
set_option maxRecDepth 100000 in
theorem pl_s109_s {X : Int → Int} {LX : Nat} : ck_Ok p2_OL X LX 45 pl_s109 := ck_ok_s (O := p2_OL) (X := X) (LX := LX) (E := []) (mi := 45) (cuts := []) (f := 76) (S := pl_s109) (lx := none) (XF := []) ⟨pl_nmu, ck_E0⟩ ck_X0 ck_l0 (by decide +kernel)
set_option maxRecDepth 100000 in
/-- GlacierMail$Rows.put -/
noncomputable def pl_s110 : ck_Sum := ((0, 0, 0), 249, [.inr (.inr (.inl 17)), .inl (0, 7, []), .inl (ck_one 0), .inl (ck_one 0)], ([], [], []), (zl33, []), [(.inr none, 249, ([], [], []))])
set_option maxRecDepth 100000 in
theorem pl_s110_s {X : Int → Int} {LX : Nat} : ck_Ok p2_OL X LX 45 pl_s110 := ck_ok_s (O := p2_OL) (X := X) (LX := LX) (E := []) (mi := 45) (cuts := []) (f := 116) (S := pl_s110) (lx := none) (XF := []) ⟨pl_nmu, ck_E0⟩ ck_X0 ck_l0 (by decide +kernel)
set_option maxRecDepth 100000 in
/-- GlacierMail$Rows.put -/
noncomputable def pl_s111 : ck_Sum := ((0, 0, 0), 249, [.inr (.inr (.inl 17)), .inl (ck_one (-1)), .inl (ck_one 0), .inl (ck_one 0)], ([], [], []), ([], []), [(.inr none, 249, ([], [], []))])
set_option maxRecDepth 100000 in
theorem pl_s111_s {X : Int → Int} {LX : Nat} : ck_Ok p2_OL X LX 45 pl_s111 := ck_ok_s (O := p2_OL) (X := X) (LX := LX) (E := []) (mi := 45) (cuts := []) (f := 76) (S := pl_s111) (lx := none) (XF := []) ⟨pl_nmu, ck_E0⟩ ck_X0 ck_l0 (by decide +kernel)
set_option maxRecDepth 100000 in
/-- GlacierMail$Rows.put -/
noncomputable def pl_s112 : ck_Sum := ((0, 0, 0), 249, [.inr (.inr (.inl 17)), .inl (0, 7, []), .inl (ck_one 0), .inl (1, 98, [])], ([], [], []), (zl33, []), [(.inr none, 249, ([], [], []))])
set_option maxRecDepth 100000 in
theorem pl_s112_s {X : Int → Int} {LX : Nat} : ck_Ok p2_OL X LX 45 pl_s112 := ck_ok_s (O := p2_OL) (X := X) (LX := LX) (E := []) (mi := 45) (cuts := []) (f := 116) (S := pl_s112) (lx := none) (XF := []) ⟨pl_nmu, ck_E0⟩ ck_X0 ck_l0 (by decide +kernel)
set_option maxRecDepth 100000 in
/-- GlacierMail$Rows.put -/
noncomputable def pl_s113 : ck_Sum := ((0, 0, 0), 249, [.inr (.inr (.inl 17)), .inl (ck_one (-1)), .inl (ck_one 0), .inl (1, 98, [])], ([], [], []), ([], []), [(.inr none, 249, ([], [], []))])
set_option maxRecDepth 100000 in
theorem pl_s113_s {X : Int → Int} {LX : Nat} : ck_Ok p2_OL X LX 45 pl_s113 := ck_ok_s (O := p2_OL) (X := X) (LX := LX) (E := []) (mi := 45) (cuts := []) (f := 76) (S := pl_s113) (lx := none) (XF := []) ⟨pl_nmu, ck_E0⟩ ck_X0 ck_l0 (by decide +kernel)
set_option maxRecDepth 100000 in
/-- GlacierMail$Rows.put -/
noncomputable def pl_s114 : ck_Sum := ((0, 0, 0), 249, [.inr (.inr (.inl 17)), .inl (0, 7, []), .inl (1, 6, []), .inl (0, 20, [])], ([], [], []), (zl34, []), [(.inr none, 249, ([], [], []))])
set_option maxRecDepth 100000 in
theorem pl_s114_s {X : Int → Int} {LX : Nat} : ck_Ok p2_OL X LX 45 pl_s114 := ck_ok_s (O := p2_OL) (X := X) (LX := LX) (E := []) (mi := 45) (cuts := []) (f := 116) (S := pl_s114) (lx := none) (XF := []) ⟨pl_nmu, ck_E0⟩ ck_X0 ck_l0 (by decide +kernel)
set_option maxRecDepth 100000 in
/-- GlacierMail$ValleyReader.readSpeeds -/
noncomputable def pl_s115 : ck_Sum := ((3, 0, 0), 249, [.inr (.inr (.inl 213)), .inr (.inr (.inl 17)), .inl (0, 7, []), .inl (ck_one 1)], ([], [], [(214, 3, 3, (0, 400, [(12, 0)]))]), (zl35, []), zl221)
set_option maxRecDepth 100000 in
theorem pl_s115_s {X : Int → Int} {LX : Nat} : ck_Ok p2_OL X LX 109 pl_s115 := ck_ok_s (O := p2_OL) (X := X) (LX := LX) (E := [(94, [pl_s40]), (45, [pl_s114])]) (mi := 109) (cuts := [(3, [some (.inr (.inr (.inl 213))), some (.inr (.inr (.inl 17))), some (.inl (0, 7, [])), some (.inl (ck_one 1)), some (.inl (0, 6, [])), none], ([], [], [(214, 3, 3, (0, 400, [(1000012, 0)]))]), 100, .inl 4, true)]) (f := 186) (S := pl_s115) (lx := none) (XF := []) ⟨pl_nmu, ck_E1 (ck_S1 pl_s40_s ck_S0) (ck_E1 (ck_S1 pl_s114_s ck_S0) ck_E0)⟩ ck_X0 ck_l0 (by decide +kernel)
set_option maxRecDepth 100000 in
/-- GlacierMail$Rows.put -/
noncomputable def pl_s116 : ck_Sum := ((0, 0, 0), 249, [.inr (.inr (.inl 17)), .inl (ck_one (-1)), .inl (1, 6, []), .inl (0, 20, [])], ([], [], []), ([], []), [(.inr none, 249, ([], [], []))])
set_option maxRecDepth 100000 in
theorem pl_s116_s {X : Int → Int} {LX : Nat} : ck_Ok p2_OL X LX 45 pl_s116 := ck_ok_s (O := p2_OL) (X := X) (LX := LX) (E := []) (mi := 45) (cuts := []) (f := 76) (S := pl_s116) (lx := none) (XF := []) ⟨pl_nmu, ck_E0⟩ ck_X0 ck_l0 (by decide +kernel)
set_option maxRecDepth 100000 in
/-- GlacierMail$ValleyReader.readSpeeds -/
noncomputable def pl_s117 : ck_Sum := ((3, 0, 0), 249, [.inr (.inr (.inl 213)), .inr (.inr (.inl 17)), .inl (ck_one (-1)), .inl (ck_one 1)], ([], [], [(214, 3, 3, (0, 400, [(12, 0)]))]), ([(214, 3, 7)], []), zl221)
set_option maxRecDepth 100000 in
theorem pl_s117_s {X : Int → Int} {LX : Nat} : ck_Ok p2_OL X LX 109 pl_s117 := ck_ok_s (O := p2_OL) (X := X) (LX := LX) (E := [(94, [pl_s40]), (45, [pl_s116])]) (mi := 109) (cuts := [(3, [some (.inr (.inr (.inl 213))), some (.inr (.inr (.inl 17))), some (.inl (ck_one (-1))), some (.inl (ck_one 1)), some (.inl (0, 6, [])), none], ([], [], [(214, 3, 3, (0, 400, [(1000012, 0)]))]), 100, .inl 4, true)]) (f := 186) (S := pl_s117) (lx := none) (XF := []) ⟨pl_nmu, ck_E1 (ck_S1 pl_s40_s ck_S0) (ck_E1 (ck_S1 pl_s116_s ck_S0) ck_E0)⟩ ck_X0 ck_l0 (by decide +kernel)
set_option maxRecDepth 100000 in
/-- GlacierMail$ValleyReader.readSection -/
noncomputable def pl_s118 : ck_Sum := ((4, 0, 0), 249, [.inr (.inr (.inl 213))], ([], [], [(214, 3, 3, (0, 400, [(12, 0)]))]), ([(17, 3, 3), (18, 0, 55), (214, 3, 7)], []), [(.inr (some (.inl (ck_one 0))), 249, ([], [], zl21)), (.inr (some (.inl (ck_one 1))), 249, ([], [], zl36))])
set_option maxRecDepth 100000 in
theorem pl_s118_s {X : Int → Int} {LX : Nat} : ck_Ok p2_OL X LX 107 pl_s118 := ck_ok_s (O := p2_OL) (X := X) (LX := LX) (E := [(108, [pl_s101]), (76, [pl_s24]), (9, [pl_s102]), (10, [pl_s103]), (94, [pl_s49, pl_s104, pl_s105, pl_s106]), (102, [pl_s107]), (45, [pl_s108, pl_s109, pl_s110, pl_s111, pl_s112, pl_s113]), (109, [pl_s115, pl_s117]), (93, [pl_s26])]) (mi := 107) (cuts := []) (f := 188) (S := pl_s118) (lx := none) (XF := []) ⟨pl_nmu, ck_E1 (ck_S1 pl_s101_s ck_S0) (ck_E1 (ck_S1 pl_s24_s ck_S0) (ck_E1 (ck_S1 pl_s102_s ck_S0) (ck_E1 (ck_S1 pl_s103_s ck_S0) (ck_E1 (ck_S1 pl_s49_s (ck_S1 pl_s104_s (ck_S1 pl_s105_s (ck_S1 pl_s106_s ck_S0)))) (ck_E1 (ck_S1 pl_s107_s ck_S0) (ck_E1 (ck_S1 pl_s108_s (ck_S1 pl_s109_s (ck_S1 pl_s110_s (ck_S1 pl_s111_s (ck_S1 pl_s112_s (ck_S1 pl_s113_s ck_S0)))))) (ck_E1 (ck_S1 pl_s115_s (ck_S1 pl_s117_s ck_S0)) (ck_E1 (ck_S1 pl_s26_s ck_S0) ck_E0))))))))⟩ ck_X0 ck_l0 (by decide +kernel)
set_option maxRecDepth 100000 in
/-- GlacierMail$Rows.size -/
noncomputable def pl_s119 : ck_Sum := ((0, 0, 0), 249, [.inr (.inr (.inl 19))], ([], [], []), ([], []), [(.inr (some (.inl (0, 8, []))), 249, ([], [], []))])
set_option maxRecDepth 100000 in
theorem pl_s119_s {X : Int → Int} {LX : Nat} : ck_Ok p2_OL X LX 9 pl_s119 := ck_ok_s (O := p2_OL) (X := X) (LX := LX) (E := []) (mi := 9) (cuts := []) (f := 76) (S := pl_s119) (lx := none) (XF := []) ⟨pl_nmu, ck_E0⟩ ck_X0 ck_l0 (by decide +kernel)
set_option maxRecDepth 100000 in
/-- GlacierMail$Rows.size -/
noncomputable def pl_s120 : ck_Sum := ((0, 0, 0), 249, [.inr (.inr (.inl 21))], ([], [], []), ([], []), [(.inr (some (.inl (0, 8, []))), 249, ([], [], []))])
set_option maxRecDepth 100000 in
theorem pl_s120_s {X : Int → Int} {LX : Nat} : ck_Ok p2_OL X LX 9 pl_s120 := ck_ok_s (O := p2_OL) (X := X) (LX := LX) (E := []) (mi := 9) (cuts := []) (f := 76) (S := pl_s120) (lx := none) (XF := []) ⟨pl_nmu, ck_E0⟩ ck_X0 ck_l0 (by decide +kernel)
set_option maxRecDepth 100000 in
/-- GlacierMail$Rows.size -/
noncomputable def pl_s121 : ck_Sum := ((0, 0, 0), 249, [.inr (.inr (.inl 23))], ([], [], []), ([], []), [(.inr (some (.inl (0, 24, []))), 249, ([], [], []))])
set_option maxRecDepth 100000 in
theorem pl_s121_s {X : Int → Int} {LX : Nat} : ck_Ok p2_OL X LX 9 pl_s121 := ck_ok_s (O := p2_OL) (X := X) (LX := LX) (E := []) (mi := 9) (cuts := []) (f := 76) (S := pl_s121) (lx := none) (XF := []) ⟨pl_nmu, ck_E0⟩ ck_X0 ck_l0 (by decide +kernel)
set_option maxRecDepth 100000 in
/-- GlacierMail$Rows.size -/
noncomputable def pl_s122 : ck_Sum := ((0, 0, 0), 249, [.inr (.inr (.inl 25))], ([], [], []), ([], []), [(.inr (some (.inl (0, 6, []))), 249, ([], [], []))])
set_option maxRecDepth 100000 in
theorem pl_s122_s {X : Int → Int} {LX : Nat} : ck_Ok p2_OL X LX 9 pl_s122 := ck_ok_s (O := p2_OL) (X := X) (LX := LX) (E := []) (mi := 9) (cuts := []) (f := 76) (S := pl_s122) (lx := none) (XF := []) ⟨pl_nmu, ck_E0⟩ ck_X0 ck_l0 (by decide +kernel)
set_option maxRecDepth 100000 in
/-- GlacierMail$State.isEmpty -/
noncomputable def pl_s123 : ck_Sum := ((1, 0, 0), 249, [.inr (.inr (.inl 16))], ([], [], []), ([], []), [(.inr (some (.inl (ck_one 0))), 249, ([], [], [])), (.inr (some (.inl (ck_one 1))), 249, ([], [], []))])
set_option maxRecDepth 100000 in
theorem pl_s123_s {X : Int → Int} {LX : Nat} : ck_Ok p2_OL X LX 105 pl_s123 := ck_ok_s (O := p2_OL) (X := X) (LX := LX) (E := [(9, [pl_s102, pl_s119, pl_s120, pl_s121, pl_s122])]) (mi := 105) (cuts := []) (f := 116) (S := pl_s123) (lx := none) (XF := []) ⟨pl_nmu, ck_E1 (ck_S1 pl_s102_s (ck_S1 pl_s119_s (ck_S1 pl_s120_s (ck_S1 pl_s121_s (ck_S1 pl_s122_s ck_S0))))) ck_E0⟩ ck_X0 ck_l0 (by decide +kernel)
set_option maxRecDepth 100000 in
/-- GlacierMail$Words.needNumber -/
noncomputable def pl_s124 : ck_Sum := ((2, 0, 0), 249, [.inr (.inr (.inl 214)), .inl (ck_one 10), .inl (ck_one 99)], ([], [], [(214, 3, 3, (0, 400, [(12, 0)]))]), ([(214, 3, 7)], []), [(.inr (some (.inl (ck_one (-1)))), 249, ([], [], zl7)), (.inr (some (.inl (10, 99, []))), 249, ([], [], [(214, 3, 3, (0, 400, [(1000012, 0)]))]))])
set_option maxRecDepth 100000 in
theorem pl_s124_s {X : Int → Int} {LX : Nat} : ck_Ok p2_OL X LX 94 pl_s124 := ck_ok_s (O := p2_OL) (X := X) (LX := LX) (E := [(93, [pl_s26]), (76, [pl_s24])]) (mi := 94) (cuts := []) (f := 106) (S := pl_s124) (lx := none) (XF := []) ⟨pl_nmu, ck_E1 (ck_S1 pl_s26_s ck_S0) (ck_E1 (ck_S1 pl_s24_s ck_S0) ck_E0)⟩ ck_X0 ck_l0 (by decide +kernel)
set_option maxRecDepth 100000 in
/-- GlacierMail$ValleyReader.readLast -/
noncomputable def pl_s125 : ck_Sum := ((3, 0, 0), 249, [.inr (.inr (.inl 213))], ([], [], [(214, 3, 3, (0, 400, [(12, 0)]))]), ([(16, 1, 2), (214, 3, 7)], []), [(.inr (some (.inl (ck_one 0))), 249, ([], [], zl21)), (.inr (some (.inl (ck_one 1))), 249, ([], [], zl37))])
set_option maxRecDepth 100000 in
theorem pl_s125_s {X : Int → Int} {LX : Nat} : ck_Ok p2_OL X LX 106 pl_s125 := ck_ok_s (O := p2_OL) (X := X) (LX := LX) (E := [(105, [pl_s123]), (93, [pl_s26]), (76, [pl_s24]), (94, [pl_s124])]) (mi := 106) (cuts := []) (f := 122) (S := pl_s125) (lx := none) (XF := []) ⟨pl_nmu, ck_E1 (ck_S1 pl_s123_s ck_S0) (ck_E1 (ck_S1 pl_s26_s ck_S0) (ck_E1 (ck_S1 pl_s24_s ck_S0) (ck_E1 (ck_S1 pl_s124_s ck_S0) ck_E0)))⟩ ck_X0 ck_l0 (by decide +kernel)
set_option maxRecDepth 100000 in
/-- GlacierMail$Words.needNumber -/
noncomputable def pl_s126 : ck_Sum := ((2, 0, 0), 249, [.inr (.inr (.inl 214)), .inl (ck_one 1), .inl (ck_one 6)], ([], [], [(214, 3, 3, (0, 400, [(12, 0)]))]), ([(214, 3, 7)], []), [(.inr (some (.inl (ck_one (-1)))), 249, ([], [], zl7)), (.inr (some (.inl (1, 6, []))), 249, ([], [], [(214, 3, 3, (0, 400, [(1000012, 0)]))]))])
set_option maxRecDepth 100000 in
theorem pl_s126_s {X : Int → Int} {LX : Nat} : ck_Ok p2_OL X LX 94 pl_s126 := ck_ok_s (O := p2_OL) (X := X) (LX := LX) (E := [(93, [pl_s26]), (76, [pl_s24])]) (mi := 94) (cuts := []) (f := 106) (S := pl_s126) (lx := none) (XF := []) ⟨pl_nmu, ck_E1 (ck_S1 pl_s26_s ck_S0) (ck_E1 (ck_S1 pl_s24_s ck_S0) ck_E0)⟩ ck_X0 ck_l0 (by decide +kernel)
set_option maxRecDepth 100000 in
/-- GlacierMail$ValleyReader.readLanes -/
noncomputable def pl_s127 : ck_Sum := ((3, 0, 0), 249, [.inr (.inr (.inl 213))], ([], [], [(214, 3, 3, (0, 400, [(12, 0)]))]), ([(16, 0, 0), (16, 4, 4), (214, 3, 7)], []), [(.inr (some (.inl (ck_one 0))), 249, ([], [], zl21)), (.inr (some (.inl (ck_one 1))), 249, ([], [], zl38))])
set_option maxRecDepth 100000 in
theorem pl_s127_s {X : Int → Int} {LX : Nat} : ck_Ok p2_OL X LX 104 pl_s127 := ck_ok_s (O := p2_OL) (X := X) (LX := LX) (E := [(105, [pl_s123]), (93, [pl_s26]), (76, [pl_s24]), (94, [pl_s126])]) (mi := 104) (cuts := []) (f := 122) (S := pl_s127) (lx := none) (XF := []) ⟨pl_nmu, ck_E1 (ck_S1 pl_s123_s ck_S0) (ck_E1 (ck_S1 pl_s26_s ck_S0) (ck_E1 (ck_S1 pl_s24_s ck_S0) (ck_E1 (ck_S1 pl_s126_s ck_S0) ck_E0)))⟩ ck_X0 ck_l0 (by decide +kernel)
set_option maxRecDepth 100000 in
/-- GlacierMail$ValleyReader.readLine -/
noncomputable def pl_s128 : ck_Sum := ((10, 0, 0), 249, [.inr (.inr (.inl 213))], ([], [], [(214, 3, 3, (0, 400, [(12, 0)]))]), (zl39, []), zl226)
set_option maxRecDepth 100000 in
theorem pl_s128_s {X : Int → Int} {LX : Nat} : ck_Ok p2_OL X LX 103 pl_s128 := ck_ok_s (O := p2_OL) (X := X) (LX := LX) (E := [(81, [pl_s28, pl_s29, pl_s30, pl_s31, pl_s32, pl_s33, pl_s34, pl_s35, pl_s36, pl_s37]), (93, [pl_s26]), (120, [pl_s45]), (118, [pl_s67]), (116, [pl_s80]), (115, [pl_s91]), (114, [pl_s93]), (113, [pl_s95]), (110, [pl_s100]), (107, [pl_s118]), (106, [pl_s125]), (104, [pl_s127])]) (mi := 103) (cuts := []) (f := 178) (S := pl_s128) (lx := none) (XF := []) ⟨pl_nmu, ck_E1 (ck_S1 pl_s28_s (ck_S1 pl_s29_s (ck_S1 pl_s30_s (ck_S1 pl_s31_s (ck_S1 pl_s32_s (ck_S1 pl_s33_s (ck_S1 pl_s34_s (ck_S1 pl_s35_s (ck_S1 pl_s36_s (ck_S1 pl_s37_s ck_S0)))))))))) (ck_E1 (ck_S1 pl_s26_s ck_S0) (ck_E1 (ck_S1 pl_s45_s ck_S0) (ck_E1 (ck_S1 pl_s67_s ck_S0) (ck_E1 (ck_S1 pl_s80_s ck_S0) (ck_E1 (ck_S1 pl_s91_s ck_S0) (ck_E1 (ck_S1 pl_s93_s ck_S0) (ck_E1 (ck_S1 pl_s95_s ck_S0) (ck_E1 (ck_S1 pl_s100_s ck_S0) (ck_E1 (ck_S1 pl_s118_s ck_S0) (ck_E1 (ck_S1 pl_s125_s ck_S0) (ck_E1 (ck_S1 pl_s127_s ck_S0) ck_E0)))))))))))⟩ ck_X0 ck_l0 (by decide +kernel)
set_option maxRecDepth 100000 in
/-- GlacierMail$Words.needSign -/
noncomputable def pl_s129 : ck_Sum := ((2, 0, 0), 249, [.inr (.inr (.inl 214)), .inl (ck_one 59)], ([], [], [(214, 3, 3, (0, 400, [(12, 0)]))]), ([(214, 3, 7)], []), [(.inr (some (.inl (ck_one 1))), 249, ([], [], [(214, 3, 3, (0, 400, [(1000012, 0)]))])), (.inr (some (.inl (ck_one 0))), 249, ([], [], zl7))])
set_option maxRecDepth 100000 in
theorem pl_s129_s {X : Int → Int} {LX : Nat} : ck_Ok p2_OL X LX 98 pl_s129 := ck_ok_s (O := p2_OL) (X := X) (LX := LX) (E := [(76, [pl_s24]), (93, [pl_s26])]) (mi := 98) (cuts := []) (f := 86) (S := pl_s129) (lx := none) (XF := []) ⟨pl_nmu, ck_E1 (ck_S1 pl_s24_s ck_S0) (ck_E1 (ck_S1 pl_s26_s ck_S0) ck_E0)⟩ ck_X0 ck_l0 (by decide +kernel)
set_option maxRecDepth 100000 in
/-- GlacierMail$TextReader.readText -/
noncomputable def pl_s130 : ck_Sum := ((11, 0, 0), 249, [.inr (.inr (.inl 213)), .inl (0, 400, [])], ([], [], [(214, 3, 3, (0, 400, [(12, 0)]))]), (zl40, []), zl217)
set_option maxRecDepth 100000 in
theorem pl_s130_s {X : Int → Int} {LX : Nat} : ck_Ok p2_OL X LX 72 pl_s130 := ck_ok_s (O := p2_OL) (X := X) (LX := LX) (E := [(74, [pl_s21]), (75, [pl_s25]), (93, [pl_s26]), (121, [pl_s27]), (103, [pl_s128]), (98, [pl_s129])]) (mi := 72) (cuts := [(29, [some (.inr (.inr (.inl 213))), some (.inl (0, 400, [])), some (.inl (0, 23, []))], ([], [], []), 100, .inl 2, true)]) (f := 174) (S := pl_s130) (lx := none) (XF := []) ⟨pl_nmu, ck_E1 (ck_S1 pl_s21_s ck_S0) (ck_E1 (ck_S1 pl_s25_s ck_S0) (ck_E1 (ck_S1 pl_s26_s ck_S0) (ck_E1 (ck_S1 pl_s27_s ck_S0) (ck_E1 (ck_S1 pl_s128_s ck_S0) (ck_E1 (ck_S1 pl_s129_s ck_S0) ck_E0)))))⟩ ck_X0 ck_l0 (by decide +kernel)
set_option maxRecDepth 100000 in
/-- GlacierMail$Ice.reckonHeats -/
noncomputable def pl_s131 : ck_Sum := ((0, 0, 0), 249, [.inr (.inr (.inl 200))], ([], [], []), ([(201, 0, 299)], []), [(.inr none, 249, ([], [], []))])
set_option maxRecDepth 100000 in
theorem pl_s131_s {X : Int → Int} {LX : Nat} : ck_Ok p2_OL X LX 6 pl_s131 := ck_ok_s (O := p2_OL) (X := X) (LX := LX) (E := []) (mi := 6) (cuts := [(10, [some (.inr (.inr (.inl 200))), some (.inl ((-2147483648), 2147483647, [])), some (.inl (0, 300, []))], ([], [], []), 100, .inl 2, true)]) (f := 182) (S := pl_s131) (lx := none) (XF := []) ⟨pl_nmu, ck_E0⟩ ck_X0 ck_l0 (by decide +kernel)
set_option maxRecDepth 100000 in
/-- java/util/Arrays.fill -/
noncomputable def pl_s132 : ck_Sum := ((0, 0, 0), 249, [.inr (.inr (.inl 202)), .inl (ck_one 0)], ([], [], []), ([(202, 0, 593)], []), [(.inr none, 249, ([], [], []))])
set_option maxRecDepth 100000 in
theorem pl_s132_s {X : Int → Int} {LX : Nat} : ck_Ok p2_OL X LX 8 pl_s132 := ck_ok_s (O := p2_OL) (X := X) (LX := LX) (E := []) (mi := 8) (cuts := [(5, [some (.inr (.inr (.inl 202))), some (.inl (ck_one 0)), some (.inl (0, 594, [])), some (.inl (ck_one 594))], ([], [], []), 100, .inl 2, true)]) (f := 130) (S := pl_s132) (lx := none) (XF := []) ⟨pl_nmu, ck_E0⟩ ck_X0 ck_l0 (by decide +kernel)
set_option maxRecDepth 100000 in
/-- GlacierMail$Rows.size -/
noncomputable def pl_s133 : ck_Sum := ((0, 0, 0), 249, [.inr (.inr (.inl 4))], ([], [], []), ([], []), [(.inr (some (.inl (0, 8, []))), 249, ([], [], []))])
set_option maxRecDepth 100000 in
theorem pl_s133_s {X : Int → Int} {LX : Nat} : ck_Ok p2_OL X LX 9 pl_s133 := ck_ok_s (O := p2_OL) (X := X) (LX := LX) (E := []) (mi := 9) (cuts := []) (f := 76) (S := pl_s133) (lx := none) (XF := []) ⟨pl_nmu, ck_E0⟩ ck_X0 ck_l0 (by decide +kernel)
set_option maxRecDepth 100000 in
/-- GlacierMail$Rows.get -/
noncomputable def pl_s134 : ck_Sum := ((0, 0, 0), 249, [.inr (.inr (.inl 4)), .inl ((-2147483648), 2147483647, []), .inl ((-2147483648), 2147483647, [])], ([], [], []), ([], []), [(.inr (some (.inl (ck_one (-1)))), 249, ([], [], [])), (.inr (some (.inl (0, 98, []))), 249, ([], [], [(4, 3, 3, (1, 8, []))]))])
set_option maxRecDepth 100000 in
theorem pl_s134_s {X : Int → Int} {LX : Nat} : ck_Ok p2_OL X LX 10 pl_s134 := ck_ok_s (O := p2_OL) (X := X) (LX := LX) (E := []) (mi := 10) (cuts := []) (f := 114) (S := pl_s134) (lx := none) (XF := []) ⟨pl_nmu, ck_E0⟩ ck_X0 ck_l0 (by decide +kernel)
set_option maxRecDepth 100000 in
/-- GlacierMail$Ice.reckonSpeeds -/
noncomputable def pl_s135 : ck_Sum := ((1, 0, 0), 249, [.inr (.inr (.inl 200))], ([], [], []), ([(202, 0, 593)], []), [(.inr none, 249, ([], [], []))])
set_option maxRecDepth 100000 in
theorem pl_s135_s {X : Int → Int} {LX : Nat} : ck_Ok p2_OL X LX 7 pl_s135 := ck_ok_s (O := p2_OL) (X := X) (LX := LX) (E := [(8, [pl_s132]), (9, [pl_s133]), (10, [pl_s134])]) (mi := 7) (cuts := [(10, [some (.inr (.inr (.inl 200))), some (.inl (0, 9, [])), none, none, none, none], ([], [], []), 100, .inl 1, true), (43, [some (.inr (.inr (.inl 200))), some (.inl (0, 7, [(100, 0)])), some (.inl (0, 98, [])), some (.inl (0, 6, [])), none, none], ([], [], []), 300, .inl 3, true), (79, [some (.inr (.inr (.inl 200))), some (.inl (0, 7, [(100, 0)])), some (.inl (0, 98, [])), some (.inl (0, 5, [(300, 0)])), some (.inl ((-1), 98, [])), some (.inl (0, 99, []))], ([], [], []), 500, .inl 5, true)]) (f := 290) (S := pl_s135) (lx := none) (XF := []) ⟨pl_nmu, ck_E1 (ck_S1 pl_s132_s ck_S0) (ck_E1 (ck_S1 pl_s133_s ck_S0) (ck_E1 (ck_S1 pl_s134_s ck_S0) ck_E0))⟩ ck_X0 ck_l0 (by decide +kernel)
set_option maxRecDepth 100000 in
/-- java/util/Arrays.fill -/
noncomputable def pl_s136 : ck_Sum := ((0, 0, 0), 249, [.inr (.inr (.inl 203)), .inl (ck_one 0)], ([], [], []), ([(203, 0, 299)], []), [(.inr none, 249, ([], [], []))])
set_option maxRecDepth 100000 in
theorem pl_s136_s {X : Int → Int} {LX : Nat} : ck_Ok p2_OL X LX 8 pl_s136 := ck_ok_s (O := p2_OL) (X := X) (LX := LX) (E := []) (mi := 8) (cuts := [(5, [some (.inr (.inr (.inl 203))), some (.inl (ck_one 0)), some (.inl (0, 300, [])), some (.inl (ck_one 300))], ([], [], []), 100, .inl 2, true)]) (f := 130) (S := pl_s136) (lx := none) (XF := []) ⟨pl_nmu, ck_E0⟩ ck_X0 ck_l0 (by decide +kernel)
set_option maxRecDepth 100000 in
/-- GlacierMail$Rows.size -/
noncomputable def pl_s137 : ck_Sum := ((0, 0, 0), 249, [.inr (.inr (.inl 6))], ([], [], []), ([], []), [(.inr (some (.inl (0, 8, []))), 249, ([], [], []))])
set_option maxRecDepth 100000 in
theorem pl_s137_s {X : Int → Int} {LX : Nat} : ck_Ok p2_OL X LX 9 pl_s137 := ck_ok_s (O := p2_OL) (X := X) (LX := LX) (E := []) (mi := 9) (cuts := []) (f := 76) (S := pl_s137) (lx := none) (XF := []) ⟨pl_nmu, ck_E0⟩ ck_X0 ck_l0 (by decide +kernel)
set_option maxRecDepth 100000 in
/-- GlacierMail$Rows.get -/
noncomputable def pl_s138 : ck_Sum := ((0, 0, 0), 249, [.inr (.inr (.inl 6)), .inl ((-2147483648), 2147483647, []), .inl ((-2147483648), 2147483647, [])], ([], [], []), ([], []), [(.inr (some (.inl (ck_one (-1)))), 249, ([], [], [])), (.inr (some (.inl (0, 299, []))), 249, ([], [], [(6, 3, 3, (1, 8, []))]))])
set_option maxRecDepth 100000 in
theorem pl_s138_s {X : Int → Int} {LX : Nat} : ck_Ok p2_OL X LX 10 pl_s138 := ck_ok_s (O := p2_OL) (X := X) (LX := LX) (E := []) (mi := 10) (cuts := []) (f := 114) (S := pl_s138) (lx := none) (XF := []) ⟨pl_nmu, ck_E0⟩ ck_X0 ck_l0 (by decide +kernel)
set_option maxRecDepth 100000 in
/-- GlacierMail$Ice.reckonFloods -/
noncomputable def pl_s139 : ck_Sum := ((1, 0, 0), 249, [.inr (.inr (.inl 200))], ([], [], []), ([(203, 0, 299)], []), [(.inr none, 249, ([], [], []))])
set_option maxRecDepth 100000 in
theorem pl_s139_s {X : Int → Int} {LX : Nat} : ck_Ok p2_OL X LX 12 pl_s139 := ck_ok_s (O := p2_OL) (X := X) (LX := LX) (E := [(8, [pl_s136]), (9, [pl_s137]), (10, [pl_s138])]) (mi := 12) (cuts := [(10, [some (.inr (.inr (.inl 200))), some (.inl (0, 9, [])), none], ([], [], []), 100, .inl 1, true)]) (f := 214) (S := pl_s139) (lx := none) (XF := []) ⟨pl_nmu, ck_E1 (ck_S1 pl_s136_s ck_S0) (ck_E1 (ck_S1 pl_s137_s ck_S0) (ck_E1 (ck_S1 pl_s138_s ck_S0) ck_E0))⟩ ck_X0 ck_l0 (by decide +kernel)
set_option maxRecDepth 100000 in
/-- GlacierMail$Ice.renew -/
noncomputable def pl_s140 : ck_Sum := ((2, 0, 0), 249, [.inr (.inr (.inl 200))], ([], [], []), (zl41, []), [(.inr none, 249, ([], [], [(200, 6, 6, ck_one 1)]))])
set_option maxRecDepth 100000 in
theorem pl_s140_s {X : Int → Int} {LX : Nat} : ck_Ok p2_OL X LX 5 pl_s140 := ck_ok_s (O := p2_OL) (X := X) (LX := LX) (E := [(6, [pl_s131]), (7, [pl_s135]), (12, [pl_s139])]) (mi := 5) (cuts := []) (f := 90) (S := pl_s140) (lx := none) (XF := []) ⟨pl_nmu, ck_E1 (ck_S1 pl_s131_s ck_S0) (ck_E1 (ck_S1 pl_s135_s ck_S0) (ck_E1 (ck_S1 pl_s139_s ck_S0) ck_E0))⟩ ck_X0 ck_l0 (by decide +kernel)
set_option maxRecDepth 100000 in
/-- GlacierMail$History.forget -/
noncomputable def pl_s141 : ck_Sum := ((0, 0, 0), 249, [.inr (.inr (.inl 42))], ([], [], []), ([(42, 2, 2)], []), [(.inr none, 249, ([], [], [(42, 2, 2, ck_one 0)]))])
set_option maxRecDepth 100000 in
theorem pl_s141_s {X : Int → Int} {LX : Nat} : ck_Ok p2_OL X LX 62 pl_s141 := ck_ok_s (O := p2_OL) (X := X) (LX := LX) (E := []) (mi := 62) (cuts := []) (f := 78) (S := pl_s141) (lx := none) (XF := []) ⟨pl_nmu, ck_E0⟩ ck_X0 ck_l0 (by decide +kernel)
set_option maxRecDepth 100000 in
/-- GlacierMail.forgetWays -/
noncomputable def pl_s142 : ck_Sum := ((3, 0, 0), 249, [.inr (.inr (.inl 1))], ([], [], []), (zl42, []), [(.inr none, 249, ([], [], zl43))])
set_option maxRecDepth 100000 in
theorem pl_s142_s {X : Int → Int} {LX : Nat} : ck_Ok p2_OL X LX 61 pl_s142 := ck_ok_s (O := p2_OL) (X := X) (LX := LX) (E := [(5, [pl_s140]), (62, [pl_s141])]) (mi := 61) (cuts := []) (f := 90) (S := pl_s142) (lx := none) (XF := []) ⟨pl_nmu, ck_E1 (ck_S1 pl_s140_s ck_S0) (ck_E1 (ck_S1 pl_s141_s ck_S0) ck_E0)⟩ ck_X0 ck_l0 (by decide +kernel)
set_option maxRecDepth 100000 in
/-- GlacierMail.valley -/
noncomputable def pl_s143 : ck_Sum := ((12, 1, 6), 249, [.inr (.inr (.inl 1))], ([], [(3, 8, 246), (16, 8, 100016)], zl44), (zl45, [(3, 8), (16, 8)]), [(.inr (some (.inl ((-2147483648), (-1), []))), 249, ([], [(3, 8, 246), (16, 8, 246)], zl46)), (.inr (some (.inl (0, 2147483647, []))), 249, ([], [(3, 8, 246), (16, 8, 246)], zl47)), (.inl 1, 249, ([], [(3, 8, 246), (16, 8, 246)], zl48)), (.inl 0, 249, ([], [(3, 8, 246), (16, 8, 246)], zl49))])
set_option maxRecDepth 100000 in
theorem pl_s143_s {X : Int → Int} {LX : Nat} : ck_Ok p2_OL X LX 71 pl_s143 := ck_ok_s (O := p2_OL) (X := X) (LX := LX) (E := [(57, [pl_s13, pl_s20]), (72, [pl_s130]), (61, [pl_s142])]) (mi := 71) (cuts := []) (f := 154) (S := pl_s143) (lx := none) (XF := []) ⟨pl_nmu, ck_E1 (ck_S1 pl_s13_s (ck_S1 pl_s20_s ck_S0)) (ck_E1 (ck_S1 pl_s130_s ck_S0) (ck_E1 (ck_S1 pl_s142_s ck_S0) ck_E0))⟩ ck_X0 ck_l0 (by decide +kernel)
set_option maxRecDepth 100000 in
/-- GlacierMail.fault -/
noncomputable def pl_s144 : ck_Sum := ((0, 0, 0), 249, [.inr (.inr (.inl 1))], ([], [], []), ([], []), [(.inr (some (.inl (ck_one (-1)))), 249, ([], [], [(1, 2, 2, ck_one (-1))])), (.inr (some (.inl (0, 400, []))), 249, ([], [], [(1, 2, 2, (0, 400, []))]))])
set_option maxRecDepth 100000 in
theorem pl_s144_s {X : Int → Int} {LX : Nat} : ck_Ok p2_OL X LX 22 pl_s144 := ck_ok_s (O := p2_OL) (X := X) (LX := LX) (E := []) (mi := 22) (cuts := []) (f := 76) (S := pl_s144) (lx := none) (XF := []) ⟨pl_nmu, ck_E0⟩ ck_X0 ck_l0 (by decide +kernel)
set_option maxRecDepth 100000 in
/-- GlacierMail.needYear -/
noncomputable def pl_s145 : ck_Sum := ((6, 1, 6), 249, [.inr (.inr (.inl 1)), .inl ((-2147483648), (-1), [])], ([], [], []), ([], []), [(.inl 0, 249, ([], [], []))])
set_option maxRecDepth 100000 in
theorem pl_s145_s {X : Int → Int} {LX : Nat} : ck_Ok p2_OL X LX 129 pl_s145 := ck_ok_s (O := p2_OL) (X := X) (LX := LX) (E := []) (mi := 129) (cuts := []) (f := 76) (S := pl_s145) (lx := none) (XF := []) ⟨pl_nmu, ck_E0⟩ ck_X0 ck_l0 (by decide +kernel)
set_option maxRecDepth 100000 in
/-- GlacierMail.heat -/
noncomputable def pl_s146 : ck_Sum := ((7, 1, 6), 249, [.inr (.inr (.inl 1)), .inl ((-2147483648), (-1), [])], ([], [], []), ([], []), [(.inl 0, 249, ([], [], []))])
set_option maxRecDepth 100000 in
theorem pl_s146_s {X : Int → Int} {LX : Nat} : ck_Ok p2_OL X LX 128 pl_s146 := ck_ok_s (O := p2_OL) (X := X) (LX := LX) (E := [(129, [pl_s145])]) (mi := 128) (cuts := []) (f := 76) (S := pl_s146) (lx := none) (XF := []) ⟨pl_nmu, ck_E1 (ck_S1 pl_s145_s ck_S0) ck_E0⟩ ck_X0 ck_l0 (by decide +kernel)
set_option maxRecDepth 100000 in
/-- GlacierMail.needYear -/
noncomputable def pl_s147 : ck_Sum := ((6, 1, 6), 249, [.inr (.inr (.inl 1)), .inl (300, 2147483647, [])], ([], [], []), ([], []), [(.inl 0, 249, ([], [], []))])
set_option maxRecDepth 100000 in
theorem pl_s147_s {X : Int → Int} {LX : Nat} : ck_Ok p2_OL X LX 129 pl_s147 := ck_ok_s (O := p2_OL) (X := X) (LX := LX) (E := []) (mi := 129) (cuts := []) (f := 82) (S := pl_s147) (lx := none) (XF := []) ⟨pl_nmu, ck_E0⟩ ck_X0 ck_l0 (by decide +kernel)
set_option maxRecDepth 100000 in
/-- GlacierMail.heat -/
noncomputable def pl_s148 : ck_Sum := ((7, 1, 6), 249, [.inr (.inr (.inl 1)), .inl (300, 2147483647, [])], ([], [], []), ([], []), [(.inl 0, 249, ([], [], []))])
set_option maxRecDepth 100000 in
theorem pl_s148_s {X : Int → Int} {LX : Nat} : ck_Ok p2_OL X LX 128 pl_s148 := ck_ok_s (O := p2_OL) (X := X) (LX := LX) (E := [(129, [pl_s147])]) (mi := 128) (cuts := []) (f := 76) (S := pl_s148) (lx := none) (XF := []) ⟨pl_nmu, ck_E1 (ck_S1 pl_s147_s ck_S0) ck_E0⟩ ck_X0 ck_l0 (by decide +kernel)
set_option maxRecDepth 100000 in
/-- GlacierMail.needYear -/
noncomputable def pl_s149 : ck_Sum := ((0, 0, 0), 249, [.inr (.inr (.inl 1)), .inl (0, 299, [])], ([], [], []), ([], []), [(.inr none, 249, ([], [], []))])
set_option maxRecDepth 100000 in
theorem pl_s149_s {X : Int → Int} {LX : Nat} : ck_Ok p2_OL X LX 129 pl_s149 := ck_ok_s (O := p2_OL) (X := X) (LX := LX) (E := []) (mi := 129) (cuts := []) (f := 82) (S := pl_s149) (lx := none) (XF := []) ⟨pl_nmu, ck_E0⟩ ck_X0 ck_l0 (by decide +kernel)
set_option maxRecDepth 100000 in
/-- GlacierMail$Ice.heatIn -/
noncomputable def pl_s150 : ck_Sum := ((0, 0, 0), 249, [.inr (.inr (.inl 200)), .inl (0, 299, [])], ([], [], []), ([], []), [(.inr (some (.inl (0, 9, []))), 249, ([], [], []))])
set_option maxRecDepth 100000 in
theorem pl_s150_s {X : Int → Int} {LX : Nat} : ck_Ok p2_OL X LX 34 pl_s150 := ck_ok_s (O := p2_OL) (X := X) (LX := LX) (E := []) (mi := 34) (cuts := []) (f := 92) (S := pl_s150) (lx := none) (XF := []) ⟨pl_nmu, ck_E0⟩ ck_X0 ck_l0 (by decide +kernel)
set_option maxRecDepth 100000 in
/-- GlacierMail.heat -/
noncomputable def pl_s151 : ck_Sum := ((1, 0, 0), 249, [.inr (.inr (.inl 1)), .inl (0, 299, [])], ([], [], []), ([], []), [(.inr (some (.inl (0, 9, []))), 249, ([], [], []))])
set_option maxRecDepth 100000 in
theorem pl_s151_s {X : Int → Int} {LX : Nat} : ck_Ok p2_OL X LX 128 pl_s151 := ck_ok_s (O := p2_OL) (X := X) (LX := LX) (E := [(129, [pl_s149]), (34, [pl_s150])]) (mi := 128) (cuts := []) (f := 86) (S := pl_s151) (lx := none) (XF := []) ⟨pl_nmu, ck_E1 (ck_S1 pl_s149_s ck_S0) (ck_E1 (ck_S1 pl_s150_s ck_S0) ck_E0)⟩ ck_X0 ck_l0 (by decide +kernel)
set_option maxRecDepth 100000 in
/-- GlacierMail.need -/
noncomputable def pl_s152 : ck_Sum := ((6, 1, 6), 249, [.inr (.inr (.inl 1)), .inl ((-2147483648), (-1), []), .inl (1, 6, [])], ([], [], []), ([], []), [(.inl 3, 249, ([], [], []))])
set_option maxRecDepth 100000 in
theorem pl_s152_s {X : Int → Int} {LX : Nat} : ck_Ok p2_OL X LX 133 pl_s152 := ck_ok_s (O := p2_OL) (X := X) (LX := LX) (E := []) (mi := 133) (cuts := []) (f := 76) (S := pl_s152) (lx := none) (XF := []) ⟨pl_nmu, ck_E0⟩ ck_X0 ck_l0 (by decide +kernel)
set_option maxRecDepth 100000 in
/-- GlacierMail.needLane -/
noncomputable def pl_s153 : ck_Sum := ((7, 1, 6), 249, [.inr (.inr (.inl 1)), .inl ((-2147483648), (-1), [])], ([], [], []), ([], []), [(.inl 3, 249, ([], [], []))])
set_option maxRecDepth 100000 in
theorem pl_s153_s {X : Int → Int} {LX : Nat} : ck_Ok p2_OL X LX 132 pl_s153 := ck_ok_s (O := p2_OL) (X := X) (LX := LX) (E := [(133, [pl_s152])]) (mi := 132) (cuts := []) (f := 82) (S := pl_s153) (lx := none) (XF := []) ⟨pl_nmu, ck_E1 (ck_S1 pl_s152_s ck_S0) ck_E0⟩ ck_X0 ck_l0 (by decide +kernel)
set_option maxRecDepth 100000 in
/-- GlacierMail.speed -/
noncomputable def pl_s154 : ck_Sum := ((8, 1, 6), 249, [.inr (.inr (.inl 1)), .inl ((-2147483648), (-1), []), .inl ((-2147483648), 2147483647, [])], ([], [], []), ([], []), [(.inl 3, 249, ([], [], []))])
set_option maxRecDepth 100000 in
theorem pl_s154_s {X : Int → Int} {LX : Nat} : ck_Ok p2_OL X LX 131 pl_s154 := ck_ok_s (O := p2_OL) (X := X) (LX := LX) (E := [(132, [pl_s153])]) (mi := 131) (cuts := []) (f := 76) (S := pl_s154) (lx := none) (XF := []) ⟨pl_nmu, ck_E1 (ck_S1 pl_s153_s ck_S0) ck_E0⟩ ck_X0 ck_l0 (by decide +kernel)
set_option maxRecDepth 100000 in
/-- GlacierMail.need -/
noncomputable def pl_s155 : ck_Sum := ((6, 1, 6), 249, [.inr (.inr (.inl 1)), .inl (6, 2147483647, []), .inl (1, 6, [])], ([], [], []), ([], []), [(.inl 3, 249, ([], [], []))])
set_option maxRecDepth 100000 in
theorem pl_s155_s {X : Int → Int} {LX : Nat} : ck_Ok p2_OL X LX 133 pl_s155 := ck_ok_s (O := p2_OL) (X := X) (LX := LX) (E := []) (mi := 133) (cuts := []) (f := 82) (S := pl_s155) (lx := none) (XF := []) ⟨pl_nmu, ck_E0⟩ ck_X0 ck_l0 (by decide +kernel)
set_option maxRecDepth 100000 in
/-- GlacierMail.needLane -/
noncomputable def pl_s156 : ck_Sum := ((7, 1, 6), 249, [.inr (.inr (.inl 1)), .inl (6, 2147483647, [])], ([], [], []), ([], []), [(.inl 3, 249, ([], [], []))])
set_option maxRecDepth 100000 in
theorem pl_s156_s {X : Int → Int} {LX : Nat} : ck_Ok p2_OL X LX 132 pl_s156 := ck_ok_s (O := p2_OL) (X := X) (LX := LX) (E := [(133, [pl_s155])]) (mi := 132) (cuts := []) (f := 82) (S := pl_s156) (lx := none) (XF := []) ⟨pl_nmu, ck_E1 (ck_S1 pl_s155_s ck_S0) ck_E0⟩ ck_X0 ck_l0 (by decide +kernel)
set_option maxRecDepth 100000 in
/-- GlacierMail.speed -/
noncomputable def pl_s157 : ck_Sum := ((8, 1, 6), 249, [.inr (.inr (.inl 1)), .inl (6, 2147483647, []), .inl ((-2147483648), 2147483647, [])], ([], [], []), ([], []), [(.inl 3, 249, ([], [], []))])
set_option maxRecDepth 100000 in
theorem pl_s157_s {X : Int → Int} {LX : Nat} : ck_Ok p2_OL X LX 131 pl_s157 := ck_ok_s (O := p2_OL) (X := X) (LX := LX) (E := [(132, [pl_s156])]) (mi := 131) (cuts := []) (f := 76) (S := pl_s157) (lx := none) (XF := []) ⟨pl_nmu, ck_E1 (ck_S1 pl_s156_s ck_S0) ck_E0⟩ ck_X0 ck_l0 (by decide +kernel)
set_option maxRecDepth 100000 in
/-- GlacierMail.need -/
noncomputable def pl_s158 : ck_Sum := ((6, 1, 6), 249, [.inr (.inr (.inl 1)), .inl (0, 5, []), .inl (1, 6, [])], ([], [], []), ([], []), [(.inr none, 249, ([], [], [])), (.inl 3, 249, ([], [], []))])
set_option maxRecDepth 100000 in
theorem pl_s158_s {X : Int → Int} {LX : Nat} : ck_Ok p2_OL X LX 133 pl_s158 := ck_ok_s (O := p2_OL) (X := X) (LX := LX) (E := []) (mi := 133) (cuts := []) (f := 82) (S := pl_s158) (lx := none) (XF := []) ⟨pl_nmu, ck_E0⟩ ck_X0 ck_l0 (by decide +kernel)
set_option maxRecDepth 100000 in
/-- GlacierMail.needLane -/
noncomputable def pl_s159 : ck_Sum := ((7, 1, 6), 249, [.inr (.inr (.inl 1)), .inl (0, 5, [])], ([], [], []), ([], []), [(.inl 3, 249, ([], [], [])), (.inr none, 249, ([], [], []))])
set_option maxRecDepth 100000 in
theorem pl_s159_s {X : Int → Int} {LX : Nat} : ck_Ok p2_OL X LX 132 pl_s159 := ck_ok_s (O := p2_OL) (X := X) (LX := LX) (E := [(133, [pl_s158])]) (mi := 132) (cuts := []) (f := 84) (S := pl_s159) (lx := none) (XF := []) ⟨pl_nmu, ck_E1 (ck_S1 pl_s158_s ck_S0) ck_E0⟩ ck_X0 ck_l0 (by decide +kernel)
set_option maxRecDepth 100000 in
/-- GlacierMail.need -/
noncomputable def pl_s160 : ck_Sum := ((6, 1, 6), 249, [.inr (.inr (.inl 1)), .inl ((-2147483648), (-1), []), .inl (10, 99, [])], ([], [], []), ([], []), [(.inl 3, 249, ([], [], []))])
set_option maxRecDepth 100000 in
theorem pl_s160_s {X : Int → Int} {LX : Nat} : ck_Ok p2_OL X LX 133 pl_s160 := ck_ok_s (O := p2_OL) (X := X) (LX := LX) (E := []) (mi := 133) (cuts := []) (f := 76) (S := pl_s160) (lx := none) (XF := []) ⟨pl_nmu, ck_E0⟩ ck_X0 ck_l0 (by decide +kernel)
set_option maxRecDepth 100000 in
/-- GlacierMail.needRow -/
noncomputable def pl_s161 : ck_Sum := ((7, 1, 6), 249, [.inr (.inr (.inl 1)), .inl ((-2147483648), (-1), [])], ([], [], []), ([], []), [(.inl 3, 249, ([], [], []))])
set_option maxRecDepth 100000 in
theorem pl_s161_s {X : Int → Int} {LX : Nat} : ck_Ok p2_OL X LX 134 pl_s161 := ck_ok_s (O := p2_OL) (X := X) (LX := LX) (E := [(133, [pl_s160])]) (mi := 134) (cuts := []) (f := 82) (S := pl_s161) (lx := none) (XF := []) ⟨pl_nmu, ck_E1 (ck_S1 pl_s160_s ck_S0) ck_E0⟩ ck_X0 ck_l0 (by decide +kernel)
set_option maxRecDepth 100000 in
/-- GlacierMail.speed -/
noncomputable def pl_s162 : ck_Sum := ((8, 2, 12), 249, [.inr (.inr (.inl 1)), .inl (0, 5, []), .inl ((-2147483648), (-1), [])], ([], [], []), ([], []), [(.inl 3, 249, ([], [], []))])
set_option maxRecDepth 100000 in
theorem pl_s162_s {X : Int → Int} {LX : Nat} : ck_Ok p2_OL X LX 131 pl_s162 := ck_ok_s (O := p2_OL) (X := X) (LX := LX) (E := [(132, [pl_s159]), (134, [pl_s161])]) (mi := 131) (cuts := []) (f := 82) (S := pl_s162) (lx := none) (XF := []) ⟨pl_nmu, ck_E1 (ck_S1 pl_s159_s ck_S0) (ck_E1 (ck_S1 pl_s161_s ck_S0) ck_E0)⟩ ck_X0 ck_l0 (by decide +kernel)
set_option maxRecDepth 100000 in
/-- GlacierMail.need -/
noncomputable def pl_s163 : ck_Sum := ((6, 1, 6), 249, [.inr (.inr (.inl 1)), .inl (99, 2147483647, []), .inl (10, 99, [])], ([], [], []), ([], []), [(.inl 3, 249, ([], [], []))])
set_option maxRecDepth 100000 in
theorem pl_s163_s {X : Int → Int} {LX : Nat} : ck_Ok p2_OL X LX 133 pl_s163 := ck_ok_s (O := p2_OL) (X := X) (LX := LX) (E := []) (mi := 133) (cuts := []) (f := 82) (S := pl_s163) (lx := none) (XF := []) ⟨pl_nmu, ck_E0⟩ ck_X0 ck_l0 (by decide +kernel)
set_option maxRecDepth 100000 in
/-- GlacierMail.needRow -/
noncomputable def pl_s164 : ck_Sum := ((7, 1, 6), 249, [.inr (.inr (.inl 1)), .inl (99, 2147483647, [])], ([], [], []), ([], []), [(.inl 3, 249, ([], [], []))])
set_option maxRecDepth 100000 in
theorem pl_s164_s {X : Int → Int} {LX : Nat} : ck_Ok p2_OL X LX 134 pl_s164 := ck_ok_s (O := p2_OL) (X := X) (LX := LX) (E := [(133, [pl_s163])]) (mi := 134) (cuts := []) (f := 82) (S := pl_s164) (lx := none) (XF := []) ⟨pl_nmu, ck_E1 (ck_S1 pl_s163_s ck_S0) ck_E0⟩ ck_X0 ck_l0 (by decide +kernel)
set_option maxRecDepth 100000 in
/-- GlacierMail.speed -/
noncomputable def pl_s165 : ck_Sum := ((8, 2, 12), 249, [.inr (.inr (.inl 1)), .inl (0, 5, []), .inl (99, 2147483647, [])], ([], [], []), ([], []), [(.inl 3, 249, ([], [], []))])
set_option maxRecDepth 100000 in
theorem pl_s165_s {X : Int → Int} {LX : Nat} : ck_Ok p2_OL X LX 131 pl_s165 := ck_ok_s (O := p2_OL) (X := X) (LX := LX) (E := [(132, [pl_s159]), (134, [pl_s164])]) (mi := 131) (cuts := []) (f := 82) (S := pl_s165) (lx := none) (XF := []) ⟨pl_nmu, ck_E1 (ck_S1 pl_s159_s ck_S0) (ck_E1 (ck_S1 pl_s164_s ck_S0) ck_E0)⟩ ck_X0 ck_l0 (by decide +kernel)
set_option maxRecDepth 100000 in
/-- GlacierMail.need -/
noncomputable def pl_s166 : ck_Sum := ((6, 1, 6), 249, [.inr (.inr (.inl 1)), .inl (0, 98, []), .inl (10, 99, [])], ([], [], []), ([], []), [(.inr none, 249, ([], [], [])), (.inl 3, 249, ([], [], []))])
set_option maxRecDepth 100000 in
theorem pl_s166_s {X : Int → Int} {LX : Nat} : ck_Ok p2_OL X LX 133 pl_s166 := ck_ok_s (O := p2_OL) (X := X) (LX := LX) (E := []) (mi := 133) (cuts := []) (f := 82) (S := pl_s166) (lx := none) (XF := []) ⟨pl_nmu, ck_E0⟩ ck_X0 ck_l0 (by decide +kernel)
set_option maxRecDepth 100000 in
/-- GlacierMail.needRow -/
noncomputable def pl_s167 : ck_Sum := ((7, 1, 6), 249, [.inr (.inr (.inl 1)), .inl (0, 98, [])], ([], [], []), ([], []), [(.inl 3, 249, ([], [], [])), (.inr none, 249, ([], [], []))])
set_option maxRecDepth 100000 in
theorem pl_s167_s {X : Int → Int} {LX : Nat} : ck_Ok p2_OL X LX 134 pl_s167 := ck_ok_s (O := p2_OL) (X := X) (LX := LX) (E := [(133, [pl_s166])]) (mi := 134) (cuts := []) (f := 84) (S := pl_s167) (lx := none) (XF := []) ⟨pl_nmu, ck_E1 (ck_S1 pl_s166_s ck_S0) ck_E0⟩ ck_X0 ck_l0 (by decide +kernel)
set_option maxRecDepth 100000 in
/-- GlacierMail$Ice.speedAt -/
noncomputable def pl_s168 : ck_Sum := ((0, 0, 0), 249, [.inr (.inr (.inl 200)), .inl (0, 5, []), .inl (0, 98, [])], ([], [], []), ([], []), [(.inr (some (.inl ((-1), 98, []))), 249, ([], [], []))])
set_option maxRecDepth 100000 in
theorem pl_s168_s {X : Int → Int} {LX : Nat} : ck_Ok p2_OL X LX 36 pl_s168 := ck_ok_s (O := p2_OL) (X := X) (LX := LX) (E := []) (mi := 36) (cuts := []) (f := 108) (S := pl_s168) (lx := none) (XF := []) ⟨pl_nmu, ck_E0⟩ ck_X0 ck_l0 (by decide +kernel)
set_option maxRecDepth 100000 in
/-- GlacierMail.speed -/
noncomputable def pl_s169 : ck_Sum := ((8, 2, 12), 249, [.inr (.inr (.inl 1)), .inl (0, 5, []), .inl (0, 98, [])], ([], [], []), ([], []), [(.inl 3, 249, ([], [], [])), (.inr (some (.inl ((-1), 98, []))), 249, ([], [], []))])
set_option maxRecDepth 100000 in
theorem pl_s169_s {X : Int → Int} {LX : Nat} : ck_Ok p2_OL X LX 131 pl_s169 := ck_ok_s (O := p2_OL) (X := X) (LX := LX) (E := [(132, [pl_s159]), (134, [pl_s167]), (36, [pl_s168])]) (mi := 131) (cuts := []) (f := 94) (S := pl_s169) (lx := none) (XF := []) ⟨pl_nmu, ck_E1 (ck_S1 pl_s159_s ck_S0) (ck_E1 (ck_S1 pl_s167_s ck_S0) (ck_E1 (ck_S1 pl_s168_s ck_S0) ck_E0))⟩ ck_X0 ck_l0 (by decide +kernel)
set_option maxRecDepth 100000 in
/-- GlacierMail.flow -/
noncomputable def pl_s170 : ck_Sum := ((8, 1, 6), 249, [.inr (.inr (.inl 1)), .inl ((-2147483648), (-1), []), .inl ((-2147483648), 2147483647, []), .inl ((-2147483648), 2147483647, [])], ([], [], []), ([], []), [(.inl 3, 249, ([], [], []))])
set_option maxRecDepth 100000 in
theorem pl_s170_s {X : Int → Int} {LX : Nat} : ck_Ok p2_OL X LX 136 pl_s170 := ck_ok_s (O := p2_OL) (X := X) (LX := LX) (E := [(132, [pl_s153])]) (mi := 136) (cuts := []) (f := 76) (S := pl_s170) (lx := none) (XF := []) ⟨pl_nmu, ck_E1 (ck_S1 pl_s153_s ck_S0) ck_E0⟩ ck_X0 ck_l0 (by decide +kernel)
set_option maxRecDepth 100000 in
/-- GlacierMail.flow -/
noncomputable def pl_s171 : ck_Sum := ((8, 1, 6), 249, [.inr (.inr (.inl 1)), .inl (6, 2147483647, []), .inl ((-2147483648), 2147483647, []), .inl ((-2147483648), 2147483647, [])], ([], [], []), ([], []), [(.inl 3, 249, ([], [], []))])
set_option maxRecDepth 100000 in
theorem pl_s171_s {X : Int → Int} {LX : Nat} : ck_Ok p2_OL X LX 136 pl_s171 := ck_ok_s (O := p2_OL) (X := X) (LX := LX) (E := [(132, [pl_s156])]) (mi := 136) (cuts := []) (f := 76) (S := pl_s171) (lx := none) (XF := []) ⟨pl_nmu, ck_E1 (ck_S1 pl_s156_s ck_S0) ck_E0⟩ ck_X0 ck_l0 (by decide +kernel)
set_option maxRecDepth 100000 in
/-- GlacierMail.flow -/
noncomputable def pl_s172 : ck_Sum := ((8, 2, 12), 249, [.inr (.inr (.inl 1)), .inl (0, 5, []), .inl ((-2147483648), (-1), []), .inl ((-2147483648), 2147483647, [])], ([], [], []), ([], []), [(.inl 3, 249, ([], [], []))])
set_option maxRecDepth 100000 in
theorem pl_s172_s {X : Int → Int} {LX : Nat} : ck_Ok p2_OL X LX 136 pl_s172 := ck_ok_s (O := p2_OL) (X := X) (LX := LX) (E := [(132, [pl_s159]), (134, [pl_s161])]) (mi := 136) (cuts := []) (f := 82) (S := pl_s172) (lx := none) (XF := []) ⟨pl_nmu, ck_E1 (ck_S1 pl_s159_s ck_S0) (ck_E1 (ck_S1 pl_s161_s ck_S0) ck_E0)⟩ ck_X0 ck_l0 (by decide +kernel)
set_option maxRecDepth 100000 in
/-- GlacierMail.flow -/
noncomputable def pl_s173 : ck_Sum := ((8, 2, 12), 249, [.inr (.inr (.inl 1)), .inl (0, 5, []), .inl (99, 2147483647, []), .inl ((-2147483648), 2147483647, [])], ([], [], []), ([], []), [(.inl 3, 249, ([], [], []))])
set_option maxRecDepth 100000 in
theorem pl_s173_s {X : Int → Int} {LX : Nat} : ck_Ok p2_OL X LX 136 pl_s173 := ck_ok_s (O := p2_OL) (X := X) (LX := LX) (E := [(132, [pl_s159]), (134, [pl_s164])]) (mi := 136) (cuts := []) (f := 82) (S := pl_s173) (lx := none) (XF := []) ⟨pl_nmu, ck_E1 (ck_S1 pl_s159_s ck_S0) (ck_E1 (ck_S1 pl_s164_s ck_S0) ck_E0)⟩ ck_X0 ck_l0 (by decide +kernel)
set_option maxRecDepth 100000 in
/-- GlacierMail.flow -/
noncomputable def pl_s174 : ck_Sum := ((8, 3, 18), 249, [.inr (.inr (.inl 1)), .inl (0, 5, []), .inl (0, 98, []), .inl ((-2147483648), (-1), [])], ([], [], []), ([], []), [(.inl 3, 249, ([], [], [])), (.inl 0, 249, ([], [], []))])
set_option maxRecDepth 100000 in
theorem pl_s174_s {X : Int → Int} {LX : Nat} : ck_Ok p2_OL X LX 136 pl_s174 := ck_ok_s (O := p2_OL) (X := X) (LX := LX) (E := [(132, [pl_s159]), (134, [pl_s167]), (129, [pl_s145])]) (mi := 136) (cuts := []) (f := 88) (S := pl_s174) (lx := none) (XF := []) ⟨pl_nmu, ck_E1 (ck_S1 pl_s159_s ck_S0) (ck_E1 (ck_S1 pl_s167_s ck_S0) (ck_E1 (ck_S1 pl_s145_s ck_S0) ck_E0))⟩ ck_X0 ck_l0 (by decide +kernel)
set_option maxRecDepth 100000 in
/-- GlacierMail.flow -/
noncomputable def pl_s175 : ck_Sum := ((8, 3, 18), 249, [.inr (.inr (.inl 1)), .inl (0, 5, []), .inl (0, 98, []), .inl (300, 2147483647, [])], ([], [], []), ([], []), [(.inl 3, 249, ([], [], [])), (.inl 0, 249, ([], [], []))])
set_option maxRecDepth 100000 in
theorem pl_s175_s {X : Int → Int} {LX : Nat} : ck_Ok p2_OL X LX 136 pl_s175 := ck_ok_s (O := p2_OL) (X := X) (LX := LX) (E := [(132, [pl_s159]), (134, [pl_s167]), (129, [pl_s147])]) (mi := 136) (cuts := []) (f := 88) (S := pl_s175) (lx := none) (XF := []) ⟨pl_nmu, ck_E1 (ck_S1 pl_s159_s ck_S0) (ck_E1 (ck_S1 pl_s167_s ck_S0) (ck_E1 (ck_S1 pl_s147_s ck_S0) ck_E0))⟩ ck_X0 ck_l0 (by decide +kernel)
set_option maxRecDepth 100000 in
/-- GlacierMail$Ice.speedAt -/
noncomputable def pl_s176 : ck_Sum := ((0, 0, 0), 249, [.inr (.inr (.inl 200)), .inl ((-2147483648), 2147483647, []), .inl ((-2147483648), 2147483647, [])], ([], [], []), ([], []), [(.inr (some (.inl (ck_one 0))), 249, ([], [], [])), (.inr (some (.inl ((-1), 98, []))), 249, ([], [], []))])
set_option maxRecDepth 100000 in
theorem pl_s176_s {X : Int → Int} {LX : Nat} : ck_Ok p2_OL X LX 36 pl_s176 := ck_ok_s (O := p2_OL) (X := X) (LX := LX) (E := []) (mi := 36) (cuts := []) (f := 108) (S := pl_s176) (lx := none) (XF := []) ⟨pl_nmu, ck_E0⟩ ck_X0 ck_l0 (by decide +kernel)
set_option maxRecDepth 100000 in
/-- java/util/Arrays.fill -/
noncomputable def pl_s177 : ck_Sum := ((0, 0, 0), 249, [.inr (.inr (.inl 205)), .inr (.inl (ck_one (-1)))], ([], [], []), ([(205, 0, 14849)], []), [(.inr none, 249, ([], [], []))])
set_option maxRecDepth 100000 in
theorem pl_s177_s {X : Int → Int} {LX : Nat} : ck_Ok p2_OL X LX 38 pl_s177 := ck_ok_s (O := p2_OL) (X := X) (LX := LX) (E := []) (mi := 38) (cuts := [(6, [some (.inr (.inr (.inl 205))), some (.inr (.inl (ck_one (-1)))), none, some (.inl (0, 14850, [])), some (.inl (ck_one 14850))], ([], [], []), 100, .inl 3, true)]) (f := 130) (S := pl_s177) (lx := none) (XF := []) ⟨pl_nmu, ck_E0⟩ ck_X0 ck_l0 (by decide +kernel)
set_option maxRecDepth 100000 in
/-- GlacierMail$Ice.recalledFlow -/
noncomputable def pl_s178 : ck_Sum := ((1, 0, 0), 249, [.inr (.inr (.inl 200)), .inl ((-2147483648), 2147483647, [])], ([], [], []), ([(200, 6, 6), (205, 0, 14849)], []), [(.inr (some (.inl (0, 31, []))), 249, ([], [], [(200, 6, 6, ck_one 0)]))])
set_option maxRecDepth 100000 in
noncomputable def pl_s178a : ck_Sum := ((1, 0, 0), 249, [.inr (.inr (.inl 200)), .inl ((-2147483648), (-1), [])], ([], [], []), ([(200, 6, 6), (205, 0, 14849)], []), [(.inr (some (.inl (0, 31, []))), 249, ([], [], [(200, 6, 6, ck_one 0)]))])
set_option maxRecDepth 100000 in
noncomputable def pl_s178b : ck_Sum := ((1, 0, 0), 249, [.inr (.inr (.inl 200)), .inl (0, 2147483647, [])], ([], [], []), ([(200, 6, 6), (205, 0, 14849)], []), [(.inr (some (.inl (0, 31, []))), 249, ([], [], [(200, 6, 6, ck_one 0)]))])
noncomputable def rf_W : List (Nat × Int × Int) × List (Nat × Int) := ([(200, 6, 6), (205, 0, 14849)], [])
noncomputable def rf_o : List ck_Oc := [(.inr (some (.inl (0, 31, []))), 249, ([], [], [(200, 6, 6, ck_one 0)]))]
set_option maxRecDepth 100000 in
theorem rf_a17 : ck_go p2_OL none [] [] 37 1 249 rf_W rf_o [] 200 true [] 0 0 17 [some (.inr (.inr (.inl 200))), some (.inl ((-2147483648), (-1), [])), none] [] 249 ([], [], []) = true := by decide +kernel
set_option maxRecDepth 100000 in
theorem rf_a22 : ck_go p2_OL none [] [] 37 1 249 rf_W rf_o [] 200 true [] 0 0 22 [some (.inr (.inr (.inl 200))), some (.inl ((-2147483648), (-1), [])), none] [] 249 ([], [], [(200, 6, 6, ck_one 0)]) = true := by decide +kernel
set_option maxRecDepth 100000 in
theorem rf_b17 : ck_go p2_OL none [] [] 37 1 249 rf_W rf_o [] 200 true [] 0 0 17 [some (.inr (.inr (.inl 200))), some (.inl (0, 2147483647, [])), none] [] 249 ([], [], []) = true := by decide +kernel
set_option maxRecDepth 100000 in
theorem rf_b22 : ck_go p2_OL none [] [] 37 1 249 rf_W rf_o [] 200 true [] 0 0 22 [some (.inr (.inr (.inl 200))), some (.inl (0, 2147483647, [])), none] [] 249 ([], [], [(200, 6, 6, ck_one 0)]) = true := by decide +kernel
/-- the flows are forgotten by hand: a call with a long -/
theorem rf_s {X : Int → Int} {LX : Nat} {a : ck_I} (g17 : ck_go p2_OL none [] [] 37 1 249 rf_W rf_o [] 200 true [] 0 0 17 [some (.inr (.inr (.inl 200))), some (.inl a), none] [] 249 ([], [], []) = true) (g22 : ck_go p2_OL none [] [] 37 1 249 rf_W rf_o [] 200 true [] 0 0 22 [some (.inr (.inr (.inl 200))), some (.inl a), none] [] 249 ([], [], [(200, 6, 6, ck_one 0)]) = true) : ck_Ok p2_OL X LX 37 ((1, 0, 0), 249, [.inr (.inr (.inl 200)), .inl a], ([], [], []), rf_W, rf_o) := by
  intro d σ vs n K R M hd hn hvs hnm hF _
  have hd : 1 ≤ d := hd
  have hn : n = 249 := hn
  subst hn
  refine gm_Wp_wk hd (Nat.le_refl 0) (Nat.le_refl 0) ?_
  obtain ⟨v0, w0, rfl, g0, g1⟩ : ∃ v ws, vs = v :: ws ∧ ck_ga σ (.inr (.inr (.inl 200))) v ∧ ck_gas σ [.inl a] ws := hvs
  obtain ⟨v1, w1, rfl, g2, g3⟩ : ∃ v ws, w0 = v :: ws ∧ ck_ga σ (.inl a) v ∧ ck_gas σ [] ws := g1
  have g0 : v0 = gm_vr 200 := g0
  have g3 : w1 = [] := g3
  subst g0
  subst g3
  obtain ⟨x, rfl, rx, gx⟩ := g2
  have l0 : (gm_ent 37 [gm_vr 200, gm_vi x])[0]? = some (some (gm_vr 200)) := rfl
  have l1 : (gm_ent 37 [gm_vr 200, gm_vi x])[1]? = some (some (gm_vi x)) := rfl
  have hL : ck_gl σ [some (.inr (.inr (.inl 200))), some (.inl a), none] (gm_ent 37 [gm_vr 200, gm_vi x]) := by
    refine ⟨by unfold gm_ent; simp [show gm_ml 37 = 3 by decide +kernel], fun j b hb => ?_⟩
    rcases j with _ | _ | _ | j
    · have hb : some (some (.inr (.inr (.inl 200)))) = some (some b) := hb
      cases hb
      exact ⟨_, l0, rfl⟩
    · have hb : some (some (.inl a)) = some (some b) := hb
      cases hb
      exact ⟨_, l1, x, rfl, rx, gx⟩
    · have hb : some none = some (some b) := hb
      cases hb
    · have hb : none = some (some b) := hb
      cases hb
  generalize gm_ent 37 [gm_vr 200, gm_vi x] = L at l0 l1 hL ⊢
  show gm_Wp X LX 1 0 0 37 0 L [] 249 K R M (ck_Q p2_OL σ rf_W 249 K R M rf_o)
  obtain ⟨k1, k2, k3⟩ := hF.1 200 (8, 0) (by decide +kernel)
  have r5 : R 200 ((5 : Nat) : Int) = 205 := (hF.2.1 200 5 205 (by decide +kernel)).2
  refine gm_sz (gm_p_load (pc := 0) (i := .aload_n 0) (sr := 2) (j := 0) (by decide +kernel) rfl l0 rfl) ?_
  refine gm_sz (gm_p_get (pc := 1) (ix := 30) (ci := 4) (j := 6) (by decide +kernel) ⟨k1, k2⟩ (by rw [k3]) (by decide +kernel)) ?_
  rw [if_neg (show ¬ gm_isr 4 6 = true by decide +kernel)]
  obtain ⟨t1, t2⟩ := (gm_tyr_s hF (show gm_tyr p2_OL 200 6 6 = some (0, 1) by decide +kernel)).2 6 (Int.le_refl _) (Int.le_refl _)
  refine gm_b_if (cc := .eq) (pc := 4) (off := 18) (by decide +kernel) (by decide) (fun hp => ?_) (fun _ => ?_)
  · have t3 : gm_ir (M 200 ((6 : Nat) : Int)) := t1
    rw [gm_cm_w t3 (show gm_ir 0 from ⟨by decide, by decide⟩)] at hp
    have hp : M 200 6 = 0 := hp
    refine ck_go_s (σ0 := σ) (cuts := []) (by decide) ⟨pl_nmu, ck_E0⟩ ck_X0 ck_l0 200 true [] 0 0 22 [some (.inr (.inr (.inl 200))), some (.inl a), none] [] 249 ([], [], [(200, 6, 6, ck_one 0)]) σ L [] K R M (fun _ _ => rfl) (fun _ h => nomatch h) ⟨hF, hL, rfl, ⟨(fun q hq => nomatch hq), (fun q hq => nomatch hq), fun q hq => ?_⟩, ck_fr_0⟩ g22
    rw [List.mem_singleton.mp hq]
    refine ⟨by show 200 ≤ 249; decide, fun j j1 j2 => ?_⟩
    have j1 : (6 : Int) ≤ j := j1
    have j2 : j ≤ (6 : Int) := j2
    have j3 : j = 6 := by omega
    subst j3
    exact ⟨t1, by show 0 ≤ M 200 6; omega, by show M 200 6 ≤ 0; omega, fun q hq => nomatch hq⟩
  · refine gm_sz (gm_p_load (pc := 7) (i := .aload_n 0) (sr := 2) (j := 0) (by decide +kernel) rfl l0 rfl) ?_
    refine gm_sz (gm_p_get (pc := 8) (ix := 26) (ci := 4) (j := 5) (by decide +kernel) ⟨k1, k2⟩ (by rw [k3]) (by decide +kernel)) ?_
    rw [if_pos (show gm_isr 4 5 = true by decide +kernel), r5]
    refine gm_sz (gm_p_ldcl (pc := 11) (ix := 116) (v := -1) (by decide +kernel) (by decide +kernel)) ?_
    refine gm_c_stat2 (mj := 38) (ix := 118) (pc := 14) (u0 := gm_vr 205) (u1 := gm_vl (-1)) (st := []) (d' := 0) (bc' := 0) (bs' := 0) (by decide +kernel) (by decide +kernel) (by decide +kernel) (by decide +kernel) (show 2 = gm_na 38 by decide +kernel) (by simp [gm_sort]) (show 3 ≤ gm_ml 38 by decide +kernel) (by decide) (by decide) (Nat.le_refl _) (Nat.le_refl _) ?_
    have c0 : ck_gi σ (ck_one (-1)) (-1) := ⟨Int.le_refl (-1), Int.le_refl (-1), fun q hq => nomatch hq⟩
    have c1 : ck_ga σ (.inr (.inl (ck_one (-1)))) (gm_vl (-1)) := ⟨-1, rfl, (show ck_r6 (-1) from ⟨by decide, by decide⟩), c0⟩
    have c2 : ck_gas σ [.inr (.inl (ck_one (-1)))] [gm_vl (-1)] := ⟨gm_vl (-1), [], rfl, c1, rfl⟩
    have c3 : ck_gas σ pl_s177.2.2.1 [gm_vr 205, gm_vl (-1)] := (show ck_gas σ [.inr (.inr (.inl 205)), .inr (.inl (ck_one (-1)))] [gm_vr 205, gm_vl (-1)] from ⟨gm_vr 205, [gm_vl (-1)], rfl, rfl, c2⟩)
    refine gm_Wp_mono (fun o n1 K1 R1 M1 h => ?_) (pl_s177_s 0 σ [gm_vr 205, gm_vl (-1)] 249 K R M (Nat.le_refl _) rfl c3 hnm hF ⟨(fun q hq => nomatch hq), (fun q hq => nomatch hq), fun q hq => nomatch hq⟩)
    obtain ⟨f1, f2, oc, f3, f4, f5, -⟩ := h
    rw [List.mem_singleton.mp f3] at f4 f5
    have f5 : n1 = 249 := f5
    subst f5
    have f2 : ck_fr ([(205, 0, 14849)], []) 249 K R M 249 K1 R1 M1 := f2
    rcases o with (_ | v) | x
    · show gm_Wp X LX 1 0 0 37 17 L [] 249 K1 R1 M1 (ck_Q p2_OL σ rf_W 249 K R M rf_o)
      exact ck_go_s (σ0 := σ) (cuts := []) (by decide) ⟨pl_nmu, ck_E0⟩ ck_X0 ck_l0 200 true [] 0 0 17 [some (.inr (.inr (.inl 200))), some (.inl a), none] [] 249 ([], [], []) σ L [] K1 R1 M1 (fun _ _ => rfl) (fun _ h => nomatch h) ⟨f1, hL, rfl, ⟨(fun q hq => nomatch hq), (fun q hq => nomatch hq), fun q hq => nomatch hq⟩, ck_fr_tr ck_fr_0 f2 (by decide) (by decide)⟩ g17
    · exact absurd f4 id
    · exact absurd f4 id
/-- a number below 0, or not: its quotient is looked at in both -/
theorem pl_s178_s {X : Int → Int} {LX : Nat} : ck_Ok p2_OL X LX 37 pl_s178 := by
  have ha : ck_Ok p2_OL X LX 37 pl_s178a := rf_s rf_a17 rf_a22
  have hb : ck_Ok p2_OL X LX 37 pl_s178b := rf_s rf_b17 rf_b22
  intro d σ vs n K R M hd hn hvs hnm hF hf
  have hs : ck_gas σ pl_s178a.2.2.1 vs ∨ ck_gas σ pl_s178b.2.2.1 vs := by
    obtain ⟨v0, w0, rfl, g0, g1⟩ : ∃ v ws, vs = v :: ws ∧ ck_ga σ (.inr (.inr (.inl 200))) v ∧ ck_gas σ (.inl ((-2147483648), 2147483647, []) :: []) ws := hvs
    obtain ⟨v1, w1, rfl, ⟨x, rfl, rx, x1, x2, x3⟩, g2⟩ : ∃ v ws, w0 = v :: ws ∧ ck_ga σ (.inl ((-2147483648), 2147483647, [])) v ∧ ck_gas σ [] ws := g1
    by_cases hx : x < 0
    · have h1 : ∃ v ws, gm_vi x :: w1 = v :: ws ∧ ck_ga σ (.inl ((-2147483648), (-1), [])) v ∧ ck_gas σ [] ws := ⟨_, _, rfl, ⟨x, rfl, rx, x1, by show x ≤ -1; omega, x3⟩, g2⟩
      have h2 : ∃ v ws, v0 :: gm_vi x :: w1 = v :: ws ∧ ck_ga σ (.inr (.inr (.inl 200))) v ∧ ck_gas σ (.inl ((-2147483648), (-1), []) :: []) ws := ⟨_, _, rfl, g0, h1⟩
      exact Or.inl h2
    · have h1 : ∃ v ws, gm_vi x :: w1 = v :: ws ∧ ck_ga σ (.inl (0, 2147483647, [])) v ∧ ck_gas σ [] ws := ⟨_, _, rfl, ⟨x, rfl, rx, by show 0 ≤ x; omega, x2, x3⟩, g2⟩
      have h2 : ∃ v ws, v0 :: gm_vi x :: w1 = v :: ws ∧ ck_ga σ (.inr (.inr (.inl 200))) v ∧ ck_gas σ (.inl (0, 2147483647, []) :: []) ws := ⟨_, _, rfl, g0, h1⟩
      exact Or.inr h2
  rcases hs with h | h
  · exact ha d σ vs n K R M hd hn h hnm hF hf
  · exact hb d σ vs n K R M hd hn h hnm hF hf
set_option maxRecDepth 100000 in
/-- GlacierMail$Ice.heatIn -/
noncomputable def pl_s179 : ck_Sum := ((0, 0, 0), 249, [.inr (.inr (.inl 200)), .inl ((-2147483648), 2147483647, [])], ([], [], []), ([], []), [(.inr (some (.inl (0, 9, []))), 249, ([], [], []))])
set_option maxRecDepth 100000 in
theorem pl_s179_s {X : Int → Int} {LX : Nat} : ck_Ok p2_OL X LX 34 pl_s179 := ck_ok_s (O := p2_OL) (X := X) (LX := LX) (E := []) (mi := 34) (cuts := []) (f := 92) (S := pl_s179) (lx := none) (XF := []) ⟨pl_nmu, ck_E0⟩ ck_X0 ck_l0 (by decide +kernel)
end
/-! 78r86a02.sl -/
section
/-! EVERY CALL OF THE CLASS ENDS, under a law (laid by wip/am/p2l.py). -/
set_option maxRecDepth 100000 in
/-- GlacierMail$Ice.setFacts -/
noncomputable def pl_s180 : ck_Sum := ((1, 0, 0), 249, [.inr (.inr (.inl 200)), .inl ((-2147483648), 2147483647, []), .inl ((-2147483648), 2147483647, []), .inl ((-2147483648), 2147483647, []), .inl (ck_one 0)], ([], [], []), ([(204, 0, 9)], []), [(.inr none, 249, ([], [], [(204, 9, 9, (0, 1, [])), (204, 8, 8, (0, 1, [])), (204, 7, 7, ck_one 0), (204, 6, 6, ck_one 0), (204, 5, 5, ck_one 0), (204, 4, 4, ck_one 0), (204, 3, 3, (0, 9, []))]))])
set_option maxRecDepth 100000 in
theorem pl_s180_s {X : Int → Int} {LX : Nat} : ck_Ok p2_OL X LX 39 pl_s180 := ck_ok_s (O := p2_OL) (X := X) (LX := LX) (E := [(34, [pl_s179])]) (mi := 39) (cuts := []) (f := 208) (S := pl_s180) (lx := none) (XF := []) ⟨pl_nmu, ck_E1 (ck_S1 pl_s179_s ck_S0) ck_E0⟩ ck_X0 ck_l0 (by decide +kernel)
set_option maxRecDepth 100000 in
/-- GlacierMail$Ice.setFacts -/
noncomputable def pl_s181 : ck_Sum := ((1, 0, 0), 249, [.inr (.inr (.inl 200)), .inl ((-2147483648), 2147483647, []), .inl ((-2147483648), 2147483647, []), .inl ((-2147483648), 2147483647, []), .inl ((-1), 98, [])], ([], [], []), ([(204, 0, 9)], []), [(.inr none, 249, ([], [], [(204, 9, 9, (0, 1, [])), (204, 8, 8, (0, 1, [])), (204, 7, 7, ck_one 0), (204, 6, 6, ck_one 0), (204, 5, 5, ck_one 0), (204, 4, 4, ((-1), 98, [])), (204, 3, 3, (0, 9, []))]))])
set_option maxRecDepth 100000 in
theorem pl_s181_s {X : Int → Int} {LX : Nat} : ck_Ok p2_OL X LX 39 pl_s181 := ck_ok_s (O := p2_OL) (X := X) (LX := LX) (E := [(34, [pl_s179])]) (mi := 39) (cuts := []) (f := 208) (S := pl_s181) (lx := none) (XF := []) ⟨pl_nmu, ck_E1 (ck_S1 pl_s179_s ck_S0) ck_E0⟩ ck_X0 ck_l0 (by decide +kernel)
set_option maxRecDepth 100000 in
/-- GlacierMail$Rows.size -/
noncomputable def pl_s182 : ck_Sum := ((0, 0, 0), 249, [.inr (.inr (.inl 248))], ([], [], []), ([], []), [(.inr (some (.inl (0, 12, []))), 249, ([], [], []))])
set_option maxRecDepth 100000 in
theorem pl_s182_s {X : Int → Int} {LX : Nat} : ck_Ok p2_OL X LX 9 pl_s182 := ck_ok_s (O := p2_OL) (X := X) (LX := LX) (E := []) (mi := 9) (cuts := []) (f := 76) (S := pl_s182) (lx := none) (XF := []) ⟨pl_nmu, ck_E0⟩ ck_X0 ck_l0 (by decide +kernel)
set_option maxRecDepth 100000 in
/-- GlacierMail$Rows.get -/
noncomputable def pl_s183 : ck_Sum := ((0, 0, 0), 249, [.inr (.inr (.inl 248)), .inl ((-2147483648), 2147483647, []), .inl ((-2147483648), 2147483647, [])], ([], [], []), ([], []), [(.inr (some (.inl ((-2147483648), 2147483647, []))), 249, ([], [], []))])
set_option maxRecDepth 100000 in
theorem pl_s183_s {X : Int → Int} {LX : Nat} : ck_Ok p2_OL X LX 10 pl_s183 := ck_ok_s (O := p2_OL) (X := X) (LX := LX) (E := []) (mi := 10) (cuts := []) (f := 114) (S := pl_s183) (lx := none) (XF := []) ⟨pl_nmu, ck_E0⟩ ck_X0 ck_l0 (by decide +kernel)
set_option maxRecDepth 100000 in
/-- GlacierMail$Law.faster -/
noncomputable def pl_s185 : ck_Sum := ((1, 0, 0), 249, [.inr (.inr (.inl 246)), .inr (.inr (.inl 204))], ([], [], []), ([], []), [(.inr (some (.inl ((-2147483648), 2147483647, []))), 249, ([], [], []))])
set_option maxRecDepth 100000 in
theorem pl_s185_s {X : Int → Int} {LX : Nat} : ck_Ok p2_OL X LX 40 pl_s185 := ck_ok_s (O := p2_OL) (X := X) (LX := LX) (E := [(9, [pl_s182]), (10, [pl_s183]), (41, [lh_S])]) (mi := 40) (cuts := [(4, [some (.inr (.inr (.inl 246))), some (.inr (.inr (.inl 204))), some (.inl ((-2147483648), 2147483647, [])), some (.inl (0, 12, [])), none], ([], [], []), 100, .inl 3, true)]) (f := 258) (S := pl_s185) (lx := none) (XF := []) ⟨pl_nmu, ck_E1 (ck_S1 pl_s182_s ck_S0) (ck_E1 (ck_S1 pl_s183_s ck_S0) (ck_E1 (ck_S1 lh_S_s ck_S0) ck_E0))⟩ ck_X0 ck_l0 (by decide +kernel)
set_option maxRecDepth 100000 in
/-- GlacierMail$Ice.keepFlow -/
noncomputable def pl_s186 : ck_Sum := ((0, 0, 0), 249, [.inr (.inr (.inl 200)), .inl ((-2147483648), 2147483647, []), .inl (0, 30, [])], ([], [], []), ([(205, 0, 14849)], []), [(.inr none, 249, ([], [], []))])
set_option maxRecDepth 100000 in
noncomputable def pl_s186a : ck_Sum := ((0, 0, 0), 249, [.inr (.inr (.inl 200)), .inl ((-2147483648), (-1), []), .inl (0, 30, [])], ([], [], []), ([(205, 0, 14849)], []), [(.inr none, 249, ([], [], []))])
set_option maxRecDepth 100000 in
noncomputable def pl_s186b : ck_Sum := ((0, 0, 0), 249, [.inr (.inr (.inl 200)), .inl (0, 2147483647, []), .inl (0, 30, [])], ([], [], []), ([(205, 0, 14849)], []), [(.inr none, 249, ([], [], []))])
set_option maxRecDepth 100000 in
theorem pl_s186a_e : ck_ok p2_OL none [] [] 42 [] 154 pl_s186a = true := by decide +kernel
set_option maxRecDepth 100000 in
theorem pl_s186b_e : ck_ok p2_OL none [] [] 42 [] 154 pl_s186b = true := by decide +kernel
/-- a number below 0, or not: its quotient is looked at in both -/
theorem pl_s186_s {X : Int → Int} {LX : Nat} : ck_Ok p2_OL X LX 42 pl_s186 := by
  have ha : ck_Ok p2_OL X LX 42 pl_s186a := ck_ok_s ⟨pl_nmu, ck_E0⟩ ck_X0 ck_l0 pl_s186a_e
  have hb : ck_Ok p2_OL X LX 42 pl_s186b := ck_ok_s ⟨pl_nmu, ck_E0⟩ ck_X0 ck_l0 pl_s186b_e
  intro d σ vs n K R M hd hn hvs hnm hF hf
  have hs : ck_gas σ pl_s186a.2.2.1 vs ∨ ck_gas σ pl_s186b.2.2.1 vs := by
    obtain ⟨v0, w0, rfl, g0, g1⟩ : ∃ v ws, vs = v :: ws ∧ ck_ga σ (.inr (.inr (.inl 200))) v ∧ ck_gas σ (.inl ((-2147483648), 2147483647, []) :: [.inl (0, 30, [])]) ws := hvs
    obtain ⟨v1, w1, rfl, ⟨x, rfl, rx, x1, x2, x3⟩, g2⟩ : ∃ v ws, w0 = v :: ws ∧ ck_ga σ (.inl ((-2147483648), 2147483647, [])) v ∧ ck_gas σ [.inl (0, 30, [])] ws := g1
    by_cases hx : x < 0
    · have h1 : ∃ v ws, gm_vi x :: w1 = v :: ws ∧ ck_ga σ (.inl ((-2147483648), (-1), [])) v ∧ ck_gas σ [.inl (0, 30, [])] ws := ⟨_, _, rfl, ⟨x, rfl, rx, x1, by show x ≤ -1; omega, x3⟩, g2⟩
      have h2 : ∃ v ws, v0 :: gm_vi x :: w1 = v :: ws ∧ ck_ga σ (.inr (.inr (.inl 200))) v ∧ ck_gas σ (.inl ((-2147483648), (-1), []) :: [.inl (0, 30, [])]) ws := ⟨_, _, rfl, g0, h1⟩
      exact Or.inl h2
    · have h1 : ∃ v ws, gm_vi x :: w1 = v :: ws ∧ ck_ga σ (.inl (0, 2147483647, [])) v ∧ ck_gas σ [.inl (0, 30, [])] ws := ⟨_, _, rfl, ⟨x, rfl, rx, by show 0 ≤ x; omega, x2, x3⟩, g2⟩
      have h2 : ∃ v ws, v0 :: gm_vi x :: w1 = v :: ws ∧ ck_ga σ (.inr (.inr (.inl 200))) v ∧ ck_gas σ (.inl (0, 2147483647, []) :: [.inl (0, 30, [])]) ws := ⟨_, _, rfl, g0, h1⟩
      exact Or.inr h2
  rcases hs with h | h
  · exact ha d σ vs n K R M hd hn h hnm hF hf
  · exact hb d σ vs n K R M hd hn h hnm hF hf
set_option maxRecDepth 100000 in
/-- GlacierMail$Ice.flowAt -/
noncomputable def pl_s187 : ck_Sum := ((2, 0, 0), 249, [.inr (.inr (.inl 200)), .inl ((-2147483648), 2147483647, []), .inl ((-2147483648), 2147483647, []), .inl ((-2147483648), 2147483647, [])], ([], [(3, 8, 246)], []), ([(200, 6, 6), (204, 0, 9), (205, 0, 14849)], []), [(.inr (some (.inl (0, 30, []))), 249, ([], [], [(200, 6, 6, ck_one 0)]))])
set_option maxRecDepth 100000 in
theorem pl_s187_s {X : Int → Int} {LX : Nat} : ck_Ok p2_OL X LX 35 pl_s187 := ck_ok_s (O := p2_OL) (X := X) (LX := LX) (E := [(36, [pl_s176]), (37, [pl_s178]), (39, [pl_s180, pl_s181]), (40, [pl_s185]), (42, [pl_s186])]) (mi := 35) (cuts := []) (f := 172) (S := pl_s187) (lx := none) (XF := []) ⟨pl_nmu, ck_E1 (ck_S1 pl_s176_s ck_S0) (ck_E1 (ck_S1 pl_s178_s ck_S0) (ck_E1 (ck_S1 pl_s180_s (ck_S1 pl_s181_s ck_S0)) (ck_E1 (ck_S1 pl_s185_s ck_S0) (ck_E1 (ck_S1 pl_s186_s ck_S0) ck_E0))))⟩ ck_X0 ck_l0 (by decide +kernel)
set_option maxRecDepth 100000 in
/-- GlacierMail$Rows.size -/
noncomputable def pl_s189 : ck_Sum := ((0, 0, 0), 249, [.inr (.inr (.inl 8))], ([], [], []), ([], []), [(.inr (some (.inl (0, 8, []))), 249, ([], [], []))])
set_option maxRecDepth 100000 in
theorem pl_s189_s {X : Int → Int} {LX : Nat} : ck_Ok p2_OL X LX 9 pl_s189 := ck_ok_s (O := p2_OL) (X := X) (LX := LX) (E := []) (mi := 9) (cuts := []) (f := 76) (S := pl_s189) (lx := none) (XF := []) ⟨pl_nmu, ck_E0⟩ ck_X0 ck_l0 (by decide +kernel)
set_option maxRecDepth 100000 in
/-- GlacierMail.need -/
noncomputable def pl_s190 : ck_Sum := ((6, 1, 6), 249, [.inr (.inr (.inl 1)), .inl ((-2147483648), (-1), []), .inl (0, 8, [])], ([], [], []), ([], []), [(.inl 3, 249, ([], [], []))])
set_option maxRecDepth 100000 in
theorem pl_s190_s {X : Int → Int} {LX : Nat} : ck_Ok p2_OL X LX 133 pl_s190 := ck_ok_s (O := p2_OL) (X := X) (LX := LX) (E := []) (mi := 133) (cuts := []) (f := 76) (S := pl_s190) (lx := none) (XF := []) ⟨pl_nmu, ck_E0⟩ ck_X0 ck_l0 (by decide +kernel)
set_option maxRecDepth 100000 in
/-- GlacierMail.needPerson -/
noncomputable def pl_s191 : ck_Sum := ((7, 1, 6), 249, [.inr (.inr (.inl 1)), .inl ((-2147483648), (-1), [])], ([], [], []), ([], []), [(.inl 3, 249, ([], [], []))])
set_option maxRecDepth 100000 in
theorem pl_s191_s {X : Int → Int} {LX : Nat} : ck_Ok p2_OL X LX 139 pl_s191 := ck_ok_s (O := p2_OL) (X := X) (LX := LX) (E := [(9, [pl_s189]), (133, [pl_s190])]) (mi := 139) (cuts := []) (f := 84) (S := pl_s191) (lx := none) (XF := []) ⟨pl_nmu, ck_E1 (ck_S1 pl_s189_s ck_S0) (ck_E1 (ck_S1 pl_s190_s ck_S0) ck_E0)⟩ ck_X0 ck_l0 (by decide +kernel)
set_option maxRecDepth 100000 in
/-- GlacierMail.person -/
noncomputable def pl_s192 : ck_Sum := ((8, 1, 6), 249, [.inr (.inr (.inl 1)), .inl ((-2147483648), (-1), []), .inl ((-2147483648), 2147483647, [])], ([], [], []), ([], []), [(.inl 3, 249, ([], [], []))])
set_option maxRecDepth 100000 in
theorem pl_s192_s {X : Int → Int} {LX : Nat} : ck_Ok p2_OL X LX 138 pl_s192 := ck_ok_s (O := p2_OL) (X := X) (LX := LX) (E := [(139, [pl_s191])]) (mi := 138) (cuts := []) (f := 76) (S := pl_s192) (lx := none) (XF := []) ⟨pl_nmu, ck_E1 (ck_S1 pl_s191_s ck_S0) ck_E0⟩ ck_X0 ck_l0 (by decide +kernel)
set_option maxRecDepth 100000 in
/-- GlacierMail.need -/
noncomputable def pl_s193 : ck_Sum := ((6, 1, 6), 249, [.inr (.inr (.inl 1)), .inl (8, 2147483647, []), .inl (0, 8, [])], ([], [], []), ([], []), [(.inl 3, 249, ([], [], []))])
set_option maxRecDepth 100000 in
theorem pl_s193_s {X : Int → Int} {LX : Nat} : ck_Ok p2_OL X LX 133 pl_s193 := ck_ok_s (O := p2_OL) (X := X) (LX := LX) (E := []) (mi := 133) (cuts := []) (f := 82) (S := pl_s193) (lx := none) (XF := []) ⟨pl_nmu, ck_E0⟩ ck_X0 ck_l0 (by decide +kernel)
set_option maxRecDepth 100000 in
/-- GlacierMail.needPerson -/
noncomputable def pl_s194 : ck_Sum := ((7, 1, 6), 249, [.inr (.inr (.inl 1)), .inl (8, 2147483647, [])], ([], [], []), ([], []), [(.inl 3, 249, ([], [], []))])
set_option maxRecDepth 100000 in
theorem pl_s194_s {X : Int → Int} {LX : Nat} : ck_Ok p2_OL X LX 139 pl_s194 := ck_ok_s (O := p2_OL) (X := X) (LX := LX) (E := [(9, [pl_s189]), (133, [pl_s193])]) (mi := 139) (cuts := []) (f := 84) (S := pl_s194) (lx := none) (XF := []) ⟨pl_nmu, ck_E1 (ck_S1 pl_s189_s ck_S0) (ck_E1 (ck_S1 pl_s193_s ck_S0) ck_E0)⟩ ck_X0 ck_l0 (by decide +kernel)
set_option maxRecDepth 100000 in
/-- GlacierMail.person -/
noncomputable def pl_s195 : ck_Sum := ((8, 1, 6), 249, [.inr (.inr (.inl 1)), .inl (8, 2147483647, []), .inl ((-2147483648), 2147483647, [])], ([], [], []), ([], []), [(.inl 3, 249, ([], [], []))])
set_option maxRecDepth 100000 in
theorem pl_s195_s {X : Int → Int} {LX : Nat} : ck_Ok p2_OL X LX 138 pl_s195 := ck_ok_s (O := p2_OL) (X := X) (LX := LX) (E := [(139, [pl_s194])]) (mi := 138) (cuts := []) (f := 76) (S := pl_s195) (lx := none) (XF := []) ⟨pl_nmu, ck_E1 (ck_S1 pl_s194_s ck_S0) ck_E0⟩ ck_X0 ck_l0 (by decide +kernel)
set_option maxRecDepth 100000 in
/-- GlacierMail.need -/
noncomputable def pl_s196 : ck_Sum := ((6, 1, 6), 249, [.inr (.inr (.inl 1)), .inl (0, 7, []), .inl (0, 8, [])], ([], [], []), ([], []), [(.inr none, 249, ([], [], [])), (.inl 3, 249, ([], [], []))])
set_option maxRecDepth 100000 in
theorem pl_s196_s {X : Int → Int} {LX : Nat} : ck_Ok p2_OL X LX 133 pl_s196 := ck_ok_s (O := p2_OL) (X := X) (LX := LX) (E := []) (mi := 133) (cuts := []) (f := 82) (S := pl_s196) (lx := none) (XF := []) ⟨pl_nmu, ck_E0⟩ ck_X0 ck_l0 (by decide +kernel)
set_option maxRecDepth 100000 in
/-- GlacierMail.needPerson -/
noncomputable def pl_s197 : ck_Sum := ((7, 1, 6), 249, [.inr (.inr (.inl 1)), .inl (0, 7, [])], ([], [], []), ([], []), [(.inl 3, 249, ([], [], [])), (.inr none, 249, ([], [], []))])
set_option maxRecDepth 100000 in
theorem pl_s197_s {X : Int → Int} {LX : Nat} : ck_Ok p2_OL X LX 139 pl_s197 := ck_ok_s (O := p2_OL) (X := X) (LX := LX) (E := [(9, [pl_s189]), (133, [pl_s196])]) (mi := 139) (cuts := []) (f := 86) (S := pl_s197) (lx := none) (XF := []) ⟨pl_nmu, ck_E1 (ck_S1 pl_s189_s ck_S0) (ck_E1 (ck_S1 pl_s196_s ck_S0) ck_E0)⟩ ck_X0 ck_l0 (by decide +kernel)
set_option maxRecDepth 100000 in
/-- GlacierMail.person -/
noncomputable def pl_s198 : ck_Sum := ((8, 2, 12), 249, [.inr (.inr (.inl 1)), .inl (0, 7, []), .inl ((-2147483648), (-1), [])], ([], [], []), ([], []), [(.inl 3, 249, ([], [], [])), (.inl 4, 249, ([], [], []))])
set_option maxRecDepth 100000 in
theorem pl_s198_s {X : Int → Int} {LX : Nat} : ck_Ok p2_OL X LX 138 pl_s198 := ck_ok_s (O := p2_OL) (X := X) (LX := LX) (E := [(139, [pl_s197])]) (mi := 138) (cuts := []) (f := 82) (S := pl_s198) (lx := none) (XF := []) ⟨pl_nmu, ck_E1 (ck_S1 pl_s197_s ck_S0) ck_E0⟩ ck_X0 ck_l0 (by decide +kernel)
set_option maxRecDepth 100000 in
/-- GlacierMail.person -/
noncomputable def pl_s199 : ck_Sum := ((8, 2, 12), 249, [.inr (.inr (.inl 1)), .inl (0, 7, []), .inl (10, 2147483647, [])], ([], [], []), ([], []), [(.inl 3, 249, ([], [], [])), (.inl 4, 249, ([], [], []))])
set_option maxRecDepth 100000 in
theorem pl_s199_s {X : Int → Int} {LX : Nat} : ck_Ok p2_OL X LX 138 pl_s199 := ck_ok_s (O := p2_OL) (X := X) (LX := LX) (E := [(139, [pl_s197])]) (mi := 138) (cuts := []) (f := 82) (S := pl_s199) (lx := none) (XF := []) ⟨pl_nmu, ck_E1 (ck_S1 pl_s197_s ck_S0) ck_E0⟩ ck_X0 ck_l0 (by decide +kernel)
set_option maxRecDepth 100000 in
/-- GlacierMail$Rows.size -/
noncomputable def pl_s200 : ck_Sum := ((0, 0, 0), 249, [.inr (.inr (.inl 10))], ([], [], []), ([], []), [(.inr (some (.inl (0, 24, []))), 249, ([], [], []))])
set_option maxRecDepth 100000 in
theorem pl_s200_s {X : Int → Int} {LX : Nat} : ck_Ok p2_OL X LX 9 pl_s200 := ck_ok_s (O := p2_OL) (X := X) (LX := LX) (E := []) (mi := 9) (cuts := []) (f := 76) (S := pl_s200) (lx := none) (XF := []) ⟨pl_nmu, ck_E0⟩ ck_X0 ck_l0 (by decide +kernel)
set_option maxRecDepth 100000 in
/-- GlacierMail$Rows.size -/
noncomputable def pl_s201 : ck_Sum := ((0, 0, 0), 249, [.inr (.inr (.inl 220))], ([], [], []), ([], []), [(.inr (some (.inl (0, 24, []))), 249, ([], [], []))])
set_option maxRecDepth 100000 in
theorem pl_s201_s {X : Int → Int} {LX : Nat} : ck_Ok p2_OL X LX 9 pl_s201 := ck_ok_s (O := p2_OL) (X := X) (LX := LX) (E := []) (mi := 9) (cuts := []) (f := 76) (S := pl_s201) (lx := none) (XF := []) ⟨pl_nmu, ck_E0⟩ ck_X0 ck_l0 (by decide +kernel)
set_option maxRecDepth 100000 in
/-- java/util/Arrays.fill -/
noncomputable def pl_s202 : ck_Sum := ((0, 0, 0), 249, [.inr (.inr (.inl 221)), .inl (ck_one 0)], ([], [], []), ([(221, 0, 47)], []), [(.inr none, 249, ([], [], []))])
set_option maxRecDepth 100000 in
theorem pl_s202_s {X : Int → Int} {LX : Nat} : ck_Ok p2_OL X LX 8 pl_s202 := ck_ok_s (O := p2_OL) (X := X) (LX := LX) (E := []) (mi := 8) (cuts := [(5, [some (.inr (.inr (.inl 221))), some (.inl (ck_one 0)), some (.inl (0, 48, [])), some (.inl (ck_one 48))], ([], [], []), 100, .inl 2, true)]) (f := 130) (S := pl_s202) (lx := none) (XF := []) ⟨pl_nmu, ck_E0⟩ ck_X0 ck_l0 (by decide +kernel)
set_option maxRecDepth 100000 in
/-- GlacierMail$Rows.reset -/
noncomputable def pl_s203 : ck_Sum := ((1, 0, 0), 249, [.inr (.inr (.inl 220)), .inl (0, 24, [])], ([], [], []), ([(220, 3, 3), (221, 0, 47)], []), [(.inr none, 249, ([], [], []))])
set_option maxRecDepth 100000 in
theorem pl_s203_s {X : Int → Int} {LX : Nat} : ck_Ok p2_OL X LX 25 pl_s203 := ck_ok_s (O := p2_OL) (X := X) (LX := LX) (E := [(8, [pl_s202])]) (mi := 25) (cuts := []) (f := 96) (S := pl_s203) (lx := none) (XF := []) ⟨pl_nmu, ck_E1 (ck_S1 pl_s202_s ck_S0) ck_E0⟩ ck_X0 ck_l0 (by decide +kernel)
set_option maxRecDepth 100000 in
/-- GlacierMail$Rows.get -/
noncomputable def pl_s204 : ck_Sum := ((0, 0, 0), 249, [.inr (.inr (.inl 10)), .inl ((-2147483648), 2147483647, []), .inl ((-2147483648), 2147483647, [])], ([], [], []), ([], []), [(.inr (some (.inl ((-1), 299, []))), 249, ([], [], []))])
set_option maxRecDepth 100000 in
theorem pl_s204_s {X : Int → Int} {LX : Nat} : ck_Ok p2_OL X LX 10 pl_s204 := ck_ok_s (O := p2_OL) (X := X) (LX := LX) (E := []) (mi := 10) (cuts := []) (f := 114) (S := pl_s204) (lx := none) (XF := []) ⟨pl_nmu, ck_E0⟩ ck_X0 ck_l0 (by decide +kernel)
set_option maxRecDepth 100000 in
/-- GlacierMail$State.isRock -/
noncomputable def pl_s205 : ck_Sum := ((1, 0, 0), 249, [.inr (.inr (.inl 3)), .inl (0, 23, [])], ([], [], []), ([], []), [(.inr (some (.inl (ck_one 0))), 249, ([], [], [])), (.inr (some (.inl (ck_one 1))), 249, ([], [], []))])
set_option maxRecDepth 100000 in
theorem pl_s205_s {X : Int → Int} {LX : Nat} : ck_Ok p2_OL X LX 28 pl_s205 := ck_ok_s (O := p2_OL) (X := X) (LX := LX) (E := [(10, [pl_s204])]) (mi := 28) (cuts := []) (f := 90) (S := pl_s205) (lx := none) (XF := []) ⟨pl_nmu, ck_E1 (ck_S1 pl_s204_s ck_S0) ck_E0⟩ ck_X0 ck_l0 (by decide +kernel)
set_option maxRecDepth 100000 in
/-- GlacierMail$Way.start -/
noncomputable def pl_s206 : ck_Sum := ((0, 0, 0), 249, [.inr (.inr (.inl 206)), .inl ((-1), 299, []), .inl ((-1), 299, []), .inl ((-1), 299, []), .inl (ck_one 0)], ([], [], []), ([(206, 2, 8)], []), [(.inr none, 249, ([], [], zl74))])
set_option maxRecDepth 100000 in
theorem pl_s206_s {X : Int → Int} {LX : Nat} : ck_Ok p2_OL X LX 29 pl_s206 := ck_ok_s (O := p2_OL) (X := X) (LX := LX) (E := []) (mi := 29) (cuts := []) (f := 114) (S := pl_s206) (lx := none) (XF := []) ⟨pl_nmu, ck_E0⟩ ck_X0 ck_l0 (by decide +kernel)
set_option maxRecDepth 100000 in
/-- GlacierMail$Way.start -/
noncomputable def pl_s207 : ck_Sum := ((0, 0, 0), 249, [.inr (.inr (.inl 206)), .inl ((-1), 299, []), .inl ((-1), 299, []), .inl ((-1), 299, []), .inl (ck_one 1)], ([], [], []), ([(206, 2, 8)], []), [(.inr none, 249, ([], [], zl75))])
set_option maxRecDepth 100000 in
theorem pl_s207_s {X : Int → Int} {LX : Nat} : ck_Ok p2_OL X LX 29 pl_s207 := ck_ok_s (O := p2_OL) (X := X) (LX := LX) (E := []) (mi := 29) (cuts := []) (f := 114) (S := pl_s207) (lx := none) (XF := []) ⟨pl_nmu, ck_E0⟩ ck_X0 ck_l0 (by decide +kernel)
set_option maxRecDepth 100000 in
/-- GlacierMail$Way.startLetter -/
noncomputable def pl_s208 : ck_Sum := ((2, 0, 0), 249, [.inr (.inr (.inl 206)), .inl (0, 23, [])], ([], [], []), ([(206, 2, 8)], []), [(.inr none, 249, ([], [], zl76))])
set_option maxRecDepth 100000 in
theorem pl_s208_s {X : Int → Int} {LX : Nat} : ck_Ok p2_OL X LX 27 pl_s208 := ck_ok_s (O := p2_OL) (X := X) (LX := LX) (E := [(10, [pl_s204]), (28, [pl_s205]), (29, [pl_s206, pl_s207])]) (mi := 27) (cuts := []) (f := 116) (S := pl_s208) (lx := none) (XF := []) ⟨pl_nmu, ck_E1 (ck_S1 pl_s204_s ck_S0) (ck_E1 (ck_S1 pl_s205_s ck_S0) (ck_E1 (ck_S1 pl_s206_s (ck_S1 pl_s207_s ck_S0)) ck_E0))⟩ ck_X0 ck_l0 (by decide +kernel)
set_option maxRecDepth 100000 in
/-- GlacierMail$Way.isOut -/
noncomputable def pl_s209 : ck_Sum := ((0, 0, 0), 249, [.inr (.inr (.inl 206))], ([], [], []), ([], []), [(.inr (some (.inl (ck_one 0))), 249, ([], [], [(206, 5, 5, ((-2147483648), 98, []))])), (.inr (some (.inl (ck_one 1))), 249, ([], [], [(206, 5, 5, (10, 2147483647, []))]))])
set_option maxRecDepth 100000 in
theorem pl_s209_s {X : Int → Int} {LX : Nat} : ck_Ok p2_OL X LX 31 pl_s209 := ck_ok_s (O := p2_OL) (X := X) (LX := LX) (E := []) (mi := 31) (cuts := []) (f := 88) (S := pl_s209) (lx := none) (XF := []) ⟨pl_nmu, ck_E0⟩ ck_X0 ck_l0 (by decide +kernel)
set_option maxRecDepth 100000 in
/-- GlacierMail$Way.deepAfter -/
noncomputable def pl_s210 : ck_Sum := ((1, 0, 0), 249, [.inr (.inr (.inl 206))], ([], [], []), ([], []), [(.inr (some (.inl (0, 99, []))), 249, ([], [], []))])
set_option maxRecDepth 100000 in
theorem pl_s210_s {X : Int → Int} {LX : Nat} : ck_Ok p2_OL X LX 33 pl_s210 := ck_ok_s (O := p2_OL) (X := X) (LX := LX) (E := [(34, [pl_s179])]) (mi := 33) (cuts := []) (f := 110) (S := pl_s210) (lx := none) (XF := []) ⟨pl_nmu, ck_E1 (ck_S1 pl_s179_s ck_S0) ck_E0⟩ ck_X0 ck_l0 (by decide +kernel)
set_option maxRecDepth 100000 in
/-- GlacierMail$Ice.floodsIn -/
noncomputable def pl_s211 : ck_Sum := ((0, 0, 0), 249, [.inr (.inr (.inl 200)), .inl ((-2147483648), 2147483647, [])], ([], [], []), ([], []), [(.inr (some (.inl (ck_one 0))), 249, ([], [], [])), (.inr (some (.inl ((-2147483648), 2147483647, []))), 249, ([], [], []))])
set_option maxRecDepth 100000 in
theorem pl_s211_s {X : Int → Int} {LX : Nat} : ck_Ok p2_OL X LX 44 pl_s211 := ck_ok_s (O := p2_OL) (X := X) (LX := LX) (E := []) (mi := 44) (cuts := []) (f := 92) (S := pl_s211) (lx := none) (XF := []) ⟨pl_nmu, ck_E0⟩ ck_X0 ck_l0 (by decide +kernel)
set_option maxRecDepth 100000 in
/-- GlacierMail$Way.takeFloods -/
noncomputable def pl_s212 : ck_Sum := ((1, 0, 0), 249, [.inr (.inr (.inl 206))], ([], [], []), ([(206, 5, 5), (206, 8, 8)], []), [(.inr none, 249, ([], [], []))])
set_option maxRecDepth 100000 in
theorem pl_s212_s {X : Int → Int} {LX : Nat} : ck_Ok p2_OL X LX 43 pl_s212 := ck_ok_s (O := p2_OL) (X := X) (LX := LX) (E := [(44, [pl_s211]), (9, [pl_s137]), (10, [pl_s138])]) (mi := 43) (cuts := [(22, [some (.inr (.inr (.inl 206))), some (.inr (.inr (.inl 6))), some (.inl ((-2147483648), 2147483647, [])), some (.inl (0, 9, [])), none], ([], [], []), 100, .inl 3, true)]) (f := 290) (S := pl_s212) (lx := none) (XF := []) ⟨pl_nmu, ck_E1 (ck_S1 pl_s211_s ck_S0) (ck_E1 (ck_S1 pl_s137_s ck_S0) (ck_E1 (ck_S1 pl_s138_s ck_S0) ck_E0))⟩ ck_X0 ck_l0 (by decide +kernel)
set_option maxRecDepth 100000 in
/-- GlacierMail$Way.step -/
noncomputable def pl_s213 : ck_Sum := ((3, 0, 0), 249, [.inr (.inr (.inl 206))], ([], [(3, 8, 246)], []), (zl227, []), [(.inr none, 249, ([], [], []))])
set_option maxRecDepth 100000 in
theorem pl_s213_s {X : Int → Int} {LX : Nat} : ck_Ok p2_OL X LX 32 pl_s213 := ck_ok_s (O := p2_OL) (X := X) (LX := LX) (E := [(31, [pl_s209]), (33, [pl_s210]), (35, [pl_s187]), (43, [pl_s212])]) (mi := 32) (cuts := []) (f := 134) (S := pl_s213) (lx := none) (XF := []) ⟨pl_nmu, ck_E1 (ck_S1 pl_s209_s ck_S0) (ck_E1 (ck_S1 pl_s210_s ck_S0) (ck_E1 (ck_S1 pl_s187_s ck_S0) (ck_E1 (ck_S1 pl_s212_s ck_S0) ck_E0)))⟩ ck_X0 ck_l0 (by decide +kernel)
set_option maxRecDepth 100000 in
/-- GlacierMail$Way.runOut -/
noncomputable def pl_s214 : ck_Sum := ((4, 0, 0), 249, [.inr (.inr (.inl 206)), .inl (0, 299, [])], ([], [(3, 8, 246)], []), (zl227, []), [(.inr (some (.inl ((-2147483648), 299, []))), 249, ([], [], []))])
set_option maxRecDepth 100000 in
theorem pl_s214_s {X : Int → Int} {LX : Nat} : ck_Ok p2_OL X LX 30 pl_s214 := ck_ok_s (O := p2_OL) (X := X) (LX := LX) (E := [(31, [pl_s209]), (32, [pl_s213])]) (mi := 30) (cuts := [(5, [some (.inr (.inr (.inl 206))), some (.inl (0, 299, [])), some (.inl ((-2147483648), 2147483647, []))], ([], [(3, 8, 246)], []), 100, .inl 2, true)]) (f := 134) (S := pl_s214) (lx := none) (XF := []) ⟨pl_nmu, ck_E1 (ck_S1 pl_s209_s ck_S0) (ck_E1 (ck_S1 pl_s213_s ck_S0) ck_E0)⟩ ck_X0 ck_l0 (by decide +kernel)
set_option maxRecDepth 100000 in
/-- GlacierMail$Rows.put -/
noncomputable def pl_s215 : ck_Sum := ((0, 0, 0), 249, [.inr (.inr (.inl 220)), .inl (0, 23, []), .inl (ck_one 0), .inl ((-2147483648), 299, [])], ([], [], []), (zl77, []), [(.inr none, 249, ([], [], []))])
set_option maxRecDepth 100000 in
theorem pl_s215_s {X : Int → Int} {LX : Nat} : ck_Ok p2_OL X LX 45 pl_s215 := ck_ok_s (O := p2_OL) (X := X) (LX := LX) (E := []) (mi := 45) (cuts := []) (f := 116) (S := pl_s215) (lx := none) (XF := []) ⟨pl_nmu, ck_E0⟩ ck_X0 ck_l0 (by decide +kernel)
set_option maxRecDepth 100000 in
/-- GlacierMail$Rows.put -/
noncomputable def pl_s216 : ck_Sum := ((0, 0, 0), 249, [.inr (.inr (.inl 220)), .inl (0, 23, []), .inl (ck_one 1), .inl (0, 99, [])], ([], [], []), (zl78, []), [(.inr none, 249, ([], [], []))])
set_option maxRecDepth 100000 in
theorem pl_s216_s {X : Int → Int} {LX : Nat} : ck_Ok p2_OL X LX 45 pl_s216 := ck_ok_s (O := p2_OL) (X := X) (LX := LX) (E := []) (mi := 45) (cuts := []) (f := 116) (S := pl_s216) (lx := none) (XF := []) ⟨pl_nmu, ck_E0⟩ ck_X0 ck_l0 (by decide +kernel)
set_option maxRecDepth 100000 in
/-- GlacierMail.reckonEnds -/
noncomputable def pl_s217 : ck_Sum := ((5, 0, 0), 249, [.inr (.inr (.inl 1))], ([], [(3, 8, 246)], []), (zl228, []), [(.inr none, 249, ([], [], [(1, 15, 15, ck_one 1)]))])
set_option maxRecDepth 100000 in
theorem pl_s217_s {X : Int → Int} {LX : Nat} : ck_Ok p2_OL X LX 24 pl_s217 := ck_ok_s (O := p2_OL) (X := X) (LX := LX) (E := [(9, [pl_s200, pl_s201]), (25, [pl_s203]), (27, [pl_s208]), (30, [pl_s214]), (45, [pl_s215, pl_s216])]) (mi := 24) (cuts := [(27, [some (.inr (.inr (.inl 1))), some (.inl (0, 24, []))], ([], [(3, 8, 246)], [(1, 15, 15, ck_one 0)]), 100, .inl 1, true)]) (f := 206) (S := pl_s217) (lx := none) (XF := []) ⟨pl_nmu, ck_E1 (ck_S1 pl_s200_s (ck_S1 pl_s201_s ck_S0)) (ck_E1 (ck_S1 pl_s203_s ck_S0) (ck_E1 (ck_S1 pl_s208_s ck_S0) (ck_E1 (ck_S1 pl_s214_s ck_S0) (ck_E1 (ck_S1 pl_s215_s (ck_S1 pl_s216_s ck_S0)) ck_E0))))⟩ ck_X0 ck_l0 (by decide +kernel)
set_option maxRecDepth 100000 in
/-- GlacierMail$Rows.get -/
noncomputable def pl_s218 : ck_Sum := ((0, 0, 0), 249, [.inr (.inr (.inl 220)), .inl ((-2147483648), 2147483647, []), .inl ((-2147483648), 2147483647, [])], ([], [], []), ([], []), [(.inr (some (.inl ((-2147483648), 299, []))), 249, ([], [], []))])
set_option maxRecDepth 100000 in
theorem pl_s218_s {X : Int → Int} {LX : Nat} : ck_Ok p2_OL X LX 10 pl_s218 := ck_ok_s (O := p2_OL) (X := X) (LX := LX) (E := []) (mi := 10) (cuts := []) (f := 114) (S := pl_s218) (lx := none) (XF := []) ⟨pl_nmu, ck_E0⟩ ck_X0 ck_l0 (by decide +kernel)
set_option maxRecDepth 100000 in
/-- GlacierMail.isOutBy -/
noncomputable def pl_s219 : ck_Sum := ((0, 0, 0), 249, [.inr (.inr (.inl 1)), .inl ((-2147483648), 299, []), .inl (0, 299, [])], ([], [], []), ([], []), [(.inr (some (.inl (ck_one 0))), 249, ([], [], [])), (.inr (some (.inl (ck_one 1))), 249, ([], [], []))])
set_option maxRecDepth 100000 in
theorem pl_s219_s {X : Int → Int} {LX : Nat} : ck_Ok p2_OL X LX 67 pl_s219 := ck_ok_s (O := p2_OL) (X := X) (LX := LX) (E := []) (mi := 67) (cuts := []) (f := 88) (S := pl_s219) (lx := none) (XF := []) ⟨pl_nmu, ck_E0⟩ ck_X0 ck_l0 (by decide +kernel)
set_option maxRecDepth 100000 in
/-- GlacierMail.waits -/
noncomputable def pl_s220 : ck_Sum := ((2, 0, 0), 249, [.inr (.inr (.inl 1)), .inl (0, 23, [])], ([], [], [(3, 6, 6, (0, 299, [(10, 0)]))]), ([], []), [(.inr (some (.inl (ck_one 0))), 249, ([], [], [])), (.inr (some (.inl (ck_one 1))), 249, ([], [], []))])
set_option maxRecDepth 100000 in
theorem pl_s220_s {X : Int → Int} {LX : Nat} : ck_Ok p2_OL X LX 66 pl_s220 := ck_ok_s (O := p2_OL) (X := X) (LX := LX) (E := [(28, [pl_s205]), (10, [pl_s204, pl_s218]), (67, [pl_s219])]) (mi := 66) (cuts := []) (f := 134) (S := pl_s220) (lx := none) (XF := []) ⟨pl_nmu, ck_E1 (ck_S1 pl_s205_s ck_S0) (ck_E1 (ck_S1 pl_s204_s (ck_S1 pl_s218_s ck_S0)) (ck_E1 (ck_S1 pl_s219_s ck_S0) ck_E0))⟩ ck_X0 ck_l0 (by decide +kernel)
set_option maxRecDepth 100000 in
/-- GlacierMail.lettersWith -/
noncomputable def pl_s222 : ck_Sum := ((1, 0, 0), 249, [.inr (.inr (.inl 1)), .inl (ck_one 5), .inl (0, 7, [])], ([], [], []), ([], []), [(.inr (some (.inl ((-2147483648), 2147483647, []))), 249, ([], [], []))])
set_option maxRecDepth 100000 in
theorem pl_s222_s {X : Int → Int} {LX : Nat} : ck_Ok p2_OL X LX 140 pl_s222 := ck_ok_s (O := p2_OL) (X := X) (LX := LX) (E := [(9, [pl_s200]), (10, [pl_s204])]) (mi := 140) (cuts := [(5, [some (.inr (.inr (.inl 1))), some (.inl (ck_one 5)), some (.inl (0, 7, [])), some (.inl ((-2147483648), 2147483647, [])), some (.inl (0, 24, []))], ([], [], []), 100, .inl 4, true)]) (f := 162) (S := pl_s222) (lx := none) (XF := []) ⟨pl_nmu, ck_E1 (ck_S1 pl_s200_s ck_S0) (ck_E1 (ck_S1 pl_s204_s ck_S0) ck_E0)⟩ ck_X0 ck_l0 (by decide +kernel)
set_option maxRecDepth 100000 in
/-- GlacierMail.lettersWith -/
noncomputable def pl_s223 : ck_Sum := ((1, 0, 0), 249, [.inr (.inr (.inl 1)), .inl (ck_one 0), .inl (0, 7, [])], ([], [], []), ([], []), [(.inr (some (.inl ((-2147483648), 2147483647, []))), 249, ([], [], []))])
set_option maxRecDepth 100000 in
theorem pl_s223_s {X : Int → Int} {LX : Nat} : ck_Ok p2_OL X LX 140 pl_s223 := ck_ok_s (O := p2_OL) (X := X) (LX := LX) (E := [(9, [pl_s200]), (10, [pl_s204])]) (mi := 140) (cuts := [(5, [some (.inr (.inr (.inl 1))), some (.inl (ck_one 0)), some (.inl (0, 7, [])), some (.inl ((-2147483648), 2147483647, [])), some (.inl (0, 24, []))], ([], [], []), 100, .inl 4, true)]) (f := 162) (S := pl_s223) (lx := none) (XF := []) ⟨pl_nmu, ck_E1 (ck_S1 pl_s200_s ck_S0) (ck_E1 (ck_S1 pl_s204_s ck_S0) ck_E0)⟩ ck_X0 ck_l0 (by decide +kernel)
set_option maxRecDepth 100000 in
/-- GlacierMail$Rows.get -/
noncomputable def pl_s224 : ck_Sum := ((0, 0, 0), 249, [.inr (.inr (.inl 8)), .inl ((-2147483648), 2147483647, []), .inl ((-2147483648), 2147483647, [])], ([], [], []), ([], []), [(.inr (some (.inl ((-1), 98, []))), 249, ([], [], []))])
set_option maxRecDepth 100000 in
theorem pl_s224_s {X : Int → Int} {LX : Nat} : ck_Ok p2_OL X LX 10 pl_s224 := ck_ok_s (O := p2_OL) (X := X) (LX := LX) (E := []) (mi := 10) (cuts := []) (f := 114) (S := pl_s224) (lx := none) (XF := []) ⟨pl_nmu, ck_E0⟩ ck_X0 ck_l0 (by decide +kernel)
set_option maxRecDepth 100000 in
/-- GlacierMail.need -/
noncomputable def pl_s226 : ck_Sum := ((6, 1, 6), 249, [.inr (.inr (.inl 1)), .inl ((-2147483648), (-1), []), .inl (0, 24, [])], ([], [], []), ([], []), [(.inl 3, 249, ([], [], []))])
set_option maxRecDepth 100000 in
theorem pl_s226_s {X : Int → Int} {LX : Nat} : ck_Ok p2_OL X LX 133 pl_s226 := ck_ok_s (O := p2_OL) (X := X) (LX := LX) (E := []) (mi := 133) (cuts := []) (f := 76) (S := pl_s226) (lx := none) (XF := []) ⟨pl_nmu, ck_E0⟩ ck_X0 ck_l0 (by decide +kernel)
set_option maxRecDepth 100000 in
/-- GlacierMail.needLetter -/
noncomputable def pl_s227 : ck_Sum := ((7, 1, 6), 249, [.inr (.inr (.inl 1)), .inl ((-2147483648), (-1), [])], ([], [], []), ([], []), [(.inl 3, 249, ([], [], []))])
set_option maxRecDepth 100000 in
theorem pl_s227_s {X : Int → Int} {LX : Nat} : ck_Ok p2_OL X LX 143 pl_s227 := ck_ok_s (O := p2_OL) (X := X) (LX := LX) (E := [(9, [pl_s200]), (133, [pl_s226])]) (mi := 143) (cuts := []) (f := 84) (S := pl_s227) (lx := none) (XF := []) ⟨pl_nmu, ck_E1 (ck_S1 pl_s200_s ck_S0) (ck_E1 (ck_S1 pl_s226_s ck_S0) ck_E0)⟩ ck_X0 ck_l0 (by decide +kernel)
set_option maxRecDepth 100000 in
/-- GlacierMail.letter -/
noncomputable def pl_s228 : ck_Sum := ((8, 1, 6), 249, [.inr (.inr (.inl 1)), .inl ((-2147483648), (-1), []), .inl ((-2147483648), 2147483647, [])], ([], [], []), ([], []), [(.inl 3, 249, ([], [], []))])
set_option maxRecDepth 100000 in
theorem pl_s228_s {X : Int → Int} {LX : Nat} : ck_Ok p2_OL X LX 142 pl_s228 := ck_ok_s (O := p2_OL) (X := X) (LX := LX) (E := [(143, [pl_s227])]) (mi := 142) (cuts := []) (f := 76) (S := pl_s228) (lx := none) (XF := []) ⟨pl_nmu, ck_E1 (ck_S1 pl_s227_s ck_S0) ck_E0⟩ ck_X0 ck_l0 (by decide +kernel)
set_option maxRecDepth 100000 in
/-- GlacierMail.need -/
noncomputable def pl_s229 : ck_Sum := ((6, 1, 6), 249, [.inr (.inr (.inl 1)), .inl (24, 2147483647, []), .inl (0, 24, [])], ([], [], []), ([], []), [(.inl 3, 249, ([], [], []))])
set_option maxRecDepth 100000 in
theorem pl_s229_s {X : Int → Int} {LX : Nat} : ck_Ok p2_OL X LX 133 pl_s229 := ck_ok_s (O := p2_OL) (X := X) (LX := LX) (E := []) (mi := 133) (cuts := []) (f := 82) (S := pl_s229) (lx := none) (XF := []) ⟨pl_nmu, ck_E0⟩ ck_X0 ck_l0 (by decide +kernel)
set_option maxRecDepth 100000 in
/-- GlacierMail.needLetter -/
noncomputable def pl_s230 : ck_Sum := ((7, 1, 6), 249, [.inr (.inr (.inl 1)), .inl (24, 2147483647, [])], ([], [], []), ([], []), [(.inl 3, 249, ([], [], []))])
set_option maxRecDepth 100000 in
theorem pl_s230_s {X : Int → Int} {LX : Nat} : ck_Ok p2_OL X LX 143 pl_s230 := ck_ok_s (O := p2_OL) (X := X) (LX := LX) (E := [(9, [pl_s200]), (133, [pl_s229])]) (mi := 143) (cuts := []) (f := 84) (S := pl_s230) (lx := none) (XF := []) ⟨pl_nmu, ck_E1 (ck_S1 pl_s200_s ck_S0) (ck_E1 (ck_S1 pl_s229_s ck_S0) ck_E0)⟩ ck_X0 ck_l0 (by decide +kernel)
set_option maxRecDepth 100000 in
/-- GlacierMail.letter -/
noncomputable def pl_s231 : ck_Sum := ((8, 1, 6), 249, [.inr (.inr (.inl 1)), .inl (24, 2147483647, []), .inl ((-2147483648), 2147483647, [])], ([], [], []), ([], []), [(.inl 3, 249, ([], [], []))])
set_option maxRecDepth 100000 in
theorem pl_s231_s {X : Int → Int} {LX : Nat} : ck_Ok p2_OL X LX 142 pl_s231 := ck_ok_s (O := p2_OL) (X := X) (LX := LX) (E := [(143, [pl_s230])]) (mi := 142) (cuts := []) (f := 76) (S := pl_s231) (lx := none) (XF := []) ⟨pl_nmu, ck_E1 (ck_S1 pl_s230_s ck_S0) ck_E0⟩ ck_X0 ck_l0 (by decide +kernel)
set_option maxRecDepth 100000 in
/-- GlacierMail.need -/
noncomputable def pl_s232 : ck_Sum := ((6, 1, 6), 249, [.inr (.inr (.inl 1)), .inl (0, 23, []), .inl (0, 24, [])], ([], [], []), ([], []), [(.inr none, 249, ([], [], [])), (.inl 3, 249, ([], [], []))])
set_option maxRecDepth 100000 in
theorem pl_s232_s {X : Int → Int} {LX : Nat} : ck_Ok p2_OL X LX 133 pl_s232 := ck_ok_s (O := p2_OL) (X := X) (LX := LX) (E := []) (mi := 133) (cuts := []) (f := 82) (S := pl_s232) (lx := none) (XF := []) ⟨pl_nmu, ck_E0⟩ ck_X0 ck_l0 (by decide +kernel)
set_option maxRecDepth 100000 in
/-- GlacierMail.needLetter -/
noncomputable def pl_s233 : ck_Sum := ((7, 1, 6), 249, [.inr (.inr (.inl 1)), .inl (0, 23, [])], ([], [], []), ([], []), [(.inl 3, 249, ([], [], [])), (.inr none, 249, ([], [], []))])
set_option maxRecDepth 100000 in
theorem pl_s233_s {X : Int → Int} {LX : Nat} : ck_Ok p2_OL X LX 143 pl_s233 := ck_ok_s (O := p2_OL) (X := X) (LX := LX) (E := [(9, [pl_s200]), (133, [pl_s232])]) (mi := 143) (cuts := []) (f := 86) (S := pl_s233) (lx := none) (XF := []) ⟨pl_nmu, ck_E1 (ck_S1 pl_s200_s ck_S0) (ck_E1 (ck_S1 pl_s232_s ck_S0) ck_E0)⟩ ck_X0 ck_l0 (by decide +kernel)
set_option maxRecDepth 100000 in
/-- GlacierMail.letter -/
noncomputable def pl_s234 : ck_Sum := ((8, 2, 12), 249, [.inr (.inr (.inl 1)), .inl (0, 23, []), .inl ((-2147483648), (-1), [])], ([], [], []), ([], []), [(.inl 3, 249, ([], [], [])), (.inl 4, 249, ([], [], []))])
set_option maxRecDepth 100000 in
theorem pl_s234_s {X : Int → Int} {LX : Nat} : ck_Ok p2_OL X LX 142 pl_s234 := ck_ok_s (O := p2_OL) (X := X) (LX := LX) (E := [(143, [pl_s233])]) (mi := 142) (cuts := []) (f := 82) (S := pl_s234) (lx := none) (XF := []) ⟨pl_nmu, ck_E1 (ck_S1 pl_s233_s ck_S0) ck_E0⟩ ck_X0 ck_l0 (by decide +kernel)
set_option maxRecDepth 100000 in
/-- GlacierMail.letter -/
noncomputable def pl_s235 : ck_Sum := ((8, 2, 12), 249, [.inr (.inr (.inl 1)), .inl (0, 23, []), .inl (10, 2147483647, [])], ([], [], []), ([], []), [(.inl 3, 249, ([], [], [])), (.inl 4, 249, ([], [], []))])
set_option maxRecDepth 100000 in
theorem pl_s235_s {X : Int → Int} {LX : Nat} : ck_Ok p2_OL X LX 142 pl_s235 := ck_ok_s (O := p2_OL) (X := X) (LX := LX) (E := [(143, [pl_s233])]) (mi := 142) (cuts := []) (f := 82) (S := pl_s235) (lx := none) (XF := []) ⟨pl_nmu, ck_E1 (ck_S1 pl_s233_s ck_S0) ck_E0⟩ ck_X0 ck_l0 (by decide +kernel)
set_option maxRecDepth 100000 in
/-- GlacierMail.where -/
noncomputable def pl_s239 : ck_Sum := ((8, 1, 6), 249, [.inr (.inr (.inl 1)), .inl ((-2147483648), (-1), []), .inl ((-2147483648), 2147483647, [])], ([], [], []), ([], []), [(.inl 3, 249, ([], [], []))])
set_option maxRecDepth 100000 in
theorem pl_s239_s {X : Int → Int} {LX : Nat} : ck_Ok p2_OL X LX 147 pl_s239 := ck_ok_s (O := p2_OL) (X := X) (LX := LX) (E := [(143, [pl_s227])]) (mi := 147) (cuts := []) (f := 76) (S := pl_s239) (lx := none) (XF := []) ⟨pl_nmu, ck_E1 (ck_S1 pl_s227_s ck_S0) ck_E0⟩ ck_X0 ck_l0 (by decide +kernel)
set_option maxRecDepth 100000 in
/-- GlacierMail.where -/
noncomputable def pl_s240 : ck_Sum := ((8, 1, 6), 249, [.inr (.inr (.inl 1)), .inl (24, 2147483647, []), .inl ((-2147483648), 2147483647, [])], ([], [], []), ([], []), [(.inl 3, 249, ([], [], []))])
set_option maxRecDepth 100000 in
theorem pl_s240_s {X : Int → Int} {LX : Nat} : ck_Ok p2_OL X LX 147 pl_s240 := ck_ok_s (O := p2_OL) (X := X) (LX := LX) (E := [(143, [pl_s230])]) (mi := 147) (cuts := []) (f := 76) (S := pl_s240) (lx := none) (XF := []) ⟨pl_nmu, ck_E1 (ck_S1 pl_s230_s ck_S0) ck_E0⟩ ck_X0 ck_l0 (by decide +kernel)
set_option maxRecDepth 100000 in
/-- GlacierMail.where -/
noncomputable def pl_s241 : ck_Sum := ((8, 2, 12), 249, [.inr (.inr (.inl 1)), .inl (0, 23, []), .inl ((-2147483648), (-1), [])], ([], [], []), ([], []), [(.inl 3, 249, ([], [], [])), (.inl 0, 249, ([], [], []))])
set_option maxRecDepth 100000 in
theorem pl_s241_s {X : Int → Int} {LX : Nat} : ck_Ok p2_OL X LX 147 pl_s241 := ck_ok_s (O := p2_OL) (X := X) (LX := LX) (E := [(143, [pl_s233]), (129, [pl_s145])]) (mi := 147) (cuts := []) (f := 82) (S := pl_s241) (lx := none) (XF := []) ⟨pl_nmu, ck_E1 (ck_S1 pl_s233_s ck_S0) (ck_E1 (ck_S1 pl_s145_s ck_S0) ck_E0)⟩ ck_X0 ck_l0 (by decide +kernel)
set_option maxRecDepth 100000 in
/-- GlacierMail.where -/
noncomputable def pl_s242 : ck_Sum := ((8, 2, 12), 249, [.inr (.inr (.inl 1)), .inl (0, 23, []), .inl (300, 2147483647, [])], ([], [], []), ([], []), [(.inl 3, 249, ([], [], [])), (.inl 0, 249, ([], [], []))])
set_option maxRecDepth 100000 in
theorem pl_s242_s {X : Int → Int} {LX : Nat} : ck_Ok p2_OL X LX 147 pl_s242 := ck_ok_s (O := p2_OL) (X := X) (LX := LX) (E := [(143, [pl_s233]), (129, [pl_s147])]) (mi := 147) (cuts := []) (f := 82) (S := pl_s242) (lx := none) (XF := []) ⟨pl_nmu, ck_E1 (ck_S1 pl_s233_s ck_S0) (ck_E1 (ck_S1 pl_s147_s ck_S0) ck_E0)⟩ ck_X0 ck_l0 (by decide +kernel)
set_option maxRecDepth 100000 in
/-- GlacierMail.deep -/
noncomputable def pl_s245 : ck_Sum := ((8, 1, 6), 249, [.inr (.inr (.inl 1)), .inl ((-2147483648), (-1), []), .inl ((-2147483648), 2147483647, [])], ([], [], []), ([], []), [(.inl 3, 249, ([], [], []))])
set_option maxRecDepth 100000 in
theorem pl_s245_s {X : Int → Int} {LX : Nat} : ck_Ok p2_OL X LX 150 pl_s245 := ck_ok_s (O := p2_OL) (X := X) (LX := LX) (E := [(143, [pl_s227])]) (mi := 150) (cuts := []) (f := 76) (S := pl_s245) (lx := none) (XF := []) ⟨pl_nmu, ck_E1 (ck_S1 pl_s227_s ck_S0) ck_E0⟩ ck_X0 ck_l0 (by decide +kernel)
set_option maxRecDepth 100000 in
/-- GlacierMail.deep -/
noncomputable def pl_s246 : ck_Sum := ((8, 1, 6), 249, [.inr (.inr (.inl 1)), .inl (24, 2147483647, []), .inl ((-2147483648), 2147483647, [])], ([], [], []), ([], []), [(.inl 3, 249, ([], [], []))])
set_option maxRecDepth 100000 in
theorem pl_s246_s {X : Int → Int} {LX : Nat} : ck_Ok p2_OL X LX 150 pl_s246 := ck_ok_s (O := p2_OL) (X := X) (LX := LX) (E := [(143, [pl_s230])]) (mi := 150) (cuts := []) (f := 76) (S := pl_s246) (lx := none) (XF := []) ⟨pl_nmu, ck_E1 (ck_S1 pl_s230_s ck_S0) ck_E0⟩ ck_X0 ck_l0 (by decide +kernel)
set_option maxRecDepth 100000 in
/-- GlacierMail.deep -/
noncomputable def pl_s247 : ck_Sum := ((8, 2, 12), 249, [.inr (.inr (.inl 1)), .inl (0, 23, []), .inl ((-2147483648), (-1), [])], ([], [], []), ([], []), [(.inl 3, 249, ([], [], [])), (.inl 0, 249, ([], [], []))])
set_option maxRecDepth 100000 in
theorem pl_s247_s {X : Int → Int} {LX : Nat} : ck_Ok p2_OL X LX 150 pl_s247 := ck_ok_s (O := p2_OL) (X := X) (LX := LX) (E := [(143, [pl_s233]), (129, [pl_s145])]) (mi := 150) (cuts := []) (f := 82) (S := pl_s247) (lx := none) (XF := []) ⟨pl_nmu, ck_E1 (ck_S1 pl_s233_s ck_S0) (ck_E1 (ck_S1 pl_s145_s ck_S0) ck_E0)⟩ ck_X0 ck_l0 (by decide +kernel)
set_option maxRecDepth 100000 in
/-- GlacierMail.deep -/
noncomputable def pl_s248 : ck_Sum := ((8, 2, 12), 249, [.inr (.inr (.inl 1)), .inl (0, 23, []), .inl (300, 2147483647, [])], ([], [], []), ([], []), [(.inl 3, 249, ([], [], [])), (.inl 0, 249, ([], [], []))])
set_option maxRecDepth 100000 in
theorem pl_s248_s {X : Int → Int} {LX : Nat} : ck_Ok p2_OL X LX 150 pl_s248 := ck_ok_s (O := p2_OL) (X := X) (LX := LX) (E := [(143, [pl_s233]), (129, [pl_s147])]) (mi := 150) (cuts := []) (f := 82) (S := pl_s248) (lx := none) (XF := []) ⟨pl_nmu, ck_E1 (ck_S1 pl_s233_s ck_S0) (ck_E1 (ck_S1 pl_s147_s ck_S0) ck_E0)⟩ ck_X0 ck_l0 (by decide +kernel)
set_option maxRecDepth 100000 in
/-- GlacierMail.post -/
noncomputable def pl_s250 : ck_Sum := ((8, 1, 6), 249, [.inr (.inr (.inl 1)), .inl ((-2147483648), (-1), []), .inl ((-2147483648), 2147483647, [])], ([], [], []), ([], []), [(.inl 3, 249, ([], [], []))])
set_option maxRecDepth 100000 in
theorem pl_s250_s {X : Int → Int} {LX : Nat} : ck_Ok p2_OL X LX 152 pl_s250 := ck_ok_s (O := p2_OL) (X := X) (LX := LX) (E := [(139, [pl_s191])]) (mi := 152) (cuts := []) (f := 76) (S := pl_s250) (lx := none) (XF := []) ⟨pl_nmu, ck_E1 (ck_S1 pl_s191_s ck_S0) ck_E0⟩ ck_X0 ck_l0 (by decide +kernel)
set_option maxRecDepth 100000 in
/-- GlacierMail.post -/
noncomputable def pl_s251 : ck_Sum := ((8, 1, 6), 249, [.inr (.inr (.inl 1)), .inl (8, 2147483647, []), .inl ((-2147483648), 2147483647, [])], ([], [], []), ([], []), [(.inl 3, 249, ([], [], []))])
set_option maxRecDepth 100000 in
theorem pl_s251_s {X : Int → Int} {LX : Nat} : ck_Ok p2_OL X LX 152 pl_s251 := ck_ok_s (O := p2_OL) (X := X) (LX := LX) (E := [(139, [pl_s194])]) (mi := 152) (cuts := []) (f := 76) (S := pl_s251) (lx := none) (XF := []) ⟨pl_nmu, ck_E1 (ck_S1 pl_s194_s ck_S0) ck_E0⟩ ck_X0 ck_l0 (by decide +kernel)
set_option maxRecDepth 100000 in
/-- GlacierMail.post -/
noncomputable def pl_s252 : ck_Sum := ((8, 2, 12), 249, [.inr (.inr (.inl 1)), .inl (0, 7, []), .inl ((-2147483648), (-1), [])], ([], [], []), ([], []), [(.inl 3, 249, ([], [], []))])
set_option maxRecDepth 100000 in
theorem pl_s252_s {X : Int → Int} {LX : Nat} : ck_Ok p2_OL X LX 152 pl_s252 := ck_ok_s (O := p2_OL) (X := X) (LX := LX) (E := [(139, [pl_s197, pl_s191])]) (mi := 152) (cuts := []) (f := 82) (S := pl_s252) (lx := none) (XF := []) ⟨pl_nmu, ck_E1 (ck_S1 pl_s197_s (ck_S1 pl_s191_s ck_S0)) ck_E0⟩ ck_X0 ck_l0 (by decide +kernel)
set_option maxRecDepth 100000 in
/-- GlacierMail.post -/
noncomputable def pl_s253 : ck_Sum := ((8, 2, 12), 249, [.inr (.inr (.inl 1)), .inl (0, 7, []), .inl (8, 2147483647, [])], ([], [], []), ([], []), [(.inl 3, 249, ([], [], []))])
set_option maxRecDepth 100000 in
theorem pl_s253_s {X : Int → Int} {LX : Nat} : ck_Ok p2_OL X LX 152 pl_s253 := ck_ok_s (O := p2_OL) (X := X) (LX := LX) (E := [(139, [pl_s197, pl_s194])]) (mi := 152) (cuts := []) (f := 82) (S := pl_s253) (lx := none) (XF := []) ⟨pl_nmu, ck_E1 (ck_S1 pl_s197_s (ck_S1 pl_s194_s ck_S0)) ck_E0⟩ ck_X0 ck_l0 (by decide +kernel)
set_option maxRecDepth 100000 in
/-- GlacierMail.needUnlike -/
noncomputable def pl_s254 : ck_Sum := ((6, 1, 6), 249, [.inr (.inr (.inl 1)), .inl (0, 7, []), .inl (0, 7, [])], ([], [], []), ([], []), [(.inr none, 249, ([], [], [])), (.inl 0, 249, ([], [], []))])
set_option maxRecDepth 100000 in
theorem pl_s254_s {X : Int → Int} {LX : Nat} : ck_Ok p2_OL X LX 153 pl_s254 := ck_ok_s (O := p2_OL) (X := X) (LX := LX) (E := []) (mi := 153) (cuts := []) (f := 78) (S := pl_s254) (lx := none) (XF := []) ⟨pl_nmu, ck_E0⟩ ck_X0 ck_l0 (by decide +kernel)
set_option maxRecDepth 100000 in
/-- GlacierMail$Rows.isFull -/
noncomputable def pl_s255 : ck_Sum := ((0, 0, 0), 249, [.inr (.inr (.inl 10))], ([], [], []), ([], []), [(.inr (some (.inl (ck_one 0))), 249, ([], [], [(10, 3, 3, (0, 23, []))])), (.inr (some (.inl (ck_one 1))), 249, ([], [], [(10, 3, 3, ck_one 24)]))])
set_option maxRecDepth 100000 in
theorem pl_s255_s {X : Int → Int} {LX : Nat} : ck_Ok p2_OL X LX 108 pl_s255 := ck_ok_s (O := p2_OL) (X := X) (LX := LX) (E := []) (mi := 108) (cuts := []) (f := 86) (S := pl_s255) (lx := none) (XF := []) ⟨pl_nmu, ck_E0⟩ ck_X0 ck_l0 (by decide +kernel)
set_option maxRecDepth 100000 in
/-- GlacierMail$History.at -/
noncomputable def pl_s256 : ck_Sum := ((0, 0, 0), 249, [.inr (.inr (.inl 42)), .inl (0, 12, [])], ([], [], []), ([], []), [(.inr (some (.inr (.inr (.inl 0)))), 249, ([], [], [])), (.inr (some (.inr (.inr (.inl 44)))), 249, ([], [], [])), (.inr (some (.inr (.inr (.inl 187)))), 249, ([], [], [])), (.inr (some (.inr (.inr (.inl 174)))), 249, ([], [], [])), (.inr (some (.inr (.inr (.inl 161)))), 249, ([], [], [])), (.inr (some (.inr (.inr (.inl 148)))), 249, ([], [], [])), (.inr (some (.inr (.inr (.inl 135)))), 249, ([], [], [])), (.inr (some (.inr (.inr (.inl 122)))), 249, ([], [], [])), (.inr (some (.inr (.inr (.inl 109)))), 249, ([], [], [])), (.inr (some (.inr (.inr (.inl 96)))), 249, ([], [], [])), (.inr (some (.inr (.inr (.inl 83)))), 249, ([], [], [])), (.inr (some (.inr (.inr (.inl 70)))), 249, ([], [], [])), (.inr (some (.inr (.inr (.inl 57)))), 249, ([], [], []))])
set_option maxRecDepth 100000 in
theorem pl_s256_s {X : Int → Int} {LX : Nat} : ck_Ok p2_OL X LX 56 pl_s256 := ck_ok_s (O := p2_OL) (X := X) (LX := LX) (E := []) (mi := 56) (cuts := []) (f := 96) (S := pl_s256) (lx := none) (XF := []) ⟨pl_nmu, ck_E0⟩ ck_X0 ck_l0 (by decide +kernel)
set_option maxRecDepth 100000 in
/-- GlacierMail$Rows.copyFrom -/
noncomputable def pl_s257 : ck_Sum := ((1, 0, 0), 249, [.inr (.inr (.inl 58)), .inr (.inr (.inl 4))], ([], [], []), ([(58, 3, 3), (59, 0, 55)], []), [(.inr none, 249, ([], [], []))])
set_option maxRecDepth 100000 in
theorem pl_s257_s {X : Int → Int} {LX : Nat} : ck_Ok p2_OL X LX 58 pl_s257 := ck_ok_s (O := p2_OL) (X := X) (LX := LX) (E := []) (mi := 58) (cuts := []) (f := 114) (S := pl_s257) (lx := none) (XF := []) ⟨pl_nmu, ck_E0⟩ ck_X0 ck_l0 (by decide +kernel)
set_option maxRecDepth 100000 in
/-- GlacierMail$Rows.copyFrom -/
noncomputable def pl_s258 : ck_Sum := ((1, 0, 0), 249, [.inr (.inr (.inl 60)), .inr (.inr (.inl 6))], ([], [], []), ([(60, 3, 3), (61, 0, 23)], []), [(.inr none, 249, ([], [], []))])
set_option maxRecDepth 100000 in
theorem pl_s258_s {X : Int → Int} {LX : Nat} : ck_Ok p2_OL X LX 58 pl_s258 := ck_ok_s (O := p2_OL) (X := X) (LX := LX) (E := []) (mi := 58) (cuts := []) (f := 114) (S := pl_s258) (lx := none) (XF := []) ⟨pl_nmu, ck_E0⟩ ck_X0 ck_l0 (by decide +kernel)
set_option maxRecDepth 100000 in
/-- GlacierMail$Rows.copyFrom -/
noncomputable def pl_s259 : ck_Sum := ((1, 0, 0), 249, [.inr (.inr (.inl 62)), .inr (.inr (.inl 8))], ([], [], []), ([(62, 3, 3), (63, 0, 23)], []), [(.inr none, 249, ([], [], []))])
set_option maxRecDepth 100000 in
theorem pl_s259_s {X : Int → Int} {LX : Nat} : ck_Ok p2_OL X LX 58 pl_s259 := ck_ok_s (O := p2_OL) (X := X) (LX := LX) (E := []) (mi := 58) (cuts := []) (f := 114) (S := pl_s259) (lx := none) (XF := []) ⟨pl_nmu, ck_E0⟩ ck_X0 ck_l0 (by decide +kernel)
set_option maxRecDepth 100000 in
/-- GlacierMail$Rows.copyFrom -/
noncomputable def pl_s260 : ck_Sum := ((1, 0, 0), 249, [.inr (.inr (.inl 64)), .inr (.inr (.inl 10))], ([], [], []), ([(64, 3, 3), (65, 0, 167)], []), [(.inr none, 249, ([], [], []))])
set_option maxRecDepth 100000 in
theorem pl_s260_s {X : Int → Int} {LX : Nat} : ck_Ok p2_OL X LX 58 pl_s260 := ck_ok_s (O := p2_OL) (X := X) (LX := LX) (E := []) (mi := 58) (cuts := []) (f := 114) (S := pl_s260) (lx := none) (XF := []) ⟨pl_nmu, ck_E0⟩ ck_X0 ck_l0 (by decide +kernel)
set_option maxRecDepth 100000 in
/-- GlacierMail$Rows.copyFrom -/
noncomputable def pl_s261 : ck_Sum := ((1, 0, 0), 249, [.inr (.inr (.inl 66)), .inr (.inr (.inl 12))], ([], [], []), ([(66, 3, 3), (67, 0, 35)], []), [(.inr none, 249, ([], [], []))])
set_option maxRecDepth 100000 in
theorem pl_s261_s {X : Int → Int} {LX : Nat} : ck_Ok p2_OL X LX 58 pl_s261 := ck_ok_s (O := p2_OL) (X := X) (LX := LX) (E := []) (mi := 58) (cuts := []) (f := 114) (S := pl_s261) (lx := none) (XF := []) ⟨pl_nmu, ck_E0⟩ ck_X0 ck_l0 (by decide +kernel)
set_option maxRecDepth 100000 in
/-- GlacierMail$Rows.copyFrom -/
noncomputable def pl_s262 : ck_Sum := ((1, 0, 0), 249, [.inr (.inr (.inl 68)), .inr (.inr (.inl 14))], ([], [], []), ([(68, 3, 3), (69, 0, 71)], []), [(.inr none, 249, ([], [], []))])
set_option maxRecDepth 100000 in
theorem pl_s262_s {X : Int → Int} {LX : Nat} : ck_Ok p2_OL X LX 58 pl_s262 := ck_ok_s (O := p2_OL) (X := X) (LX := LX) (E := []) (mi := 58) (cuts := []) (f := 114) (S := pl_s262) (lx := none) (XF := []) ⟨pl_nmu, ck_E0⟩ ck_X0 ck_l0 (by decide +kernel)
set_option maxRecDepth 100000 in
/-- GlacierMail$State.copyFrom -/
noncomputable def pl_s263 : ck_Sum := ((2, 0, 0), 249, [.inr (.inr (.inl 57)), .inr (.inr (.inl 3))], ([], [(3, 8, 246), (57, 8, 100057)], [(3, 6, 6, (0, 299, [(10, 0)]))]), (zl90, [(57, 8)]), [(.inr none, 249, ([], [(57, 8, 246)], [(57, 6, 6, (0, 299, [(10, 0)]))]))])
set_option maxRecDepth 100000 in
theorem pl_s263_s {X : Int → Int} {LX : Nat} : ck_Ok p2_OL X LX 57 pl_s263 := ck_ok_s (O := p2_OL) (X := X) (LX := LX) (E := [(58, [pl_s257, pl_s258, pl_s259, pl_s260, pl_s261, pl_s262])]) (mi := 57) (cuts := []) (f := 204) (S := pl_s263) (lx := none) (XF := []) ⟨pl_nmu, ck_E1 (ck_S1 pl_s257_s (ck_S1 pl_s258_s (ck_S1 pl_s259_s (ck_S1 pl_s260_s (ck_S1 pl_s261_s (ck_S1 pl_s262_s ck_S0)))))) ck_E0⟩ ck_X0 ck_l0 (by decide +kernel)
set_option maxRecDepth 100000 in
/-- GlacierMail$Rows.copyFrom -/
noncomputable def pl_s264 : ck_Sum := ((1, 0, 0), 249, [.inr (.inr (.inl 71)), .inr (.inr (.inl 4))], ([], [], []), ([(71, 3, 3), (72, 0, 55)], []), [(.inr none, 249, ([], [], []))])
set_option maxRecDepth 100000 in
theorem pl_s264_s {X : Int → Int} {LX : Nat} : ck_Ok p2_OL X LX 58 pl_s264 := ck_ok_s (O := p2_OL) (X := X) (LX := LX) (E := []) (mi := 58) (cuts := []) (f := 114) (S := pl_s264) (lx := none) (XF := []) ⟨pl_nmu, ck_E0⟩ ck_X0 ck_l0 (by decide +kernel)
set_option maxRecDepth 100000 in
/-- GlacierMail$Rows.copyFrom -/
noncomputable def pl_s265 : ck_Sum := ((1, 0, 0), 249, [.inr (.inr (.inl 73)), .inr (.inr (.inl 6))], ([], [], []), ([(73, 3, 3), (74, 0, 23)], []), [(.inr none, 249, ([], [], []))])
set_option maxRecDepth 100000 in
theorem pl_s265_s {X : Int → Int} {LX : Nat} : ck_Ok p2_OL X LX 58 pl_s265 := ck_ok_s (O := p2_OL) (X := X) (LX := LX) (E := []) (mi := 58) (cuts := []) (f := 114) (S := pl_s265) (lx := none) (XF := []) ⟨pl_nmu, ck_E0⟩ ck_X0 ck_l0 (by decide +kernel)
set_option maxRecDepth 100000 in
/-- GlacierMail$Rows.copyFrom -/
noncomputable def pl_s266 : ck_Sum := ((1, 0, 0), 249, [.inr (.inr (.inl 75)), .inr (.inr (.inl 8))], ([], [], []), ([(75, 3, 3), (76, 0, 23)], []), [(.inr none, 249, ([], [], []))])
set_option maxRecDepth 100000 in
theorem pl_s266_s {X : Int → Int} {LX : Nat} : ck_Ok p2_OL X LX 58 pl_s266 := ck_ok_s (O := p2_OL) (X := X) (LX := LX) (E := []) (mi := 58) (cuts := []) (f := 114) (S := pl_s266) (lx := none) (XF := []) ⟨pl_nmu, ck_E0⟩ ck_X0 ck_l0 (by decide +kernel)
set_option maxRecDepth 100000 in
/-- GlacierMail$Rows.copyFrom -/
noncomputable def pl_s267 : ck_Sum := ((1, 0, 0), 249, [.inr (.inr (.inl 77)), .inr (.inr (.inl 10))], ([], [], []), ([(77, 3, 3), (78, 0, 167)], []), [(.inr none, 249, ([], [], []))])
set_option maxRecDepth 100000 in
theorem pl_s267_s {X : Int → Int} {LX : Nat} : ck_Ok p2_OL X LX 58 pl_s267 := ck_ok_s (O := p2_OL) (X := X) (LX := LX) (E := []) (mi := 58) (cuts := []) (f := 114) (S := pl_s267) (lx := none) (XF := []) ⟨pl_nmu, ck_E0⟩ ck_X0 ck_l0 (by decide +kernel)
set_option maxRecDepth 100000 in
/-- GlacierMail$Rows.copyFrom -/
noncomputable def pl_s268 : ck_Sum := ((1, 0, 0), 249, [.inr (.inr (.inl 79)), .inr (.inr (.inl 12))], ([], [], []), ([(79, 3, 3), (80, 0, 35)], []), [(.inr none, 249, ([], [], []))])
set_option maxRecDepth 100000 in
theorem pl_s268_s {X : Int → Int} {LX : Nat} : ck_Ok p2_OL X LX 58 pl_s268 := ck_ok_s (O := p2_OL) (X := X) (LX := LX) (E := []) (mi := 58) (cuts := []) (f := 114) (S := pl_s268) (lx := none) (XF := []) ⟨pl_nmu, ck_E0⟩ ck_X0 ck_l0 (by decide +kernel)
set_option maxRecDepth 100000 in
/-- GlacierMail$Rows.copyFrom -/
noncomputable def pl_s269 : ck_Sum := ((1, 0, 0), 249, [.inr (.inr (.inl 81)), .inr (.inr (.inl 14))], ([], [], []), ([(81, 3, 3), (82, 0, 71)], []), [(.inr none, 249, ([], [], []))])
set_option maxRecDepth 100000 in
theorem pl_s269_s {X : Int → Int} {LX : Nat} : ck_Ok p2_OL X LX 58 pl_s269 := ck_ok_s (O := p2_OL) (X := X) (LX := LX) (E := []) (mi := 58) (cuts := []) (f := 114) (S := pl_s269) (lx := none) (XF := []) ⟨pl_nmu, ck_E0⟩ ck_X0 ck_l0 (by decide +kernel)
set_option maxRecDepth 100000 in
/-- GlacierMail$State.copyFrom -/
noncomputable def pl_s270 : ck_Sum := ((2, 0, 0), 249, [.inr (.inr (.inl 70)), .inr (.inr (.inl 3))], ([], [(3, 8, 246), (70, 8, 100070)], [(3, 6, 6, (0, 299, [(10, 0)]))]), (zl91, [(70, 8)]), [(.inr none, 249, ([], [(70, 8, 246)], [(70, 6, 6, (0, 299, [(10, 0)]))]))])
set_option maxRecDepth 100000 in
theorem pl_s270_s {X : Int → Int} {LX : Nat} : ck_Ok p2_OL X LX 57 pl_s270 := ck_ok_s (O := p2_OL) (X := X) (LX := LX) (E := [(58, [pl_s264, pl_s265, pl_s266, pl_s267, pl_s268, pl_s269])]) (mi := 57) (cuts := []) (f := 204) (S := pl_s270) (lx := none) (XF := []) ⟨pl_nmu, ck_E1 (ck_S1 pl_s264_s (ck_S1 pl_s265_s (ck_S1 pl_s266_s (ck_S1 pl_s267_s (ck_S1 pl_s268_s (ck_S1 pl_s269_s ck_S0)))))) ck_E0⟩ ck_X0 ck_l0 (by decide +kernel)
end
/-! 78r86a03.sl -/
section
/-! EVERY CALL OF THE CLASS ENDS, under a law (laid by wip/am/p2l.py). -/
set_option maxRecDepth 100000 in
/-- GlacierMail$Rows.copyFrom -/
noncomputable def pl_s271 : ck_Sum := ((1, 0, 0), 249, [.inr (.inr (.inl 84)), .inr (.inr (.inl 4))], ([], [], []), ([(84, 3, 3), (85, 0, 55)], []), [(.inr none, 249, ([], [], []))])
set_option maxRecDepth 100000 in
theorem pl_s271_s {X : Int → Int} {LX : Nat} : ck_Ok p2_OL X LX 58 pl_s271 := ck_ok_s (O := p2_OL) (X := X) (LX := LX) (E := []) (mi := 58) (cuts := []) (f := 114) (S := pl_s271) (lx := none) (XF := []) ⟨pl_nmu, ck_E0⟩ ck_X0 ck_l0 (by decide +kernel)
set_option maxRecDepth 100000 in
/-- GlacierMail$Rows.copyFrom -/
noncomputable def pl_s272 : ck_Sum := ((1, 0, 0), 249, [.inr (.inr (.inl 86)), .inr (.inr (.inl 6))], ([], [], []), ([(86, 3, 3), (87, 0, 23)], []), [(.inr none, 249, ([], [], []))])
set_option maxRecDepth 100000 in
theorem pl_s272_s {X : Int → Int} {LX : Nat} : ck_Ok p2_OL X LX 58 pl_s272 := ck_ok_s (O := p2_OL) (X := X) (LX := LX) (E := []) (mi := 58) (cuts := []) (f := 114) (S := pl_s272) (lx := none) (XF := []) ⟨pl_nmu, ck_E0⟩ ck_X0 ck_l0 (by decide +kernel)
set_option maxRecDepth 100000 in
/-- GlacierMail$Rows.copyFrom -/
noncomputable def pl_s273 : ck_Sum := ((1, 0, 0), 249, [.inr (.inr (.inl 88)), .inr (.inr (.inl 8))], ([], [], []), ([(88, 3, 3), (89, 0, 23)], []), [(.inr none, 249, ([], [], []))])
set_option maxRecDepth 100000 in
theorem pl_s273_s {X : Int → Int} {LX : Nat} : ck_Ok p2_OL X LX 58 pl_s273 := ck_ok_s (O := p2_OL) (X := X) (LX := LX) (E := []) (mi := 58) (cuts := []) (f := 114) (S := pl_s273) (lx := none) (XF := []) ⟨pl_nmu, ck_E0⟩ ck_X0 ck_l0 (by decide +kernel)
set_option maxRecDepth 100000 in
/-- GlacierMail$Rows.copyFrom -/
noncomputable def pl_s274 : ck_Sum := ((1, 0, 0), 249, [.inr (.inr (.inl 90)), .inr (.inr (.inl 10))], ([], [], []), ([(90, 3, 3), (91, 0, 167)], []), [(.inr none, 249, ([], [], []))])
set_option maxRecDepth 100000 in
theorem pl_s274_s {X : Int → Int} {LX : Nat} : ck_Ok p2_OL X LX 58 pl_s274 := ck_ok_s (O := p2_OL) (X := X) (LX := LX) (E := []) (mi := 58) (cuts := []) (f := 114) (S := pl_s274) (lx := none) (XF := []) ⟨pl_nmu, ck_E0⟩ ck_X0 ck_l0 (by decide +kernel)
set_option maxRecDepth 100000 in
/-- GlacierMail$Rows.copyFrom -/
noncomputable def pl_s275 : ck_Sum := ((1, 0, 0), 249, [.inr (.inr (.inl 92)), .inr (.inr (.inl 12))], ([], [], []), ([(92, 3, 3), (93, 0, 35)], []), [(.inr none, 249, ([], [], []))])
set_option maxRecDepth 100000 in
theorem pl_s275_s {X : Int → Int} {LX : Nat} : ck_Ok p2_OL X LX 58 pl_s275 := ck_ok_s (O := p2_OL) (X := X) (LX := LX) (E := []) (mi := 58) (cuts := []) (f := 114) (S := pl_s275) (lx := none) (XF := []) ⟨pl_nmu, ck_E0⟩ ck_X0 ck_l0 (by decide +kernel)
set_option maxRecDepth 100000 in
/-- GlacierMail$Rows.copyFrom -/
noncomputable def pl_s276 : ck_Sum := ((1, 0, 0), 249, [.inr (.inr (.inl 94)), .inr (.inr (.inl 14))], ([], [], []), ([(94, 3, 3), (95, 0, 71)], []), [(.inr none, 249, ([], [], []))])
set_option maxRecDepth 100000 in
theorem pl_s276_s {X : Int → Int} {LX : Nat} : ck_Ok p2_OL X LX 58 pl_s276 := ck_ok_s (O := p2_OL) (X := X) (LX := LX) (E := []) (mi := 58) (cuts := []) (f := 114) (S := pl_s276) (lx := none) (XF := []) ⟨pl_nmu, ck_E0⟩ ck_X0 ck_l0 (by decide +kernel)
set_option maxRecDepth 100000 in
/-- GlacierMail$State.copyFrom -/
noncomputable def pl_s277 : ck_Sum := ((2, 0, 0), 249, [.inr (.inr (.inl 83)), .inr (.inr (.inl 3))], ([], [(3, 8, 246), (83, 8, 100083)], [(3, 6, 6, (0, 299, [(10, 0)]))]), (zl92, [(83, 8)]), [(.inr none, 249, ([], [(83, 8, 246)], [(83, 6, 6, (0, 299, [(10, 0)]))]))])
set_option maxRecDepth 100000 in
theorem pl_s277_s {X : Int → Int} {LX : Nat} : ck_Ok p2_OL X LX 57 pl_s277 := ck_ok_s (O := p2_OL) (X := X) (LX := LX) (E := [(58, [pl_s271, pl_s272, pl_s273, pl_s274, pl_s275, pl_s276])]) (mi := 57) (cuts := []) (f := 204) (S := pl_s277) (lx := none) (XF := []) ⟨pl_nmu, ck_E1 (ck_S1 pl_s271_s (ck_S1 pl_s272_s (ck_S1 pl_s273_s (ck_S1 pl_s274_s (ck_S1 pl_s275_s (ck_S1 pl_s276_s ck_S0)))))) ck_E0⟩ ck_X0 ck_l0 (by decide +kernel)
set_option maxRecDepth 100000 in
/-- GlacierMail$Rows.copyFrom -/
noncomputable def pl_s278 : ck_Sum := ((1, 0, 0), 249, [.inr (.inr (.inl 97)), .inr (.inr (.inl 4))], ([], [], []), ([(97, 3, 3), (98, 0, 55)], []), [(.inr none, 249, ([], [], []))])
set_option maxRecDepth 100000 in
theorem pl_s278_s {X : Int → Int} {LX : Nat} : ck_Ok p2_OL X LX 58 pl_s278 := ck_ok_s (O := p2_OL) (X := X) (LX := LX) (E := []) (mi := 58) (cuts := []) (f := 114) (S := pl_s278) (lx := none) (XF := []) ⟨pl_nmu, ck_E0⟩ ck_X0 ck_l0 (by decide +kernel)
set_option maxRecDepth 100000 in
/-- GlacierMail$Rows.copyFrom -/
noncomputable def pl_s279 : ck_Sum := ((1, 0, 0), 249, [.inr (.inr (.inl 99)), .inr (.inr (.inl 6))], ([], [], []), ([(99, 3, 3), (100, 0, 23)], []), [(.inr none, 249, ([], [], []))])
set_option maxRecDepth 100000 in
theorem pl_s279_s {X : Int → Int} {LX : Nat} : ck_Ok p2_OL X LX 58 pl_s279 := ck_ok_s (O := p2_OL) (X := X) (LX := LX) (E := []) (mi := 58) (cuts := []) (f := 114) (S := pl_s279) (lx := none) (XF := []) ⟨pl_nmu, ck_E0⟩ ck_X0 ck_l0 (by decide +kernel)
set_option maxRecDepth 100000 in
/-- GlacierMail$Rows.copyFrom -/
noncomputable def pl_s280 : ck_Sum := ((1, 0, 0), 249, [.inr (.inr (.inl 101)), .inr (.inr (.inl 8))], ([], [], []), ([(101, 3, 3), (102, 0, 23)], []), [(.inr none, 249, ([], [], []))])
set_option maxRecDepth 100000 in
theorem pl_s280_s {X : Int → Int} {LX : Nat} : ck_Ok p2_OL X LX 58 pl_s280 := ck_ok_s (O := p2_OL) (X := X) (LX := LX) (E := []) (mi := 58) (cuts := []) (f := 114) (S := pl_s280) (lx := none) (XF := []) ⟨pl_nmu, ck_E0⟩ ck_X0 ck_l0 (by decide +kernel)
set_option maxRecDepth 100000 in
/-- GlacierMail$Rows.copyFrom -/
noncomputable def pl_s281 : ck_Sum := ((1, 0, 0), 249, [.inr (.inr (.inl 103)), .inr (.inr (.inl 10))], ([], [], []), ([(103, 3, 3), (104, 0, 167)], []), [(.inr none, 249, ([], [], []))])
set_option maxRecDepth 100000 in
theorem pl_s281_s {X : Int → Int} {LX : Nat} : ck_Ok p2_OL X LX 58 pl_s281 := ck_ok_s (O := p2_OL) (X := X) (LX := LX) (E := []) (mi := 58) (cuts := []) (f := 114) (S := pl_s281) (lx := none) (XF := []) ⟨pl_nmu, ck_E0⟩ ck_X0 ck_l0 (by decide +kernel)
set_option maxRecDepth 100000 in
/-- GlacierMail$Rows.copyFrom -/
noncomputable def pl_s282 : ck_Sum := ((1, 0, 0), 249, [.inr (.inr (.inl 105)), .inr (.inr (.inl 12))], ([], [], []), ([(105, 3, 3), (106, 0, 35)], []), [(.inr none, 249, ([], [], []))])
set_option maxRecDepth 100000 in
theorem pl_s282_s {X : Int → Int} {LX : Nat} : ck_Ok p2_OL X LX 58 pl_s282 := ck_ok_s (O := p2_OL) (X := X) (LX := LX) (E := []) (mi := 58) (cuts := []) (f := 114) (S := pl_s282) (lx := none) (XF := []) ⟨pl_nmu, ck_E0⟩ ck_X0 ck_l0 (by decide +kernel)
set_option maxRecDepth 100000 in
/-- GlacierMail$Rows.copyFrom -/
noncomputable def pl_s283 : ck_Sum := ((1, 0, 0), 249, [.inr (.inr (.inl 107)), .inr (.inr (.inl 14))], ([], [], []), ([(107, 3, 3), (108, 0, 71)], []), [(.inr none, 249, ([], [], []))])
set_option maxRecDepth 100000 in
theorem pl_s283_s {X : Int → Int} {LX : Nat} : ck_Ok p2_OL X LX 58 pl_s283 := ck_ok_s (O := p2_OL) (X := X) (LX := LX) (E := []) (mi := 58) (cuts := []) (f := 114) (S := pl_s283) (lx := none) (XF := []) ⟨pl_nmu, ck_E0⟩ ck_X0 ck_l0 (by decide +kernel)
set_option maxRecDepth 100000 in
/-- GlacierMail$State.copyFrom -/
noncomputable def pl_s284 : ck_Sum := ((2, 0, 0), 249, [.inr (.inr (.inl 96)), .inr (.inr (.inl 3))], ([], [(3, 8, 246), (96, 8, 100096)], [(3, 6, 6, (0, 299, [(10, 0)]))]), (zl93, [(96, 8)]), [(.inr none, 249, ([], [(96, 8, 246)], [(96, 6, 6, (0, 299, [(10, 0)]))]))])
set_option maxRecDepth 100000 in
theorem pl_s284_s {X : Int → Int} {LX : Nat} : ck_Ok p2_OL X LX 57 pl_s284 := ck_ok_s (O := p2_OL) (X := X) (LX := LX) (E := [(58, [pl_s278, pl_s279, pl_s280, pl_s281, pl_s282, pl_s283])]) (mi := 57) (cuts := []) (f := 204) (S := pl_s284) (lx := none) (XF := []) ⟨pl_nmu, ck_E1 (ck_S1 pl_s278_s (ck_S1 pl_s279_s (ck_S1 pl_s280_s (ck_S1 pl_s281_s (ck_S1 pl_s282_s (ck_S1 pl_s283_s ck_S0)))))) ck_E0⟩ ck_X0 ck_l0 (by decide +kernel)
set_option maxRecDepth 100000 in
/-- GlacierMail$Rows.copyFrom -/
noncomputable def pl_s285 : ck_Sum := ((1, 0, 0), 249, [.inr (.inr (.inl 110)), .inr (.inr (.inl 4))], ([], [], []), ([(110, 3, 3), (111, 0, 55)], []), [(.inr none, 249, ([], [], []))])
set_option maxRecDepth 100000 in
theorem pl_s285_s {X : Int → Int} {LX : Nat} : ck_Ok p2_OL X LX 58 pl_s285 := ck_ok_s (O := p2_OL) (X := X) (LX := LX) (E := []) (mi := 58) (cuts := []) (f := 114) (S := pl_s285) (lx := none) (XF := []) ⟨pl_nmu, ck_E0⟩ ck_X0 ck_l0 (by decide +kernel)
set_option maxRecDepth 100000 in
/-- GlacierMail$Rows.copyFrom -/
noncomputable def pl_s286 : ck_Sum := ((1, 0, 0), 249, [.inr (.inr (.inl 112)), .inr (.inr (.inl 6))], ([], [], []), ([(112, 3, 3), (113, 0, 23)], []), [(.inr none, 249, ([], [], []))])
set_option maxRecDepth 100000 in
theorem pl_s286_s {X : Int → Int} {LX : Nat} : ck_Ok p2_OL X LX 58 pl_s286 := ck_ok_s (O := p2_OL) (X := X) (LX := LX) (E := []) (mi := 58) (cuts := []) (f := 114) (S := pl_s286) (lx := none) (XF := []) ⟨pl_nmu, ck_E0⟩ ck_X0 ck_l0 (by decide +kernel)
set_option maxRecDepth 100000 in
/-- GlacierMail$Rows.copyFrom -/
noncomputable def pl_s287 : ck_Sum := ((1, 0, 0), 249, [.inr (.inr (.inl 114)), .inr (.inr (.inl 8))], ([], [], []), ([(114, 3, 3), (115, 0, 23)], []), [(.inr none, 249, ([], [], []))])
set_option maxRecDepth 100000 in
theorem pl_s287_s {X : Int → Int} {LX : Nat} : ck_Ok p2_OL X LX 58 pl_s287 := ck_ok_s (O := p2_OL) (X := X) (LX := LX) (E := []) (mi := 58) (cuts := []) (f := 114) (S := pl_s287) (lx := none) (XF := []) ⟨pl_nmu, ck_E0⟩ ck_X0 ck_l0 (by decide +kernel)
set_option maxRecDepth 100000 in
/-- GlacierMail$Rows.copyFrom -/
noncomputable def pl_s288 : ck_Sum := ((1, 0, 0), 249, [.inr (.inr (.inl 116)), .inr (.inr (.inl 10))], ([], [], []), ([(116, 3, 3), (117, 0, 167)], []), [(.inr none, 249, ([], [], []))])
set_option maxRecDepth 100000 in
theorem pl_s288_s {X : Int → Int} {LX : Nat} : ck_Ok p2_OL X LX 58 pl_s288 := ck_ok_s (O := p2_OL) (X := X) (LX := LX) (E := []) (mi := 58) (cuts := []) (f := 114) (S := pl_s288) (lx := none) (XF := []) ⟨pl_nmu, ck_E0⟩ ck_X0 ck_l0 (by decide +kernel)
set_option maxRecDepth 100000 in
/-- GlacierMail$Rows.copyFrom -/
noncomputable def pl_s289 : ck_Sum := ((1, 0, 0), 249, [.inr (.inr (.inl 118)), .inr (.inr (.inl 12))], ([], [], []), ([(118, 3, 3), (119, 0, 35)], []), [(.inr none, 249, ([], [], []))])
set_option maxRecDepth 100000 in
theorem pl_s289_s {X : Int → Int} {LX : Nat} : ck_Ok p2_OL X LX 58 pl_s289 := ck_ok_s (O := p2_OL) (X := X) (LX := LX) (E := []) (mi := 58) (cuts := []) (f := 114) (S := pl_s289) (lx := none) (XF := []) ⟨pl_nmu, ck_E0⟩ ck_X0 ck_l0 (by decide +kernel)
set_option maxRecDepth 100000 in
/-- GlacierMail$Rows.copyFrom -/
noncomputable def pl_s290 : ck_Sum := ((1, 0, 0), 249, [.inr (.inr (.inl 120)), .inr (.inr (.inl 14))], ([], [], []), ([(120, 3, 3), (121, 0, 71)], []), [(.inr none, 249, ([], [], []))])
set_option maxRecDepth 100000 in
theorem pl_s290_s {X : Int → Int} {LX : Nat} : ck_Ok p2_OL X LX 58 pl_s290 := ck_ok_s (O := p2_OL) (X := X) (LX := LX) (E := []) (mi := 58) (cuts := []) (f := 114) (S := pl_s290) (lx := none) (XF := []) ⟨pl_nmu, ck_E0⟩ ck_X0 ck_l0 (by decide +kernel)
set_option maxRecDepth 100000 in
/-- GlacierMail$State.copyFrom -/
noncomputable def pl_s291 : ck_Sum := ((2, 0, 0), 249, [.inr (.inr (.inl 109)), .inr (.inr (.inl 3))], ([], [(3, 8, 246), (109, 8, 100109)], [(3, 6, 6, (0, 299, [(10, 0)]))]), (zl94, [(109, 8)]), [(.inr none, 249, ([], [(109, 8, 246)], [(109, 6, 6, (0, 299, [(10, 0)]))]))])
set_option maxRecDepth 100000 in
theorem pl_s291_s {X : Int → Int} {LX : Nat} : ck_Ok p2_OL X LX 57 pl_s291 := ck_ok_s (O := p2_OL) (X := X) (LX := LX) (E := [(58, [pl_s285, pl_s286, pl_s287, pl_s288, pl_s289, pl_s290])]) (mi := 57) (cuts := []) (f := 204) (S := pl_s291) (lx := none) (XF := []) ⟨pl_nmu, ck_E1 (ck_S1 pl_s285_s (ck_S1 pl_s286_s (ck_S1 pl_s287_s (ck_S1 pl_s288_s (ck_S1 pl_s289_s (ck_S1 pl_s290_s ck_S0)))))) ck_E0⟩ ck_X0 ck_l0 (by decide +kernel)
set_option maxRecDepth 100000 in
/-- GlacierMail$Rows.copyFrom -/
noncomputable def pl_s292 : ck_Sum := ((1, 0, 0), 249, [.inr (.inr (.inl 123)), .inr (.inr (.inl 4))], ([], [], []), ([(123, 3, 3), (124, 0, 55)], []), [(.inr none, 249, ([], [], []))])
set_option maxRecDepth 100000 in
theorem pl_s292_s {X : Int → Int} {LX : Nat} : ck_Ok p2_OL X LX 58 pl_s292 := ck_ok_s (O := p2_OL) (X := X) (LX := LX) (E := []) (mi := 58) (cuts := []) (f := 114) (S := pl_s292) (lx := none) (XF := []) ⟨pl_nmu, ck_E0⟩ ck_X0 ck_l0 (by decide +kernel)
set_option maxRecDepth 100000 in
/-- GlacierMail$Rows.copyFrom -/
noncomputable def pl_s293 : ck_Sum := ((1, 0, 0), 249, [.inr (.inr (.inl 125)), .inr (.inr (.inl 6))], ([], [], []), ([(125, 3, 3), (126, 0, 23)], []), [(.inr none, 249, ([], [], []))])
set_option maxRecDepth 100000 in
theorem pl_s293_s {X : Int → Int} {LX : Nat} : ck_Ok p2_OL X LX 58 pl_s293 := ck_ok_s (O := p2_OL) (X := X) (LX := LX) (E := []) (mi := 58) (cuts := []) (f := 114) (S := pl_s293) (lx := none) (XF := []) ⟨pl_nmu, ck_E0⟩ ck_X0 ck_l0 (by decide +kernel)
set_option maxRecDepth 100000 in
/-- GlacierMail$Rows.copyFrom -/
noncomputable def pl_s294 : ck_Sum := ((1, 0, 0), 249, [.inr (.inr (.inl 127)), .inr (.inr (.inl 8))], ([], [], []), ([(127, 3, 3), (128, 0, 23)], []), [(.inr none, 249, ([], [], []))])
set_option maxRecDepth 100000 in
theorem pl_s294_s {X : Int → Int} {LX : Nat} : ck_Ok p2_OL X LX 58 pl_s294 := ck_ok_s (O := p2_OL) (X := X) (LX := LX) (E := []) (mi := 58) (cuts := []) (f := 114) (S := pl_s294) (lx := none) (XF := []) ⟨pl_nmu, ck_E0⟩ ck_X0 ck_l0 (by decide +kernel)
set_option maxRecDepth 100000 in
/-- GlacierMail$Rows.copyFrom -/
noncomputable def pl_s295 : ck_Sum := ((1, 0, 0), 249, [.inr (.inr (.inl 129)), .inr (.inr (.inl 10))], ([], [], []), ([(129, 3, 3), (130, 0, 167)], []), [(.inr none, 249, ([], [], []))])
set_option maxRecDepth 100000 in
theorem pl_s295_s {X : Int → Int} {LX : Nat} : ck_Ok p2_OL X LX 58 pl_s295 := ck_ok_s (O := p2_OL) (X := X) (LX := LX) (E := []) (mi := 58) (cuts := []) (f := 114) (S := pl_s295) (lx := none) (XF := []) ⟨pl_nmu, ck_E0⟩ ck_X0 ck_l0 (by decide +kernel)
set_option maxRecDepth 100000 in
/-- GlacierMail$Rows.copyFrom -/
noncomputable def pl_s296 : ck_Sum := ((1, 0, 0), 249, [.inr (.inr (.inl 131)), .inr (.inr (.inl 12))], ([], [], []), ([(131, 3, 3), (132, 0, 35)], []), [(.inr none, 249, ([], [], []))])
set_option maxRecDepth 100000 in
theorem pl_s296_s {X : Int → Int} {LX : Nat} : ck_Ok p2_OL X LX 58 pl_s296 := ck_ok_s (O := p2_OL) (X := X) (LX := LX) (E := []) (mi := 58) (cuts := []) (f := 114) (S := pl_s296) (lx := none) (XF := []) ⟨pl_nmu, ck_E0⟩ ck_X0 ck_l0 (by decide +kernel)
set_option maxRecDepth 100000 in
/-- GlacierMail$Rows.copyFrom -/
noncomputable def pl_s297 : ck_Sum := ((1, 0, 0), 249, [.inr (.inr (.inl 133)), .inr (.inr (.inl 14))], ([], [], []), ([(133, 3, 3), (134, 0, 71)], []), [(.inr none, 249, ([], [], []))])
set_option maxRecDepth 100000 in
theorem pl_s297_s {X : Int → Int} {LX : Nat} : ck_Ok p2_OL X LX 58 pl_s297 := ck_ok_s (O := p2_OL) (X := X) (LX := LX) (E := []) (mi := 58) (cuts := []) (f := 114) (S := pl_s297) (lx := none) (XF := []) ⟨pl_nmu, ck_E0⟩ ck_X0 ck_l0 (by decide +kernel)
set_option maxRecDepth 100000 in
/-- GlacierMail$State.copyFrom -/
noncomputable def pl_s298 : ck_Sum := ((2, 0, 0), 249, [.inr (.inr (.inl 122)), .inr (.inr (.inl 3))], ([], [(3, 8, 246), (122, 8, 100122)], [(3, 6, 6, (0, 299, [(10, 0)]))]), (zl95, [(122, 8)]), [(.inr none, 249, ([], [(122, 8, 246)], [(122, 6, 6, (0, 299, [(10, 0)]))]))])
set_option maxRecDepth 100000 in
theorem pl_s298_s {X : Int → Int} {LX : Nat} : ck_Ok p2_OL X LX 57 pl_s298 := ck_ok_s (O := p2_OL) (X := X) (LX := LX) (E := [(58, [pl_s292, pl_s293, pl_s294, pl_s295, pl_s296, pl_s297])]) (mi := 57) (cuts := []) (f := 204) (S := pl_s298) (lx := none) (XF := []) ⟨pl_nmu, ck_E1 (ck_S1 pl_s292_s (ck_S1 pl_s293_s (ck_S1 pl_s294_s (ck_S1 pl_s295_s (ck_S1 pl_s296_s (ck_S1 pl_s297_s ck_S0)))))) ck_E0⟩ ck_X0 ck_l0 (by decide +kernel)
set_option maxRecDepth 100000 in
/-- GlacierMail$Rows.copyFrom -/
noncomputable def pl_s299 : ck_Sum := ((1, 0, 0), 249, [.inr (.inr (.inl 136)), .inr (.inr (.inl 4))], ([], [], []), ([(136, 3, 3), (137, 0, 55)], []), [(.inr none, 249, ([], [], []))])
set_option maxRecDepth 100000 in
theorem pl_s299_s {X : Int → Int} {LX : Nat} : ck_Ok p2_OL X LX 58 pl_s299 := ck_ok_s (O := p2_OL) (X := X) (LX := LX) (E := []) (mi := 58) (cuts := []) (f := 114) (S := pl_s299) (lx := none) (XF := []) ⟨pl_nmu, ck_E0⟩ ck_X0 ck_l0 (by decide +kernel)
set_option maxRecDepth 100000 in
/-- GlacierMail$Rows.copyFrom -/
noncomputable def pl_s300 : ck_Sum := ((1, 0, 0), 249, [.inr (.inr (.inl 138)), .inr (.inr (.inl 6))], ([], [], []), ([(138, 3, 3), (139, 0, 23)], []), [(.inr none, 249, ([], [], []))])
set_option maxRecDepth 100000 in
theorem pl_s300_s {X : Int → Int} {LX : Nat} : ck_Ok p2_OL X LX 58 pl_s300 := ck_ok_s (O := p2_OL) (X := X) (LX := LX) (E := []) (mi := 58) (cuts := []) (f := 114) (S := pl_s300) (lx := none) (XF := []) ⟨pl_nmu, ck_E0⟩ ck_X0 ck_l0 (by decide +kernel)
set_option maxRecDepth 100000 in
/-- GlacierMail$Rows.copyFrom -/
noncomputable def pl_s301 : ck_Sum := ((1, 0, 0), 249, [.inr (.inr (.inl 140)), .inr (.inr (.inl 8))], ([], [], []), ([(140, 3, 3), (141, 0, 23)], []), [(.inr none, 249, ([], [], []))])
set_option maxRecDepth 100000 in
theorem pl_s301_s {X : Int → Int} {LX : Nat} : ck_Ok p2_OL X LX 58 pl_s301 := ck_ok_s (O := p2_OL) (X := X) (LX := LX) (E := []) (mi := 58) (cuts := []) (f := 114) (S := pl_s301) (lx := none) (XF := []) ⟨pl_nmu, ck_E0⟩ ck_X0 ck_l0 (by decide +kernel)
set_option maxRecDepth 100000 in
/-- GlacierMail$Rows.copyFrom -/
noncomputable def pl_s302 : ck_Sum := ((1, 0, 0), 249, [.inr (.inr (.inl 142)), .inr (.inr (.inl 10))], ([], [], []), ([(142, 3, 3), (143, 0, 167)], []), [(.inr none, 249, ([], [], []))])
set_option maxRecDepth 100000 in
theorem pl_s302_s {X : Int → Int} {LX : Nat} : ck_Ok p2_OL X LX 58 pl_s302 := ck_ok_s (O := p2_OL) (X := X) (LX := LX) (E := []) (mi := 58) (cuts := []) (f := 114) (S := pl_s302) (lx := none) (XF := []) ⟨pl_nmu, ck_E0⟩ ck_X0 ck_l0 (by decide +kernel)
set_option maxRecDepth 100000 in
/-- GlacierMail$Rows.copyFrom -/
noncomputable def pl_s303 : ck_Sum := ((1, 0, 0), 249, [.inr (.inr (.inl 144)), .inr (.inr (.inl 12))], ([], [], []), ([(144, 3, 3), (145, 0, 35)], []), [(.inr none, 249, ([], [], []))])
set_option maxRecDepth 100000 in
theorem pl_s303_s {X : Int → Int} {LX : Nat} : ck_Ok p2_OL X LX 58 pl_s303 := ck_ok_s (O := p2_OL) (X := X) (LX := LX) (E := []) (mi := 58) (cuts := []) (f := 114) (S := pl_s303) (lx := none) (XF := []) ⟨pl_nmu, ck_E0⟩ ck_X0 ck_l0 (by decide +kernel)
set_option maxRecDepth 100000 in
/-- GlacierMail$Rows.copyFrom -/
noncomputable def pl_s304 : ck_Sum := ((1, 0, 0), 249, [.inr (.inr (.inl 146)), .inr (.inr (.inl 14))], ([], [], []), ([(146, 3, 3), (147, 0, 71)], []), [(.inr none, 249, ([], [], []))])
set_option maxRecDepth 100000 in
theorem pl_s304_s {X : Int → Int} {LX : Nat} : ck_Ok p2_OL X LX 58 pl_s304 := ck_ok_s (O := p2_OL) (X := X) (LX := LX) (E := []) (mi := 58) (cuts := []) (f := 114) (S := pl_s304) (lx := none) (XF := []) ⟨pl_nmu, ck_E0⟩ ck_X0 ck_l0 (by decide +kernel)
set_option maxRecDepth 100000 in
/-- GlacierMail$State.copyFrom -/
noncomputable def pl_s305 : ck_Sum := ((2, 0, 0), 249, [.inr (.inr (.inl 135)), .inr (.inr (.inl 3))], ([], [(3, 8, 246), (135, 8, 100135)], [(3, 6, 6, (0, 299, [(10, 0)]))]), (zl96, [(135, 8)]), [(.inr none, 249, ([], [(135, 8, 246)], [(135, 6, 6, (0, 299, [(10, 0)]))]))])
set_option maxRecDepth 100000 in
theorem pl_s305_s {X : Int → Int} {LX : Nat} : ck_Ok p2_OL X LX 57 pl_s305 := ck_ok_s (O := p2_OL) (X := X) (LX := LX) (E := [(58, [pl_s299, pl_s300, pl_s301, pl_s302, pl_s303, pl_s304])]) (mi := 57) (cuts := []) (f := 204) (S := pl_s305) (lx := none) (XF := []) ⟨pl_nmu, ck_E1 (ck_S1 pl_s299_s (ck_S1 pl_s300_s (ck_S1 pl_s301_s (ck_S1 pl_s302_s (ck_S1 pl_s303_s (ck_S1 pl_s304_s ck_S0)))))) ck_E0⟩ ck_X0 ck_l0 (by decide +kernel)
set_option maxRecDepth 100000 in
/-- GlacierMail$Rows.copyFrom -/
noncomputable def pl_s306 : ck_Sum := ((1, 0, 0), 249, [.inr (.inr (.inl 149)), .inr (.inr (.inl 4))], ([], [], []), ([(149, 3, 3), (150, 0, 55)], []), [(.inr none, 249, ([], [], []))])
set_option maxRecDepth 100000 in
theorem pl_s306_s {X : Int → Int} {LX : Nat} : ck_Ok p2_OL X LX 58 pl_s306 := ck_ok_s (O := p2_OL) (X := X) (LX := LX) (E := []) (mi := 58) (cuts := []) (f := 114) (S := pl_s306) (lx := none) (XF := []) ⟨pl_nmu, ck_E0⟩ ck_X0 ck_l0 (by decide +kernel)
set_option maxRecDepth 100000 in
/-- GlacierMail$Rows.copyFrom -/
noncomputable def pl_s307 : ck_Sum := ((1, 0, 0), 249, [.inr (.inr (.inl 151)), .inr (.inr (.inl 6))], ([], [], []), ([(151, 3, 3), (152, 0, 23)], []), [(.inr none, 249, ([], [], []))])
set_option maxRecDepth 100000 in
theorem pl_s307_s {X : Int → Int} {LX : Nat} : ck_Ok p2_OL X LX 58 pl_s307 := ck_ok_s (O := p2_OL) (X := X) (LX := LX) (E := []) (mi := 58) (cuts := []) (f := 114) (S := pl_s307) (lx := none) (XF := []) ⟨pl_nmu, ck_E0⟩ ck_X0 ck_l0 (by decide +kernel)
set_option maxRecDepth 100000 in
/-- GlacierMail$Rows.copyFrom -/
noncomputable def pl_s308 : ck_Sum := ((1, 0, 0), 249, [.inr (.inr (.inl 153)), .inr (.inr (.inl 8))], ([], [], []), ([(153, 3, 3), (154, 0, 23)], []), [(.inr none, 249, ([], [], []))])
set_option maxRecDepth 100000 in
theorem pl_s308_s {X : Int → Int} {LX : Nat} : ck_Ok p2_OL X LX 58 pl_s308 := ck_ok_s (O := p2_OL) (X := X) (LX := LX) (E := []) (mi := 58) (cuts := []) (f := 114) (S := pl_s308) (lx := none) (XF := []) ⟨pl_nmu, ck_E0⟩ ck_X0 ck_l0 (by decide +kernel)
set_option maxRecDepth 100000 in
/-- GlacierMail$Rows.copyFrom -/
noncomputable def pl_s309 : ck_Sum := ((1, 0, 0), 249, [.inr (.inr (.inl 155)), .inr (.inr (.inl 10))], ([], [], []), ([(155, 3, 3), (156, 0, 167)], []), [(.inr none, 249, ([], [], []))])
set_option maxRecDepth 100000 in
theorem pl_s309_s {X : Int → Int} {LX : Nat} : ck_Ok p2_OL X LX 58 pl_s309 := ck_ok_s (O := p2_OL) (X := X) (LX := LX) (E := []) (mi := 58) (cuts := []) (f := 114) (S := pl_s309) (lx := none) (XF := []) ⟨pl_nmu, ck_E0⟩ ck_X0 ck_l0 (by decide +kernel)
set_option maxRecDepth 100000 in
/-- GlacierMail$Rows.copyFrom -/
noncomputable def pl_s310 : ck_Sum := ((1, 0, 0), 249, [.inr (.inr (.inl 157)), .inr (.inr (.inl 12))], ([], [], []), ([(157, 3, 3), (158, 0, 35)], []), [(.inr none, 249, ([], [], []))])
set_option maxRecDepth 100000 in
theorem pl_s310_s {X : Int → Int} {LX : Nat} : ck_Ok p2_OL X LX 58 pl_s310 := ck_ok_s (O := p2_OL) (X := X) (LX := LX) (E := []) (mi := 58) (cuts := []) (f := 114) (S := pl_s310) (lx := none) (XF := []) ⟨pl_nmu, ck_E0⟩ ck_X0 ck_l0 (by decide +kernel)
set_option maxRecDepth 100000 in
/-- GlacierMail$Rows.copyFrom -/
noncomputable def pl_s311 : ck_Sum := ((1, 0, 0), 249, [.inr (.inr (.inl 159)), .inr (.inr (.inl 14))], ([], [], []), ([(159, 3, 3), (160, 0, 71)], []), [(.inr none, 249, ([], [], []))])
set_option maxRecDepth 100000 in
theorem pl_s311_s {X : Int → Int} {LX : Nat} : ck_Ok p2_OL X LX 58 pl_s311 := ck_ok_s (O := p2_OL) (X := X) (LX := LX) (E := []) (mi := 58) (cuts := []) (f := 114) (S := pl_s311) (lx := none) (XF := []) ⟨pl_nmu, ck_E0⟩ ck_X0 ck_l0 (by decide +kernel)
set_option maxRecDepth 100000 in
/-- GlacierMail$State.copyFrom -/
noncomputable def pl_s312 : ck_Sum := ((2, 0, 0), 249, [.inr (.inr (.inl 148)), .inr (.inr (.inl 3))], ([], [(3, 8, 246), (148, 8, 100148)], [(3, 6, 6, (0, 299, [(10, 0)]))]), (zl97, [(148, 8)]), [(.inr none, 249, ([], [(148, 8, 246)], [(148, 6, 6, (0, 299, [(10, 0)]))]))])
set_option maxRecDepth 100000 in
theorem pl_s312_s {X : Int → Int} {LX : Nat} : ck_Ok p2_OL X LX 57 pl_s312 := ck_ok_s (O := p2_OL) (X := X) (LX := LX) (E := [(58, [pl_s306, pl_s307, pl_s308, pl_s309, pl_s310, pl_s311])]) (mi := 57) (cuts := []) (f := 204) (S := pl_s312) (lx := none) (XF := []) ⟨pl_nmu, ck_E1 (ck_S1 pl_s306_s (ck_S1 pl_s307_s (ck_S1 pl_s308_s (ck_S1 pl_s309_s (ck_S1 pl_s310_s (ck_S1 pl_s311_s ck_S0)))))) ck_E0⟩ ck_X0 ck_l0 (by decide +kernel)
set_option maxRecDepth 100000 in
/-- GlacierMail$Rows.copyFrom -/
noncomputable def pl_s313 : ck_Sum := ((1, 0, 0), 249, [.inr (.inr (.inl 162)), .inr (.inr (.inl 4))], ([], [], []), ([(162, 3, 3), (163, 0, 55)], []), [(.inr none, 249, ([], [], []))])
set_option maxRecDepth 100000 in
theorem pl_s313_s {X : Int → Int} {LX : Nat} : ck_Ok p2_OL X LX 58 pl_s313 := ck_ok_s (O := p2_OL) (X := X) (LX := LX) (E := []) (mi := 58) (cuts := []) (f := 114) (S := pl_s313) (lx := none) (XF := []) ⟨pl_nmu, ck_E0⟩ ck_X0 ck_l0 (by decide +kernel)
set_option maxRecDepth 100000 in
/-- GlacierMail$Rows.copyFrom -/
noncomputable def pl_s314 : ck_Sum := ((1, 0, 0), 249, [.inr (.inr (.inl 164)), .inr (.inr (.inl 6))], ([], [], []), ([(164, 3, 3), (165, 0, 23)], []), [(.inr none, 249, ([], [], []))])
set_option maxRecDepth 100000 in
theorem pl_s314_s {X : Int → Int} {LX : Nat} : ck_Ok p2_OL X LX 58 pl_s314 := ck_ok_s (O := p2_OL) (X := X) (LX := LX) (E := []) (mi := 58) (cuts := []) (f := 114) (S := pl_s314) (lx := none) (XF := []) ⟨pl_nmu, ck_E0⟩ ck_X0 ck_l0 (by decide +kernel)
set_option maxRecDepth 100000 in
/-- GlacierMail$Rows.copyFrom -/
noncomputable def pl_s315 : ck_Sum := ((1, 0, 0), 249, [.inr (.inr (.inl 166)), .inr (.inr (.inl 8))], ([], [], []), ([(166, 3, 3), (167, 0, 23)], []), [(.inr none, 249, ([], [], []))])
set_option maxRecDepth 100000 in
theorem pl_s315_s {X : Int → Int} {LX : Nat} : ck_Ok p2_OL X LX 58 pl_s315 := ck_ok_s (O := p2_OL) (X := X) (LX := LX) (E := []) (mi := 58) (cuts := []) (f := 114) (S := pl_s315) (lx := none) (XF := []) ⟨pl_nmu, ck_E0⟩ ck_X0 ck_l0 (by decide +kernel)
set_option maxRecDepth 100000 in
/-- GlacierMail$Rows.copyFrom -/
noncomputable def pl_s316 : ck_Sum := ((1, 0, 0), 249, [.inr (.inr (.inl 168)), .inr (.inr (.inl 10))], ([], [], []), ([(168, 3, 3), (169, 0, 167)], []), [(.inr none, 249, ([], [], []))])
set_option maxRecDepth 100000 in
theorem pl_s316_s {X : Int → Int} {LX : Nat} : ck_Ok p2_OL X LX 58 pl_s316 := ck_ok_s (O := p2_OL) (X := X) (LX := LX) (E := []) (mi := 58) (cuts := []) (f := 114) (S := pl_s316) (lx := none) (XF := []) ⟨pl_nmu, ck_E0⟩ ck_X0 ck_l0 (by decide +kernel)
set_option maxRecDepth 100000 in
/-- GlacierMail$Rows.copyFrom -/
noncomputable def pl_s317 : ck_Sum := ((1, 0, 0), 249, [.inr (.inr (.inl 170)), .inr (.inr (.inl 12))], ([], [], []), ([(170, 3, 3), (171, 0, 35)], []), [(.inr none, 249, ([], [], []))])
set_option maxRecDepth 100000 in
theorem pl_s317_s {X : Int → Int} {LX : Nat} : ck_Ok p2_OL X LX 58 pl_s317 := ck_ok_s (O := p2_OL) (X := X) (LX := LX) (E := []) (mi := 58) (cuts := []) (f := 114) (S := pl_s317) (lx := none) (XF := []) ⟨pl_nmu, ck_E0⟩ ck_X0 ck_l0 (by decide +kernel)
set_option maxRecDepth 100000 in
/-- GlacierMail$Rows.copyFrom -/
noncomputable def pl_s318 : ck_Sum := ((1, 0, 0), 249, [.inr (.inr (.inl 172)), .inr (.inr (.inl 14))], ([], [], []), ([(172, 3, 3), (173, 0, 71)], []), [(.inr none, 249, ([], [], []))])
set_option maxRecDepth 100000 in
theorem pl_s318_s {X : Int → Int} {LX : Nat} : ck_Ok p2_OL X LX 58 pl_s318 := ck_ok_s (O := p2_OL) (X := X) (LX := LX) (E := []) (mi := 58) (cuts := []) (f := 114) (S := pl_s318) (lx := none) (XF := []) ⟨pl_nmu, ck_E0⟩ ck_X0 ck_l0 (by decide +kernel)
set_option maxRecDepth 100000 in
/-- GlacierMail$State.copyFrom -/
noncomputable def pl_s319 : ck_Sum := ((2, 0, 0), 249, [.inr (.inr (.inl 161)), .inr (.inr (.inl 3))], ([], [(3, 8, 246), (161, 8, 100161)], [(3, 6, 6, (0, 299, [(10, 0)]))]), (zl98, [(161, 8)]), [(.inr none, 249, ([], [(161, 8, 246)], [(161, 6, 6, (0, 299, [(10, 0)]))]))])
set_option maxRecDepth 100000 in
theorem pl_s319_s {X : Int → Int} {LX : Nat} : ck_Ok p2_OL X LX 57 pl_s319 := ck_ok_s (O := p2_OL) (X := X) (LX := LX) (E := [(58, [pl_s313, pl_s314, pl_s315, pl_s316, pl_s317, pl_s318])]) (mi := 57) (cuts := []) (f := 204) (S := pl_s319) (lx := none) (XF := []) ⟨pl_nmu, ck_E1 (ck_S1 pl_s313_s (ck_S1 pl_s314_s (ck_S1 pl_s315_s (ck_S1 pl_s316_s (ck_S1 pl_s317_s (ck_S1 pl_s318_s ck_S0)))))) ck_E0⟩ ck_X0 ck_l0 (by decide +kernel)
set_option maxRecDepth 100000 in
/-- GlacierMail$Rows.copyFrom -/
noncomputable def pl_s320 : ck_Sum := ((1, 0, 0), 249, [.inr (.inr (.inl 175)), .inr (.inr (.inl 4))], ([], [], []), ([(175, 3, 3), (176, 0, 55)], []), [(.inr none, 249, ([], [], []))])
set_option maxRecDepth 100000 in
theorem pl_s320_s {X : Int → Int} {LX : Nat} : ck_Ok p2_OL X LX 58 pl_s320 := ck_ok_s (O := p2_OL) (X := X) (LX := LX) (E := []) (mi := 58) (cuts := []) (f := 114) (S := pl_s320) (lx := none) (XF := []) ⟨pl_nmu, ck_E0⟩ ck_X0 ck_l0 (by decide +kernel)
set_option maxRecDepth 100000 in
/-- GlacierMail$Rows.copyFrom -/
noncomputable def pl_s321 : ck_Sum := ((1, 0, 0), 249, [.inr (.inr (.inl 177)), .inr (.inr (.inl 6))], ([], [], []), ([(177, 3, 3), (178, 0, 23)], []), [(.inr none, 249, ([], [], []))])
set_option maxRecDepth 100000 in
theorem pl_s321_s {X : Int → Int} {LX : Nat} : ck_Ok p2_OL X LX 58 pl_s321 := ck_ok_s (O := p2_OL) (X := X) (LX := LX) (E := []) (mi := 58) (cuts := []) (f := 114) (S := pl_s321) (lx := none) (XF := []) ⟨pl_nmu, ck_E0⟩ ck_X0 ck_l0 (by decide +kernel)
set_option maxRecDepth 100000 in
/-- GlacierMail$Rows.copyFrom -/
noncomputable def pl_s322 : ck_Sum := ((1, 0, 0), 249, [.inr (.inr (.inl 179)), .inr (.inr (.inl 8))], ([], [], []), ([(179, 3, 3), (180, 0, 23)], []), [(.inr none, 249, ([], [], []))])
set_option maxRecDepth 100000 in
theorem pl_s322_s {X : Int → Int} {LX : Nat} : ck_Ok p2_OL X LX 58 pl_s322 := ck_ok_s (O := p2_OL) (X := X) (LX := LX) (E := []) (mi := 58) (cuts := []) (f := 114) (S := pl_s322) (lx := none) (XF := []) ⟨pl_nmu, ck_E0⟩ ck_X0 ck_l0 (by decide +kernel)
set_option maxRecDepth 100000 in
/-- GlacierMail$Rows.copyFrom -/
noncomputable def pl_s323 : ck_Sum := ((1, 0, 0), 249, [.inr (.inr (.inl 181)), .inr (.inr (.inl 10))], ([], [], []), ([(181, 3, 3), (182, 0, 167)], []), [(.inr none, 249, ([], [], []))])
set_option maxRecDepth 100000 in
theorem pl_s323_s {X : Int → Int} {LX : Nat} : ck_Ok p2_OL X LX 58 pl_s323 := ck_ok_s (O := p2_OL) (X := X) (LX := LX) (E := []) (mi := 58) (cuts := []) (f := 114) (S := pl_s323) (lx := none) (XF := []) ⟨pl_nmu, ck_E0⟩ ck_X0 ck_l0 (by decide +kernel)
set_option maxRecDepth 100000 in
/-- GlacierMail$Rows.copyFrom -/
noncomputable def pl_s324 : ck_Sum := ((1, 0, 0), 249, [.inr (.inr (.inl 183)), .inr (.inr (.inl 12))], ([], [], []), ([(183, 3, 3), (184, 0, 35)], []), [(.inr none, 249, ([], [], []))])
set_option maxRecDepth 100000 in
theorem pl_s324_s {X : Int → Int} {LX : Nat} : ck_Ok p2_OL X LX 58 pl_s324 := ck_ok_s (O := p2_OL) (X := X) (LX := LX) (E := []) (mi := 58) (cuts := []) (f := 114) (S := pl_s324) (lx := none) (XF := []) ⟨pl_nmu, ck_E0⟩ ck_X0 ck_l0 (by decide +kernel)
set_option maxRecDepth 100000 in
/-- GlacierMail$Rows.copyFrom -/
noncomputable def pl_s325 : ck_Sum := ((1, 0, 0), 249, [.inr (.inr (.inl 185)), .inr (.inr (.inl 14))], ([], [], []), ([(185, 3, 3), (186, 0, 71)], []), [(.inr none, 249, ([], [], []))])
set_option maxRecDepth 100000 in
theorem pl_s325_s {X : Int → Int} {LX : Nat} : ck_Ok p2_OL X LX 58 pl_s325 := ck_ok_s (O := p2_OL) (X := X) (LX := LX) (E := []) (mi := 58) (cuts := []) (f := 114) (S := pl_s325) (lx := none) (XF := []) ⟨pl_nmu, ck_E0⟩ ck_X0 ck_l0 (by decide +kernel)
set_option maxRecDepth 100000 in
/-- GlacierMail$State.copyFrom -/
noncomputable def pl_s326 : ck_Sum := ((2, 0, 0), 249, [.inr (.inr (.inl 174)), .inr (.inr (.inl 3))], ([], [(3, 8, 246), (174, 8, 100174)], [(3, 6, 6, (0, 299, [(10, 0)]))]), (zl99, [(174, 8)]), [(.inr none, 249, ([], [(174, 8, 246)], [(174, 6, 6, (0, 299, [(10, 0)]))]))])
set_option maxRecDepth 100000 in
theorem pl_s326_s {X : Int → Int} {LX : Nat} : ck_Ok p2_OL X LX 57 pl_s326 := ck_ok_s (O := p2_OL) (X := X) (LX := LX) (E := [(58, [pl_s320, pl_s321, pl_s322, pl_s323, pl_s324, pl_s325])]) (mi := 57) (cuts := []) (f := 204) (S := pl_s326) (lx := none) (XF := []) ⟨pl_nmu, ck_E1 (ck_S1 pl_s320_s (ck_S1 pl_s321_s (ck_S1 pl_s322_s (ck_S1 pl_s323_s (ck_S1 pl_s324_s (ck_S1 pl_s325_s ck_S0)))))) ck_E0⟩ ck_X0 ck_l0 (by decide +kernel)
set_option maxRecDepth 100000 in
/-- GlacierMail$Rows.copyFrom -/
noncomputable def pl_s327 : ck_Sum := ((1, 0, 0), 249, [.inr (.inr (.inl 188)), .inr (.inr (.inl 4))], ([], [], []), ([(188, 3, 3), (189, 0, 55)], []), [(.inr none, 249, ([], [], []))])
set_option maxRecDepth 100000 in
theorem pl_s327_s {X : Int → Int} {LX : Nat} : ck_Ok p2_OL X LX 58 pl_s327 := ck_ok_s (O := p2_OL) (X := X) (LX := LX) (E := []) (mi := 58) (cuts := []) (f := 114) (S := pl_s327) (lx := none) (XF := []) ⟨pl_nmu, ck_E0⟩ ck_X0 ck_l0 (by decide +kernel)
set_option maxRecDepth 100000 in
/-- GlacierMail$Rows.copyFrom -/
noncomputable def pl_s328 : ck_Sum := ((1, 0, 0), 249, [.inr (.inr (.inl 190)), .inr (.inr (.inl 6))], ([], [], []), ([(190, 3, 3), (191, 0, 23)], []), [(.inr none, 249, ([], [], []))])
set_option maxRecDepth 100000 in
theorem pl_s328_s {X : Int → Int} {LX : Nat} : ck_Ok p2_OL X LX 58 pl_s328 := ck_ok_s (O := p2_OL) (X := X) (LX := LX) (E := []) (mi := 58) (cuts := []) (f := 114) (S := pl_s328) (lx := none) (XF := []) ⟨pl_nmu, ck_E0⟩ ck_X0 ck_l0 (by decide +kernel)
set_option maxRecDepth 100000 in
/-- GlacierMail$Rows.copyFrom -/
noncomputable def pl_s329 : ck_Sum := ((1, 0, 0), 249, [.inr (.inr (.inl 192)), .inr (.inr (.inl 8))], ([], [], []), ([(192, 3, 3), (193, 0, 23)], []), [(.inr none, 249, ([], [], []))])
set_option maxRecDepth 100000 in
theorem pl_s329_s {X : Int → Int} {LX : Nat} : ck_Ok p2_OL X LX 58 pl_s329 := ck_ok_s (O := p2_OL) (X := X) (LX := LX) (E := []) (mi := 58) (cuts := []) (f := 114) (S := pl_s329) (lx := none) (XF := []) ⟨pl_nmu, ck_E0⟩ ck_X0 ck_l0 (by decide +kernel)
set_option maxRecDepth 100000 in
/-- GlacierMail$Rows.copyFrom -/
noncomputable def pl_s330 : ck_Sum := ((1, 0, 0), 249, [.inr (.inr (.inl 194)), .inr (.inr (.inl 10))], ([], [], []), ([(194, 3, 3), (195, 0, 167)], []), [(.inr none, 249, ([], [], []))])
set_option maxRecDepth 100000 in
theorem pl_s330_s {X : Int → Int} {LX : Nat} : ck_Ok p2_OL X LX 58 pl_s330 := ck_ok_s (O := p2_OL) (X := X) (LX := LX) (E := []) (mi := 58) (cuts := []) (f := 114) (S := pl_s330) (lx := none) (XF := []) ⟨pl_nmu, ck_E0⟩ ck_X0 ck_l0 (by decide +kernel)
set_option maxRecDepth 100000 in
/-- GlacierMail$Rows.copyFrom -/
noncomputable def pl_s331 : ck_Sum := ((1, 0, 0), 249, [.inr (.inr (.inl 196)), .inr (.inr (.inl 12))], ([], [], []), ([(196, 3, 3), (197, 0, 35)], []), [(.inr none, 249, ([], [], []))])
set_option maxRecDepth 100000 in
theorem pl_s331_s {X : Int → Int} {LX : Nat} : ck_Ok p2_OL X LX 58 pl_s331 := ck_ok_s (O := p2_OL) (X := X) (LX := LX) (E := []) (mi := 58) (cuts := []) (f := 114) (S := pl_s331) (lx := none) (XF := []) ⟨pl_nmu, ck_E0⟩ ck_X0 ck_l0 (by decide +kernel)
set_option maxRecDepth 100000 in
/-- GlacierMail$Rows.copyFrom -/
noncomputable def pl_s332 : ck_Sum := ((1, 0, 0), 249, [.inr (.inr (.inl 198)), .inr (.inr (.inl 14))], ([], [], []), ([(198, 3, 3), (199, 0, 71)], []), [(.inr none, 249, ([], [], []))])
set_option maxRecDepth 100000 in
theorem pl_s332_s {X : Int → Int} {LX : Nat} : ck_Ok p2_OL X LX 58 pl_s332 := ck_ok_s (O := p2_OL) (X := X) (LX := LX) (E := []) (mi := 58) (cuts := []) (f := 114) (S := pl_s332) (lx := none) (XF := []) ⟨pl_nmu, ck_E0⟩ ck_X0 ck_l0 (by decide +kernel)
set_option maxRecDepth 100000 in
/-- GlacierMail$State.copyFrom -/
noncomputable def pl_s333 : ck_Sum := ((2, 0, 0), 249, [.inr (.inr (.inl 187)), .inr (.inr (.inl 3))], ([], [(3, 8, 246), (187, 8, 100187)], [(3, 6, 6, (0, 299, [(10, 0)]))]), (zl100, [(187, 8)]), [(.inr none, 249, ([], [(187, 8, 246)], [(187, 6, 6, (0, 299, [(10, 0)]))]))])
set_option maxRecDepth 100000 in
theorem pl_s333_s {X : Int → Int} {LX : Nat} : ck_Ok p2_OL X LX 57 pl_s333 := ck_ok_s (O := p2_OL) (X := X) (LX := LX) (E := [(58, [pl_s327, pl_s328, pl_s329, pl_s330, pl_s331, pl_s332])]) (mi := 57) (cuts := []) (f := 204) (S := pl_s333) (lx := none) (XF := []) ⟨pl_nmu, ck_E1 (ck_S1 pl_s327_s (ck_S1 pl_s328_s (ck_S1 pl_s329_s (ck_S1 pl_s330_s (ck_S1 pl_s331_s (ck_S1 pl_s332_s ck_S0)))))) ck_E0⟩ ck_X0 ck_l0 (by decide +kernel)
set_option maxRecDepth 100000 in
/-- GlacierMail$Rows.copyFrom -/
noncomputable def pl_s334 : ck_Sum := ((1, 0, 0), 249, [.inr (.inr (.inl 45)), .inr (.inr (.inl 4))], ([], [], []), ([(45, 3, 3), (46, 0, 55)], []), [(.inr none, 249, ([], [], []))])
set_option maxRecDepth 100000 in
theorem pl_s334_s {X : Int → Int} {LX : Nat} : ck_Ok p2_OL X LX 58 pl_s334 := ck_ok_s (O := p2_OL) (X := X) (LX := LX) (E := []) (mi := 58) (cuts := []) (f := 114) (S := pl_s334) (lx := none) (XF := []) ⟨pl_nmu, ck_E0⟩ ck_X0 ck_l0 (by decide +kernel)
set_option maxRecDepth 100000 in
/-- GlacierMail$Rows.copyFrom -/
noncomputable def pl_s335 : ck_Sum := ((1, 0, 0), 249, [.inr (.inr (.inl 47)), .inr (.inr (.inl 6))], ([], [], []), ([(47, 3, 3), (48, 0, 23)], []), [(.inr none, 249, ([], [], []))])
set_option maxRecDepth 100000 in
theorem pl_s335_s {X : Int → Int} {LX : Nat} : ck_Ok p2_OL X LX 58 pl_s335 := ck_ok_s (O := p2_OL) (X := X) (LX := LX) (E := []) (mi := 58) (cuts := []) (f := 114) (S := pl_s335) (lx := none) (XF := []) ⟨pl_nmu, ck_E0⟩ ck_X0 ck_l0 (by decide +kernel)
set_option maxRecDepth 100000 in
/-- GlacierMail$Rows.copyFrom -/
noncomputable def pl_s336 : ck_Sum := ((1, 0, 0), 249, [.inr (.inr (.inl 49)), .inr (.inr (.inl 8))], ([], [], []), ([(49, 3, 3), (50, 0, 23)], []), [(.inr none, 249, ([], [], []))])
set_option maxRecDepth 100000 in
theorem pl_s336_s {X : Int → Int} {LX : Nat} : ck_Ok p2_OL X LX 58 pl_s336 := ck_ok_s (O := p2_OL) (X := X) (LX := LX) (E := []) (mi := 58) (cuts := []) (f := 114) (S := pl_s336) (lx := none) (XF := []) ⟨pl_nmu, ck_E0⟩ ck_X0 ck_l0 (by decide +kernel)
set_option maxRecDepth 100000 in
/-- GlacierMail$Rows.copyFrom -/
noncomputable def pl_s337 : ck_Sum := ((1, 0, 0), 249, [.inr (.inr (.inl 51)), .inr (.inr (.inl 10))], ([], [], []), ([(51, 3, 3), (52, 0, 167)], []), [(.inr none, 249, ([], [], []))])
set_option maxRecDepth 100000 in
theorem pl_s337_s {X : Int → Int} {LX : Nat} : ck_Ok p2_OL X LX 58 pl_s337 := ck_ok_s (O := p2_OL) (X := X) (LX := LX) (E := []) (mi := 58) (cuts := []) (f := 114) (S := pl_s337) (lx := none) (XF := []) ⟨pl_nmu, ck_E0⟩ ck_X0 ck_l0 (by decide +kernel)
set_option maxRecDepth 100000 in
/-- GlacierMail$Rows.copyFrom -/
noncomputable def pl_s338 : ck_Sum := ((1, 0, 0), 249, [.inr (.inr (.inl 53)), .inr (.inr (.inl 12))], ([], [], []), ([(53, 3, 3), (54, 0, 35)], []), [(.inr none, 249, ([], [], []))])
set_option maxRecDepth 100000 in
theorem pl_s338_s {X : Int → Int} {LX : Nat} : ck_Ok p2_OL X LX 58 pl_s338 := ck_ok_s (O := p2_OL) (X := X) (LX := LX) (E := []) (mi := 58) (cuts := []) (f := 114) (S := pl_s338) (lx := none) (XF := []) ⟨pl_nmu, ck_E0⟩ ck_X0 ck_l0 (by decide +kernel)
set_option maxRecDepth 100000 in
/-- GlacierMail$Rows.copyFrom -/
noncomputable def pl_s339 : ck_Sum := ((1, 0, 0), 249, [.inr (.inr (.inl 55)), .inr (.inr (.inl 14))], ([], [], []), ([(55, 3, 3), (56, 0, 71)], []), [(.inr none, 249, ([], [], []))])
set_option maxRecDepth 100000 in
theorem pl_s339_s {X : Int → Int} {LX : Nat} : ck_Ok p2_OL X LX 58 pl_s339 := ck_ok_s (O := p2_OL) (X := X) (LX := LX) (E := []) (mi := 58) (cuts := []) (f := 114) (S := pl_s339) (lx := none) (XF := []) ⟨pl_nmu, ck_E0⟩ ck_X0 ck_l0 (by decide +kernel)
set_option maxRecDepth 100000 in
/-- GlacierMail$State.copyFrom -/
noncomputable def pl_s340 : ck_Sum := ((2, 0, 0), 249, [.inr (.inr (.inl 44)), .inr (.inr (.inl 3))], ([], [(3, 8, 246), (44, 8, 100044)], [(3, 6, 6, (0, 299, [(10, 0)]))]), (zl101, [(44, 8)]), [(.inr none, 249, ([], [(44, 8, 246)], [(44, 6, 6, (0, 299, [(10, 0)]))]))])
set_option maxRecDepth 100000 in
theorem pl_s340_s {X : Int → Int} {LX : Nat} : ck_Ok p2_OL X LX 57 pl_s340 := ck_ok_s (O := p2_OL) (X := X) (LX := LX) (E := [(58, [pl_s334, pl_s335, pl_s336, pl_s337, pl_s338, pl_s339])]) (mi := 57) (cuts := []) (f := 204) (S := pl_s340) (lx := none) (XF := []) ⟨pl_nmu, ck_E1 (ck_S1 pl_s334_s (ck_S1 pl_s335_s (ck_S1 pl_s336_s (ck_S1 pl_s337_s (ck_S1 pl_s338_s (ck_S1 pl_s339_s ck_S0)))))) ck_E0⟩ ck_X0 ck_l0 (by decide +kernel)
set_option maxRecDepth 100000 in
/-- GlacierMail$History.remember -/
noncomputable def pl_s341 : ck_Sum := ((3, 0, 0), 249, [.inr (.inr (.inl 42)), .inr (.inr (.inl 3))], ([], zl230, [(3, 6, 6, (0, 299, [(10, 0)]))]), (zl103, zl104), [(.inr none, 249, ([], zl105, zl106)), (.inr none, 249, ([], zl231, zl108)), (.inr none, 249, ([], zl232, zl110)), (.inr none, 249, ([], zl233, zl112)), (.inr none, 249, ([], zl234, zl114)), (.inr none, 249, ([], zl235, zl116)), (.inr none, 249, ([], zl236, zl118)), (.inr none, 249, ([], zl237, zl120)), (.inr none, 249, ([], zl238, zl122)), (.inr none, 249, ([], zl239, zl124)), (.inr none, 249, ([], zl240, zl126)), (.inr none, 249, ([], zl241, zl128)), (.inr none, 249, ([], zl242, zl130))])
set_option maxRecDepth 100000 in
theorem pl_s341_s {X : Int → Int} {LX : Nat} : ck_Ok p2_OL X LX 154 pl_s341 := ck_ok_s (O := p2_OL) (X := X) (LX := LX) (E := [(56, [pl_s256]), (57, [pl_s263, pl_s270, pl_s277, pl_s284, pl_s291, pl_s298, pl_s305, pl_s312, pl_s319, pl_s326, pl_s333, pl_s340])]) (mi := 154) (cuts := []) (f := 124) (S := pl_s341) (lx := none) (XF := []) ⟨pl_nmu, ck_E1 (ck_S1 pl_s256_s ck_S0) (ck_E1 (ck_S1 pl_s263_s (ck_S1 pl_s270_s (ck_S1 pl_s277_s (ck_S1 pl_s284_s (ck_S1 pl_s291_s (ck_S1 pl_s298_s (ck_S1 pl_s305_s (ck_S1 pl_s312_s (ck_S1 pl_s319_s (ck_S1 pl_s326_s (ck_S1 pl_s333_s (ck_S1 pl_s340_s ck_S0)))))))))))) ck_E0)⟩ ck_X0 ck_l0 (by decide +kernel)
set_option maxRecDepth 100000 in
/-- GlacierMail$Rows.add -/
noncomputable def pl_s342 : ck_Sum := ((0, 0, 0), 249, [.inr (.inr (.inl 10))], ([], [], []), ([(10, 3, 3)], []), zl243)
set_option maxRecDepth 100000 in
theorem pl_s342_s {X : Int → Int} {LX : Nat} : ck_Ok p2_OL X LX 102 pl_s342 := ck_ok_s (O := p2_OL) (X := X) (LX := LX) (E := []) (mi := 102) (cuts := []) (f := 102) (S := pl_s342) (lx := none) (XF := []) ⟨pl_nmu, ck_E0⟩ ck_X0 ck_l0 (by decide +kernel)
set_option maxRecDepth 100000 in
/-- GlacierMail$Rows.put -/
noncomputable def pl_s343 : ck_Sum := ((0, 0, 0), 249, [.inr (.inr (.inl 10)), .inl (0, 23, []), .inl (ck_one 0), .inl (0, 7, [])], ([], [], []), (zl132, []), [(.inr none, 249, ([], [], []))])
set_option maxRecDepth 100000 in
theorem pl_s343_s {X : Int → Int} {LX : Nat} : ck_Ok p2_OL X LX 45 pl_s343 := ck_ok_s (O := p2_OL) (X := X) (LX := LX) (E := []) (mi := 45) (cuts := []) (f := 116) (S := pl_s343) (lx := none) (XF := []) ⟨pl_nmu, ck_E0⟩ ck_X0 ck_l0 (by decide +kernel)
set_option maxRecDepth 100000 in
/-- GlacierMail$Rows.put -/
noncomputable def pl_s344 : ck_Sum := ((0, 0, 0), 249, [.inr (.inr (.inl 10)), .inl (0, 23, []), .inl (ck_one 1), .inl (0, 7, [])], ([], [], []), (zl133, []), [(.inr none, 249, ([], [], []))])
set_option maxRecDepth 100000 in
theorem pl_s344_s {X : Int → Int} {LX : Nat} : ck_Ok p2_OL X LX 45 pl_s344 := ck_ok_s (O := p2_OL) (X := X) (LX := LX) (E := []) (mi := 45) (cuts := []) (f := 116) (S := pl_s344) (lx := none) (XF := []) ⟨pl_nmu, ck_E0⟩ ck_X0 ck_l0 (by decide +kernel)
set_option maxRecDepth 100000 in
/-- GlacierMail$Rows.put -/
noncomputable def pl_s345 : ck_Sum := ((0, 0, 0), 249, [.inr (.inr (.inl 10)), .inl (0, 23, []), .inl (ck_one 2), .inl ((-1), 98, [])], ([], [], []), (zl134, []), [(.inr none, 249, ([], [], []))])
set_option maxRecDepth 100000 in
theorem pl_s345_s {X : Int → Int} {LX : Nat} : ck_Ok p2_OL X LX 45 pl_s345 := ck_ok_s (O := p2_OL) (X := X) (LX := LX) (E := []) (mi := 45) (cuts := []) (f := 116) (S := pl_s345) (lx := none) (XF := []) ⟨pl_nmu, ck_E0⟩ ck_X0 ck_l0 (by decide +kernel)
set_option maxRecDepth 100000 in
/-- GlacierMail$Rows.put -/
noncomputable def pl_s346 : ck_Sum := ((0, 0, 0), 249, [.inr (.inr (.inl 10)), .inl (0, 23, []), .inl (ck_one 3), .inl (0, 299, [])], ([], [], []), (zl135, []), [(.inr none, 249, ([], [], []))])
set_option maxRecDepth 100000 in
theorem pl_s346_s {X : Int → Int} {LX : Nat} : ck_Ok p2_OL X LX 45 pl_s346 := ck_ok_s (O := p2_OL) (X := X) (LX := LX) (E := []) (mi := 45) (cuts := []) (f := 116) (S := pl_s346) (lx := none) (XF := []) ⟨pl_nmu, ck_E0⟩ ck_X0 ck_l0 (by decide +kernel)
set_option maxRecDepth 100000 in
/-- GlacierMail$Rows.put -/
noncomputable def pl_s347 : ck_Sum := ((0, 0, 0), 249, [.inr (.inr (.inl 10)), .inl (0, 23, []), .inl (ck_one 4), .inl ((-1), 98, [])], ([], [], []), (zl136, []), [(.inr none, 249, ([], [], []))])
set_option maxRecDepth 100000 in
theorem pl_s347_s {X : Int → Int} {LX : Nat} : ck_Ok p2_OL X LX 45 pl_s347 := ck_ok_s (O := p2_OL) (X := X) (LX := LX) (E := []) (mi := 45) (cuts := []) (f := 116) (S := pl_s347) (lx := none) (XF := []) ⟨pl_nmu, ck_E0⟩ ck_X0 ck_l0 (by decide +kernel)
set_option maxRecDepth 100000 in
/-- GlacierMail$Rows.put -/
noncomputable def pl_s348 : ck_Sum := ((0, 0, 0), 249, [.inr (.inr (.inl 10)), .inl (0, 23, []), .inl (ck_one 5), .inl (ck_one (-1))], ([], [], []), (zl137, []), [(.inr none, 249, ([], [], []))])
set_option maxRecDepth 100000 in
theorem pl_s348_s {X : Int → Int} {LX : Nat} : ck_Ok p2_OL X LX 45 pl_s348 := ck_ok_s (O := p2_OL) (X := X) (LX := LX) (E := []) (mi := 45) (cuts := []) (f := 116) (S := pl_s348) (lx := none) (XF := []) ⟨pl_nmu, ck_E0⟩ ck_X0 ck_l0 (by decide +kernel)
set_option maxRecDepth 100000 in
/-- GlacierMail$Rows.put -/
noncomputable def pl_s349 : ck_Sum := ((0, 0, 0), 249, [.inr (.inr (.inl 10)), .inl (0, 23, []), .inl (ck_one 6), .inl (ck_one (-1))], ([], [], []), (zl138, []), [(.inr none, 249, ([], [], []))])
set_option maxRecDepth 100000 in
theorem pl_s349_s {X : Int → Int} {LX : Nat} : ck_Ok p2_OL X LX 45 pl_s349 := ck_ok_s (O := p2_OL) (X := X) (LX := LX) (E := []) (mi := 45) (cuts := []) (f := 116) (S := pl_s349) (lx := none) (XF := []) ⟨pl_nmu, ck_E0⟩ ck_X0 ck_l0 (by decide +kernel)
set_option maxRecDepth 100000 in
/-- GlacierMail$Rows.put -/
noncomputable def pl_s350 : ck_Sum := ((0, 0, 0), 249, [.inr (.inr (.inl 10)), .inl (ck_one (-1)), .inl (ck_one 0), .inl (0, 7, [])], ([], [], []), ([], []), [(.inr none, 249, ([], [], []))])
set_option maxRecDepth 100000 in
theorem pl_s350_s {X : Int → Int} {LX : Nat} : ck_Ok p2_OL X LX 45 pl_s350 := ck_ok_s (O := p2_OL) (X := X) (LX := LX) (E := []) (mi := 45) (cuts := []) (f := 76) (S := pl_s350) (lx := none) (XF := []) ⟨pl_nmu, ck_E0⟩ ck_X0 ck_l0 (by decide +kernel)
set_option maxRecDepth 100000 in
/-- GlacierMail$Rows.put -/
noncomputable def pl_s351 : ck_Sum := ((0, 0, 0), 249, [.inr (.inr (.inl 10)), .inl (ck_one (-1)), .inl (ck_one 1), .inl (0, 7, [])], ([], [], []), ([], []), [(.inr none, 249, ([], [], []))])
set_option maxRecDepth 100000 in
theorem pl_s351_s {X : Int → Int} {LX : Nat} : ck_Ok p2_OL X LX 45 pl_s351 := ck_ok_s (O := p2_OL) (X := X) (LX := LX) (E := []) (mi := 45) (cuts := []) (f := 76) (S := pl_s351) (lx := none) (XF := []) ⟨pl_nmu, ck_E0⟩ ck_X0 ck_l0 (by decide +kernel)
set_option maxRecDepth 100000 in
/-- GlacierMail$Rows.put -/
noncomputable def pl_s352 : ck_Sum := ((0, 0, 0), 249, [.inr (.inr (.inl 10)), .inl (ck_one (-1)), .inl (ck_one 2), .inl ((-1), 98, [])], ([], [], []), ([], []), [(.inr none, 249, ([], [], []))])
set_option maxRecDepth 100000 in
theorem pl_s352_s {X : Int → Int} {LX : Nat} : ck_Ok p2_OL X LX 45 pl_s352 := ck_ok_s (O := p2_OL) (X := X) (LX := LX) (E := []) (mi := 45) (cuts := []) (f := 76) (S := pl_s352) (lx := none) (XF := []) ⟨pl_nmu, ck_E0⟩ ck_X0 ck_l0 (by decide +kernel)
set_option maxRecDepth 100000 in
/-- GlacierMail$Rows.put -/
noncomputable def pl_s353 : ck_Sum := ((0, 0, 0), 249, [.inr (.inr (.inl 10)), .inl (ck_one (-1)), .inl (ck_one 3), .inl (0, 299, [])], ([], [], []), ([], []), [(.inr none, 249, ([], [], []))])
set_option maxRecDepth 100000 in
theorem pl_s353_s {X : Int → Int} {LX : Nat} : ck_Ok p2_OL X LX 45 pl_s353 := ck_ok_s (O := p2_OL) (X := X) (LX := LX) (E := []) (mi := 45) (cuts := []) (f := 76) (S := pl_s353) (lx := none) (XF := []) ⟨pl_nmu, ck_E0⟩ ck_X0 ck_l0 (by decide +kernel)
set_option maxRecDepth 100000 in
/-- GlacierMail$Rows.put -/
noncomputable def pl_s354 : ck_Sum := ((0, 0, 0), 249, [.inr (.inr (.inl 10)), .inl (ck_one (-1)), .inl (ck_one 4), .inl ((-1), 98, [])], ([], [], []), ([], []), [(.inr none, 249, ([], [], []))])
set_option maxRecDepth 100000 in
theorem pl_s354_s {X : Int → Int} {LX : Nat} : ck_Ok p2_OL X LX 45 pl_s354 := ck_ok_s (O := p2_OL) (X := X) (LX := LX) (E := []) (mi := 45) (cuts := []) (f := 76) (S := pl_s354) (lx := none) (XF := []) ⟨pl_nmu, ck_E0⟩ ck_X0 ck_l0 (by decide +kernel)
set_option maxRecDepth 100000 in
/-- GlacierMail$Rows.put -/
noncomputable def pl_s355 : ck_Sum := ((0, 0, 0), 249, [.inr (.inr (.inl 10)), .inl (ck_one (-1)), .inl (ck_one 5), .inl (ck_one (-1))], ([], [], []), ([], []), [(.inr none, 249, ([], [], []))])
set_option maxRecDepth 100000 in
theorem pl_s355_s {X : Int → Int} {LX : Nat} : ck_Ok p2_OL X LX 45 pl_s355 := ck_ok_s (O := p2_OL) (X := X) (LX := LX) (E := []) (mi := 45) (cuts := []) (f := 76) (S := pl_s355) (lx := none) (XF := []) ⟨pl_nmu, ck_E0⟩ ck_X0 ck_l0 (by decide +kernel)
set_option maxRecDepth 100000 in
/-- GlacierMail$Rows.put -/
noncomputable def pl_s356 : ck_Sum := ((0, 0, 0), 249, [.inr (.inr (.inl 10)), .inl (ck_one (-1)), .inl (ck_one 6), .inl (ck_one (-1))], ([], [], []), ([], []), [(.inr none, 249, ([], [], []))])
set_option maxRecDepth 100000 in
theorem pl_s356_s {X : Int → Int} {LX : Nat} : ck_Ok p2_OL X LX 45 pl_s356 := ck_ok_s (O := p2_OL) (X := X) (LX := LX) (E := []) (mi := 45) (cuts := []) (f := 76) (S := pl_s356) (lx := none) (XF := []) ⟨pl_nmu, ck_E0⟩ ck_X0 ck_l0 (by decide +kernel)
set_option maxRecDepth 100000 in
/-- GlacierMail$State.throwIn -/
noncomputable def pl_s357 : ck_Sum := ((1, 0, 0), 249, [.inr (.inr (.inl 3)), .inl (0, 7, []), .inl (0, 7, []), .inl ((-1), 98, []), .inl ((-1), 98, [])], ([], [], [(3, 6, 6, (0, 299, [(10, 0)]))]), ([(10, 3, 3), (11, 0, 167)], []), zl243)
set_option maxRecDepth 100000 in
theorem pl_s357_s {X : Int → Int} {LX : Nat} : ck_Ok p2_OL X LX 119 pl_s357 := ck_ok_s (O := p2_OL) (X := X) (LX := LX) (E := [(102, [pl_s342]), (45, [pl_s343, pl_s344, pl_s345, pl_s346, pl_s347, pl_s348, pl_s349, pl_s350, pl_s351, pl_s352, pl_s353, pl_s354, pl_s355, pl_s356])]) (mi := 119) (cuts := []) (f := 168) (S := pl_s357) (lx := none) (XF := []) ⟨pl_nmu, ck_E1 (ck_S1 pl_s342_s ck_S0) (ck_E1 (ck_S1 pl_s343_s (ck_S1 pl_s344_s (ck_S1 pl_s345_s (ck_S1 pl_s346_s (ck_S1 pl_s347_s (ck_S1 pl_s348_s (ck_S1 pl_s349_s (ck_S1 pl_s350_s (ck_S1 pl_s351_s (ck_S1 pl_s352_s (ck_S1 pl_s353_s (ck_S1 pl_s354_s (ck_S1 pl_s355_s (ck_S1 pl_s356_s ck_S0)))))))))))))) ck_E0)⟩ ck_X0 ck_l0 (by decide +kernel)
set_option maxRecDepth 100000 in
/-- GlacierMail.post -/
noncomputable def pl_s358 : ck_Sum := ((8, 4, 24), 249, [.inr (.inr (.inl 1)), .inl (0, 7, []), .inl (0, 7, [])], ([], zl230, [(3, 6, 6, (0, 299, [(10, 0)]))]), (zl139, zl104), [(.inl 3, 249, ([], zl105, [])), (.inl 0, 249, ([], zl105, [])), (.inr (some (.inl (0, 23, []))), 249, ([], zl105, zl140)), (.inr (some (.inl (ck_one (-1)))), 249, ([], zl105, zl141)), (.inr (some (.inl (0, 23, []))), 249, ([], zl242, zl142)), (.inr (some (.inl (ck_one (-1)))), 249, ([], zl242, zl143)), (.inr (some (.inl (0, 23, []))), 249, ([], zl241, zl144)), (.inr (some (.inl (ck_one (-1)))), 249, ([], zl241, zl145)), (.inr (some (.inl (0, 23, []))), 249, ([], zl240, zl146)), (.inr (some (.inl (ck_one (-1)))), 249, ([], zl240, zl147)), (.inr (some (.inl (0, 23, []))), 249, ([], zl239, zl148)), (.inr (some (.inl (ck_one (-1)))), 249, ([], zl239, zl149)), (.inr (some (.inl (0, 23, []))), 249, ([], zl238, zl150)), (.inr (some (.inl (ck_one (-1)))), 249, ([], zl238, zl151)), (.inr (some (.inl (0, 23, []))), 249, ([], zl237, zl152)), (.inr (some (.inl (ck_one (-1)))), 249, ([], zl237, zl153)), (.inr (some (.inl (0, 23, []))), 249, ([], zl236, zl154)), (.inr (some (.inl (ck_one (-1)))), 249, ([], zl236, zl155)), (.inr (some (.inl (0, 23, []))), 249, ([], zl235, zl156)), (.inr (some (.inl (ck_one (-1)))), 249, ([], zl235, zl157)), (.inr (some (.inl (0, 23, []))), 249, ([], zl234, zl158)), (.inr (some (.inl (ck_one (-1)))), 249, ([], zl234, zl159)), (.inr (some (.inl (0, 23, []))), 249, ([], zl233, zl160)), (.inr (some (.inl (ck_one (-1)))), 249, ([], zl233, zl161)), (.inr (some (.inl (0, 23, []))), 249, ([], zl232, zl162)), (.inr (some (.inl (ck_one (-1)))), 249, ([], zl232, zl163)), (.inr (some (.inl (0, 23, []))), 249, ([], zl231, zl164)), (.inr (some (.inl (ck_one (-1)))), 249, ([], zl231, zl165)), (.inl 1, 249, ([], zl105, [(10, 3, 3, ck_one 24)]))])
set_option maxRecDepth 100000 in
theorem pl_s358_s {X : Int → Int} {LX : Nat} : ck_Ok p2_OL X LX 152 pl_s358 := ck_ok_s (O := p2_OL) (X := X) (LX := LX) (E := [(139, [pl_s197]), (153, [pl_s254]), (108, [pl_s255]), (154, [pl_s341]), (10, [pl_s224]), (119, [pl_s357])]) (mi := 152) (cuts := []) (f := 152) (S := pl_s358) (lx := none) (XF := []) ⟨pl_nmu, ck_E1 (ck_S1 pl_s197_s ck_S0) (ck_E1 (ck_S1 pl_s254_s ck_S0) (ck_E1 (ck_S1 pl_s255_s ck_S0) (ck_E1 (ck_S1 pl_s341_s ck_S0) (ck_E1 (ck_S1 pl_s224_s ck_S0) (ck_E1 (ck_S1 pl_s357_s ck_S0) ck_E0)))))⟩ ck_X0 ck_l0 (by decide +kernel)
set_option maxRecDepth 100000 in
/-- GlacierMail.watch -/
noncomputable def pl_s359 : ck_Sum := ((8, 1, 6), 249, [.inr (.inr (.inl 1)), .inl ((-2147483648), (-1), []), .inl ((-2147483648), 2147483647, [])], ([], [], []), ([], []), [(.inl 3, 249, ([], [], []))])
set_option maxRecDepth 100000 in
theorem pl_s359_s {X : Int → Int} {LX : Nat} : ck_Ok p2_OL X LX 156 pl_s359 := ck_ok_s (O := p2_OL) (X := X) (LX := LX) (E := [(139, [pl_s191])]) (mi := 156) (cuts := []) (f := 76) (S := pl_s359) (lx := none) (XF := []) ⟨pl_nmu, ck_E1 (ck_S1 pl_s191_s ck_S0) ck_E0⟩ ck_X0 ck_l0 (by decide +kernel)
set_option maxRecDepth 100000 in
/-- GlacierMail.watch -/
noncomputable def pl_s360 : ck_Sum := ((8, 1, 6), 249, [.inr (.inr (.inl 1)), .inl (8, 2147483647, []), .inl ((-2147483648), 2147483647, [])], ([], [], []), ([], []), [(.inl 3, 249, ([], [], []))])
set_option maxRecDepth 100000 in
theorem pl_s360_s {X : Int → Int} {LX : Nat} : ck_Ok p2_OL X LX 156 pl_s360 := ck_ok_s (O := p2_OL) (X := X) (LX := LX) (E := [(139, [pl_s194])]) (mi := 156) (cuts := []) (f := 76) (S := pl_s360) (lx := none) (XF := []) ⟨pl_nmu, ck_E1 (ck_S1 pl_s194_s ck_S0) ck_E0⟩ ck_X0 ck_l0 (by decide +kernel)
end
