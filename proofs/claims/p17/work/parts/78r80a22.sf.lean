/-! 78r80a22.sf -/
section
/-! EVERY CALL ENDS, whatever was done before (laid by wip/am/p2k.py). -/
set_option maxRecDepth 100000 in
/-- GlacierMail$Rows.copyFrom -/
def p2_s1758 : ck_Sum := ((1, 0, 0), 245, [.inr (.inr (.inl 12)), .inr (.inr (.inl 38))], ([], [], []), ([(12, 3, 3), (13, 0, 35)], []), [(.inr none, 245, ([], [], []))])
set_option maxRecDepth 100000 in
theorem p2_s1758_e : ck_ok p2_O none [] [] 58 [] 114 p2_s1758 = true := by decide +kernel
theorem p2_s1758_s {X : Int → Int} {LX : Nat} : ck_Ok p2_O X LX 58 p2_s1758 := ck_ok_s ⟨p2_nmu, ck_E0⟩ ck_X0 ck_l0 p2_s1758_e
set_option maxRecDepth 100000 in
/-- GlacierMail$Rows.copyFrom -/
def p2_s1759 : ck_Sum := ((1, 0, 0), 245, [.inr (.inr (.inl 14)), .inr (.inr (.inl 40))], ([], [], []), ([(14, 3, 3), (15, 0, 71)], []), [(.inr none, 245, ([], [], []))])
set_option maxRecDepth 100000 in
theorem p2_s1759_e : ck_ok p2_O none [] [] 58 [] 114 p2_s1759 = true := by decide +kernel
theorem p2_s1759_s {X : Int → Int} {LX : Nat} : ck_Ok p2_O X LX 58 p2_s1759 := ck_ok_s ⟨p2_nmu, ck_E0⟩ ck_X0 ck_l0 p2_s1759_e
set_option maxRecDepth 100000 in
/-- GlacierMail$State.copyFrom -/
def p2_s1760 : ck_Sum := ((2, 0, 0), 245, [.inr (.inr (.inl 3)), .inr (.inr (.inl 29))], ([], [(3, 8, 0), (29, 8, 100029)], []), (zl1, [(3, 8)]), [(.inr none, 245, ([], [(3, 8, 100029)], []))])
set_option maxRecDepth 100000 in
theorem p2_s1760_e : ck_ok p2_O none [] [(58, [p2_s1754, p2_s1755, p2_s1756, p2_s1757, p2_s1758, p2_s1759])] 57 [] 204 p2_s1760 = true := by decide +kernel
theorem p2_s1760_s {X : Int → Int} {LX : Nat} : ck_Ok p2_O X LX 57 p2_s1760 := ck_ok_s ⟨p2_nmu, ck_E1 (ck_S1 p2_s1754_s (ck_S1 p2_s1755_s (ck_S1 p2_s1756_s (ck_S1 p2_s1757_s (ck_S1 p2_s1758_s (ck_S1 p2_s1759_s ck_S0)))))) ck_E0⟩ ck_X0 ck_l0 p2_s1760_e
set_option maxRecDepth 100000 in
/-- GlacierMail.back -/
def p2_s1761 : ck_Sum := ((4, 0, 0), 245, [.inr (.inr (.inl 1))], ([], [(3, 8, 0), (29, 8, 100029)], [(1, 6, 6, (0, 1, [(9, 0)]))]), (zl215, [(3, 8)]), [(.inr (some (.inl (ck_one 1))), 245, ([], [(3, 8, 100029)], zl216)), (.inr (some (.inl (ck_one 0))), 245, ([], [(3, 8, 0)], [(1, 6, 6, (0, 0, [(9, 0)]))]))])
set_option maxRecDepth 100000 in
theorem p2_s1761_e : ck_ok p2_O none [] [(57, [p2_s1760]), (61, [p2_s144])] 60 [] 94 p2_s1761 = true := by decide +kernel
theorem p2_s1761_s {X : Int → Int} {LX : Nat} : ck_Ok p2_O X LX 60 p2_s1761 := ck_ok_s ⟨p2_nmu, ck_E1 (ck_S1 p2_s1760_s ck_S0) (ck_E1 (ck_S1 p2_s144_s ck_S0) ck_E0)⟩ ck_X0 ck_l0 p2_s1761_e
set_option maxRecDepth 100000 in
/-- GlacierMailModel.back -/
def p2_s1762 : ck_Sum := ((1, 0, 0), 245, [.inr (.inr (.inl 226))], ([], [], [(227, 2, 2, (0, 8, [(20, 0)])), (227, 3, 3, (0, 8, [(21, 0)])), (227, 4, 4, (0, 24, [(22, 0)])), (227, 5, 5, (0, 8, [(23, 0)])), (227, 6, 6, (0, 6, [(24, 0)])), (227, 7, 7, (0, 12, [(25, 0)])), (227, 14, 14, (0, 24, [(26, 0)])), (226, 6, 6, (0, 12, [(27, 0)])), (226, 5, 5, (0, 1, [(8, 0)])), (227, 9, 9, (0, 299, [(11, 0)]))]), ([(226, 0, 0), (226, 6, 6), (226, 26, 26), (227, 0, 1243), (234, 0, 299)], []), [(.inr (some (.inl (ck_one 0))), 245, ([], [], [(226, 5, 5, (0, 0, [(8, 0)])), (226, 0, 0, ck_one 0), (227, 2, 2, (0, 8, [(20, 0)])), (227, 3, 3, (0, 8, [(21, 0)])), (227, 4, 4, (0, 24, [(22, 0)])), (227, 5, 5, (0, 8, [(23, 0)])), (227, 6, 6, (0, 6, [(24, 0)])), (227, 7, 7, (0, 12, [(25, 0)])), (227, 14, 14, (0, 24, [(26, 0)])), (226, 6, 6, (0, 12, [(27, 0)])), (227, 9, 9, (0, 299, [(11, 0)]))])), (.inr (some (.inl (ck_one 1))), 245, ([], [], [(226, 26, 26, ck_one (-1)), (226, 6, 6, ck_one 0), (226, 5, 5, (1, 1, [(8, 0)])), (226, 0, 0, ck_one 0)]))])
def p2_s1762_E : List (Nat × List ck_Sum) := [(235, [p2_s245])]
set_option maxRecDepth 100000 in
def p2_s1762_C16 : ck_C := ([some (.inr (.inr (.inl 226))), some (.inl (ck_one 0))], ([], [], [(226, 5, 5, (1, 1, [(8, 0)])), (226, 0, 0, ck_one 0), (227, 2, 2, (0, 8, [(20, 0)])), (227, 3, 3, (0, 8, [(21, 0)])), (227, 4, 4, (0, 24, [(22, 0)])), (227, 5, 5, (0, 8, [(23, 0)])), (227, 6, 6, (0, 6, [(24, 0)])), (227, 7, 7, (0, 12, [(25, 0)])), (227, 14, 14, (0, 24, [(26, 0)])), (226, 6, 6, (0, 12, [(27, 0)])), (227, 9, 9, (0, 299, [(11, 0)]))]), 0, .inl 1, true)
set_option maxRecDepth 100000 in
def p2_s1762_Z : List (Nat × ck_C) := [(16, p2_s1762_C16)]
set_option maxRecDepth 100000 in
theorem p2_s1762_a : (decide (p2_s1762.2.2.1.length ≤ gm_ml 237) && ck_go p2_O none [] p2_s1762_E 237 p2_s1762.1.1 p2_s1762.2.1 p2_s1762.2.2.2.2.1 p2_s1762.2.2.2.2.2 p2_s1762_Z 126 false [(16, p2_s1762_C16, 0, 0, 245)] p2_s1762.1.2.1 p2_s1762.1.2.2 0 (p2_s1762.2.2.1.map some ++ List.replicate (gm_ml 237 - p2_s1762.2.2.1.length) none) [] p2_s1762.2.1 p2_s1762.2.2.2.1) = true := by decide +kernel
theorem p2_s1762_u : ck_cu p2_s1762_Z = true := by decide +kernel
theorem p2_s1762_h {X : Int → Int} {LX : Nat} : ck_nmu p2_O ∧ ck_OkE p2_O X LX p2_s1762_E := ⟨p2_nmu, ck_E1 (ck_S1 p2_s245_s ck_S0) ck_E0⟩
set_option maxRecDepth 100000 in
theorem p2_s1762_g16 : ck_go p2_O none [] p2_s1762_E 237 p2_s1762.1.1 p2_s1762.2.1 p2_s1762.2.2.2.2.1 p2_s1762.2.2.2.2.2 p2_s1762_Z 126 false [] 0 0 41 (p2_s1762_C16.1.set 1 (some (.inl (ck_one 1244)))) [] 245 (p2_s1762_C16.2.1.1, p2_s1762_C16.2.1.2.1, ck_cws [(227, 0, 1243)] p2_s1762_C16.2.1.2.2) = true := by decide +kernel
set_option maxRecDepth 100000 in
theorem p2_s1762_t16 : cp_tc p2_O 227 228 0 0 1244 = true := by decide +kernel
theorem p2_s1762_y16 {X : Int → Int} {LX : Nat} {σ σ0 : Nat → Int} {K0 : gm_K} {R0 : gm_R} {M0 : gm_M} (hσ : ∀ s, s < 100 → σ s = σ0 s) : ck_Hy p2_O X LX 237 p2_s1762.1.1 p2_s1762.2.2.2.2.1 p2_s1762.2.1 K0 R0 M0 (ck_Q p2_O σ0 p2_s1762.2.2.2.2.1 p2_s1762.2.1 K0 R0 M0 p2_s1762.2.2.2.2.2) σ (16, p2_s1762_C16, 0, 0, 245) := by
  refine ck_cpH (v := 1) (A := 227) (B := 228) (N := 1244) (wa := 0) (wb := 1243) (pc' := 41) p2_s1762_u p2_s1762_h hσ ⟨by decide, by decide⟩ (by decide +kernel) (fun bc bs L K R M hS => ?_) p2_s1762_g16 (fun _ h => nomatch h)
  · obtain ⟨hF, hl, -, hf, -⟩ := hS
    obtain ⟨u0, l0, g0⟩ := hl.2 0 (.inr (.inr (.inl 226))) rfl
    cases g0
    obtain ⟨u1, lv, x1, rfl, -, e1, e2, -⟩ := hl.2 1 (.inl (ck_one 0)) rfl
    have e1 : (0 : Int) ≤ x1 := e1
    have e2 : x1 ≤ (0 : Int) := e2
    have e3 : x1 = 0 := by omega
    subst e3
    have kA : (K 227).2 = 2093 := (md_kd hF md_o.1.2).2
    have kB : (K 228).2 = 1244 := (md_kd hF md_o.2.1.1).2
    refine ⟨0, 0, ⟨by omega, by omega⟩, gm_Fx_cpy hF (cp_tc_s hF p2_s1762_t16) (jj_back (K := K) hF.2.2.2.2), fun Q hx => ?_⟩
    exact cp_lp (iv := .iload_n 1) (v := 1) (ixA := 13) (ixB := 17) (jA := 1) (jB := 2) (A := 227) (B := 228) (mo := 226) (p := 16) (qA := 28) (qB := 33) (N := 1244) (offe := 21) (offb := (-22)) (by decide) (md_mo hF) (md_kd hF md_o.1.2).1 (md_kd hF md_o.2.1.1).1 (md_rf hF md_r.1.1) (md_rf hF md_r.1.2) (by decide +kernel) (by decide +kernel) (by decide +kernel) (by decide +kernel) ⟨by omega, ⟨by omega, by omega⟩, ⟨by omega, by omega⟩, by omega, by omega⟩ (fun e => absurd e (by decide)) (by decide) (by decide +kernel) l0 lv ⟨rfl, rfl⟩ ⟨gm_vr 226, l0, by simp [gm_sort]⟩ (by decide +kernel) (by decide +kernel) (by decide +kernel) (by decide) (by decide +kernel) (by decide +kernel) (cp_sg_i (iv := .iload_n 1) lv ⟨rfl, rfl⟩ (by decide +kernel)) (by decide +kernel) (by decide +kernel) (cp_sg_i (iv := .iload_n 1) lv ⟨rfl, rfl⟩ (by decide +kernel)) (by decide +kernel) (by decide +kernel) (by decide +kernel) (by decide +kernel) (by decide) (by decide) hx
theorem p2_s1762_s {X : Int → Int} {LX : Nat} : ck_Ok p2_O X LX 237 p2_s1762 := by
  refine ck_ok_st (cuts := p2_s1762_Z) p2_s1762_u p2_s1762_h p2_s1762_a (fun h hm => ?_)
  rcases List.mem_cons.mp hm with rfl | hm
  · exact ⟨by unfold p2_s1762_Z; exact List.mem_cons_self, fun σ K0 R0 M0 => p2_s1762_y16 (fun _ _ => rfl)⟩
  cases hm
set_option maxRecDepth 100000 in
/-- GlacierMail.count -/
def p2_s1763 : ck_Sum := ((0, 0, 0), 245, [.inr (.inr (.inl 1)), .inl ((-2147483648), (-1), [])], ([], [], []), ([], []), [(.inr (some (.inl (ck_one (-1)))), 245, ([], [], []))])
set_option maxRecDepth 100000 in
theorem p2_s1763_e : ck_ok p2_O none [] [] 63 [] 78 p2_s1763 = true := by decide +kernel
theorem p2_s1763_s {X : Int → Int} {LX : Nat} : ck_Ok p2_O X LX 63 p2_s1763 := ck_ok_s ⟨p2_nmu, ck_E0⟩ ck_X0 ck_l0 p2_s1763_e
set_option maxRecDepth 100000 in
/-- GlacierMail$History.size -/
def p2_s1764 : ck_Sum := ((0, 0, 0), 245, [.inr (.inr (.inl 42))], ([], [], []), ([], []), [(.inr (some (.inl (0, 12, []))), 245, ([], [], []))])
set_option maxRecDepth 100000 in
theorem p2_s1764_e : ck_ok p2_O none [] [] 69 [] 76 p2_s1764 = true := by decide +kernel
theorem p2_s1764_s {X : Int → Int} {LX : Nat} : ck_Ok p2_O X LX 69 p2_s1764 := ck_ok_s ⟨p2_nmu, ck_E0⟩ ck_X0 ck_l0 p2_s1764_e
set_option maxRecDepth 100000 in
/-- GlacierMail.inIceNow -/
def p2_s1765 : ck_Sum := ((5, 0, 0), 245, [.inr (.inr (.inl 1))], ([], [(3, 8, 0)], [(3, 6, 6, (0, 299, [(10, 0)]))]), (zl79, []), [(.inr (some (.inl ((-2147483648), 2147483647, []))), 245, ([], [], [(1, 15, 15, ck_one 1)]))])
set_option maxRecDepth 100000 in
theorem p2_s1765_e : ck_ok p2_O none [] [(24, [p2_s349]), (9, [p2_s331]), (10, [p2_s350]), (67, [p2_s351])] 68 [(8, [some (.inr (.inr (.inl 1))), some (.inl ((-2147483648), 2147483647, [])), some (.inl (0, 24, []))], ([], [(3, 8, 0)], [(1, 15, 15, ck_one 1), (3, 6, 6, (0, 299, [(10, 0)]))]), 100, .inl 2, true)] 174 p2_s1765 = true := by decide +kernel
theorem p2_s1765_s {X : Int → Int} {LX : Nat} : ck_Ok p2_O X LX 68 p2_s1765 := ck_ok_s ⟨p2_nmu, ck_E1 (ck_S1 p2_s349_s ck_S0) (ck_E1 (ck_S1 p2_s331_s ck_S0) (ck_E1 (ck_S1 p2_s350_s ck_S0) (ck_E1 (ck_S1 p2_s351_s ck_S0) ck_E0)))⟩ ck_X0 ck_l0 p2_s1765_e
set_option maxRecDepth 100000 in
/-- GlacierMail.waiting -/
def p2_s1766 : ck_Sum := ((5, 0, 0), 245, [.inr (.inr (.inl 1)), .inl (ck_one (-1))], ([], [(3, 8, 0)], [(3, 6, 6, (0, 299, [(10, 0)]))]), (zl79, []), [(.inr (some (.inl ((-2147483648), 2147483647, []))), 245, ([], [], [(1, 15, 15, ck_one 1)]))])
set_option maxRecDepth 100000 in
theorem p2_s1766_e : ck_ok p2_O none [] [(24, [p2_s349]), (9, [p2_s331]), (66, [p2_s352])] 65 [(8, [some (.inr (.inr (.inl 1))), some (.inl (ck_one (-1))), some (.inl ((-2147483648), 2147483647, [])), some (.inl (0, 24, [])), none], ([], [(3, 8, 0)], [(1, 15, 15, ck_one 1), (3, 6, 6, (0, 299, [(10, 0)]))]), 100, .inl 3, true)] 178 p2_s1766 = true := by decide +kernel
theorem p2_s1766_s {X : Int → Int} {LX : Nat} : ck_Ok p2_O X LX 65 p2_s1766 := ck_ok_s ⟨p2_nmu, ck_E1 (ck_S1 p2_s349_s ck_S0) (ck_E1 (ck_S1 p2_s331_s ck_S0) (ck_E1 (ck_S1 p2_s352_s ck_S0) ck_E0))⟩ ck_X0 ck_l0 p2_s1766_e
set_option maxRecDepth 100000 in
/-- GlacierMail$Rows.size -/
def p2_s1767 : ck_Sum := ((0, 0, 0), 245, [.inr (.inr (.inl 14))], ([], [], []), ([], []), [(.inr (some (.inl (0, 24, []))), 245, ([], [], []))])
set_option maxRecDepth 100000 in
theorem p2_s1767_e : ck_ok p2_O none [] [] 9 [] 76 p2_s1767 = true := by decide +kernel
theorem p2_s1767_s {X : Int → Int} {LX : Nat} : ck_Ok p2_O X LX 9 p2_s1767 := ck_ok_s ⟨p2_nmu, ck_E0⟩ ck_X0 ck_l0 p2_s1767_e
set_option maxRecDepth 100000 in
/-- GlacierMail.count -/
def p2_s1768 : ck_Sum := ((6, 0, 0), 245, [.inr (.inr (.inl 1)), .inl (10, 2147483647, [])], ([], [(3, 8, 0)], [(3, 6, 6, (0, 299, [(10, 0)]))]), (zl79, []), [(.inr (some (.inl ((-2147483648), 2147483647, []))), 245, ([], [], [])), (.inr (some (.inl (0, 9999, []))), 245, ([], [], []))])
set_option maxRecDepth 100000 in
theorem p2_s1768_e : ck_ok p2_O none [] [(69, [p2_s1764]), (68, [p2_s1765]), (65, [p2_s1766]), (9, [p2_s1767])] 63 [] 84 p2_s1768 = true := by decide +kernel
theorem p2_s1768_s {X : Int → Int} {LX : Nat} : ck_Ok p2_O X LX 63 p2_s1768 := ck_ok_s ⟨p2_nmu, ck_E1 (ck_S1 p2_s1764_s ck_S0) (ck_E1 (ck_S1 p2_s1765_s ck_S0) (ck_E1 (ck_S1 p2_s1766_s ck_S0) (ck_E1 (ck_S1 p2_s1767_s ck_S0) ck_E0)))⟩ ck_X0 ck_l0 p2_s1768_e
set_option maxRecDepth 100000 in
/-- GlacierMail.lawLines -/
def p2_s1769 : ck_Sum := ((0, 0, 0), 245, [.inr (.inr (.inl 1))], ([], [(3, 8, 0)], []), ([], []), [(.inr (some (.inl (ck_one (-1)))), 245, ([], [], []))])
set_option maxRecDepth 100000 in
theorem p2_s1769_e : ck_ok p2_O none [] [] 64 [] 84 p2_s1769 = true := by decide +kernel
theorem p2_s1769_s {X : Int → Int} {LX : Nat} : ck_Ok p2_O X LX 64 p2_s1769 := ck_ok_s ⟨p2_nmu, ck_E0⟩ ck_X0 ck_l0 p2_s1769_e
set_option maxRecDepth 100000 in
/-- GlacierMail.count -/
def p2_s1770 : ck_Sum := ((1, 0, 0), 245, [.inr (.inr (.inl 1)), .inl (0, 9, [])], ([], [(3, 8, 0)], [(3, 6, 6, (0, 299, [(10, 0)]))]), ([], []), [(.inr (some (.inl (0, 2147483647, []))), 245, ([], [], [])), (.inr (some (.inl ((-2147483648), (-1), []))), 245, ([], [], []))])
set_option maxRecDepth 100000 in
theorem p2_s1770_e : ck_ok p2_O none [] [(64, [p2_s1769]), (9, [p2_s1441, p2_s139, p2_s331, p2_s320, p2_s135])] 63 [] 84 p2_s1770 = true := by decide +kernel
theorem p2_s1770_s {X : Int → Int} {LX : Nat} : ck_Ok p2_O X LX 63 p2_s1770 := ck_ok_s ⟨p2_nmu, ck_E1 (ck_S1 p2_s1769_s ck_S0) (ck_E1 (ck_S1 p2_s1441_s (ck_S1 p2_s139_s (ck_S1 p2_s331_s (ck_S1 p2_s320_s (ck_S1 p2_s135_s ck_S0))))) ck_E0)⟩ ck_X0 ck_l0 p2_s1770_e
set_option maxRecDepth 100000 in
/-- GlacierMailModel.in -/
def p2_s1771 : ck_Sum := ((0, 0, 0), 245, [.inl ((-2147483648), (-1), []), .inl (ck_one 0), .inl (ck_one 13)], ([], [], []), ([], []), [(.inr (some (.inl (ck_one 0))), 245, ([], [], []))])
set_option maxRecDepth 100000 in
theorem p2_s1771_e : ck_ok p2_O none [] [] 286 [] 80 p2_s1771 = true := by decide +kernel
theorem p2_s1771_s {X : Int → Int} {LX : Nat} : ck_Ok p2_O X LX 286 p2_s1771 := ck_ok_s ⟨p2_nmu, ck_E0⟩ ck_X0 ck_l0 p2_s1771_e
set_option maxRecDepth 100000 in
/-- GlacierMailModel.count -/
def p2_s1772 : ck_Sum := ((1, 0, 0), 245, [.inr (.inr (.inl 226)), .inl ((-2147483648), (-1), [])], ([], [], []), ([(226, 0, 0)], []), [(.inr (some (.inl (ck_one (-1)))), 245, ([], [], [(226, 0, 0, ck_one 0)]))])
set_option maxRecDepth 100000 in
theorem p2_s1772_e : ck_ok p2_O none [] [(286, [p2_s1771])] 368 [] 98 p2_s1772 = true := by decide +kernel
theorem p2_s1772_s {X : Int → Int} {LX : Nat} : ck_Ok p2_O X LX 368 p2_s1772 := ck_ok_s ⟨p2_nmu, ck_E1 (ck_S1 p2_s1771_s ck_S0) ck_E0⟩ ck_X0 ck_l0 p2_s1772_e
set_option maxRecDepth 100000 in
/-- GlacierMailModel.in -/
def p2_s1773 : ck_Sum := ((0, 0, 0), 245, [.inl (18, 2147483647, []), .inl (ck_one 0), .inl (ck_one 13)], ([], [], []), ([], []), [(.inr (some (.inl (ck_one 0))), 245, ([], [], []))])
set_option maxRecDepth 100000 in
theorem p2_s1773_e : ck_ok p2_O none [] [] 286 [] 86 p2_s1773 = true := by decide +kernel
theorem p2_s1773_s {X : Int → Int} {LX : Nat} : ck_Ok p2_O X LX 286 p2_s1773 := ck_ok_s ⟨p2_nmu, ck_E0⟩ ck_X0 ck_l0 p2_s1773_e
set_option maxRecDepth 100000 in
/-- GlacierMailModel.in -/
def p2_s1774 : ck_Sum := ((0, 0, 0), 245, [.inl (ck_one 13), .inl (ck_one 0), .inl (ck_one 13)], ([], [], []), ([], []), [(.inr (some (.inl (ck_one 1))), 245, ([], [], []))])
set_option maxRecDepth 100000 in
theorem p2_s1774_e : ck_ok p2_O none [] [] 286 [] 88 p2_s1774 = true := by decide +kernel
theorem p2_s1774_s {X : Int → Int} {LX : Nat} : ck_Ok p2_O X LX 286 p2_s1774 := ck_ok_s ⟨p2_nmu, ck_E0⟩ ck_X0 ck_l0 p2_s1774_e
set_option maxRecDepth 100000 in
/-- GlacierMailModel.in -/
def p2_s1775 : ck_Sum := ((0, 0, 0), 245, [.inl (ck_one 12), .inl (ck_one 0), .inl (ck_one 13)], ([], [], []), ([], []), [(.inr (some (.inl (ck_one 1))), 245, ([], [], []))])
set_option maxRecDepth 100000 in
theorem p2_s1775_e : ck_ok p2_O none [] [] 286 [] 88 p2_s1775 = true := by decide +kernel
theorem p2_s1775_s {X : Int → Int} {LX : Nat} : ck_Ok p2_O X LX 286 p2_s1775 := ck_ok_s ⟨p2_nmu, ck_E0⟩ ck_X0 ck_l0 p2_s1775_e
set_option maxRecDepth 100000 in
/-- GlacierMailModel.in -/
def p2_s1776 : ck_Sum := ((0, 0, 0), 245, [.inl (ck_one 11), .inl (ck_one 0), .inl (ck_one 13)], ([], [], []), ([], []), [(.inr (some (.inl (ck_one 1))), 245, ([], [], []))])
set_option maxRecDepth 100000 in
theorem p2_s1776_e : ck_ok p2_O none [] [] 286 [] 88 p2_s1776 = true := by decide +kernel
theorem p2_s1776_s {X : Int → Int} {LX : Nat} : ck_Ok p2_O X LX 286 p2_s1776 := ck_ok_s ⟨p2_nmu, ck_E0⟩ ck_X0 ck_l0 p2_s1776_e
set_option maxRecDepth 100000 in
/-- GlacierMailModel.in -/
def p2_s1777 : ck_Sum := ((0, 0, 0), 245, [.inl (ck_one 10), .inl (ck_one 0), .inl (ck_one 13)], ([], [], []), ([], []), [(.inr (some (.inl (ck_one 1))), 245, ([], [], []))])
set_option maxRecDepth 100000 in
theorem p2_s1777_e : ck_ok p2_O none [] [] 286 [] 88 p2_s1777 = true := by decide +kernel
theorem p2_s1777_s {X : Int → Int} {LX : Nat} : ck_Ok p2_O X LX 286 p2_s1777 := ck_ok_s ⟨p2_nmu, ck_E0⟩ ck_X0 ck_l0 p2_s1777_e
set_option maxRecDepth 100000 in
/-- GlacierMailModel.count -/
def p2_s1778 : ck_Sum := ((9, 0, 0), 245, [.inr (.inr (.inl 226)), .inl (10, 2147483647, [])], ([], [], [(227, 2, 2, (0, 8, [(20, 0)])), (227, 4, 4, (0, 24, [(22, 0)])), (227, 5, 5, (0, 8, [(23, 0)])), (227, 14, 14, (0, 24, [(26, 0)])), (226, 6, 6, (0, 12, [(27, 0)])), (227, 9, 9, (0, 299, [(11, 0)]))]), (zl85, []), [(.inr (some (.inl ((-2147483648), 2147483647, []))), 245, ([], [], [(226, 0, 0, ck_one 0)])), (.inr (some (.inl (0, 9999, []))), 245, ([], [], [(226, 0, 0, ck_one 0)]))])
set_option maxRecDepth 100000 in
theorem p2_s1778_e : ck_ok p2_O none [] [(286, [p2_s1773, p2_s1774, p2_s1775, p2_s1776, p2_s1777]), (254, [p2_s176]), (304, [p2_s381]), (266, [p2_s190]), (302, [p2_s382])] 368 [(132, [some (.inr (.inr (.inl 226))), some (.inl (ck_one 16)), some (.inl ((-2147483648), 2147483647, [])), some (.inl (0, 24, [])), none], ([], [], [(226, 0, 0, ck_one 0), (227, 2, 2, (0, 8, [(20, 0)])), (227, 4, 4, (0, 24, [(22, 0)])), (227, 5, 5, (0, 8, [(23, 0)])), (227, 14, 14, (0, 24, [(26, 0)])), (226, 6, 6, (0, 12, [(27, 0)])), (227, 9, 9, (0, 299, [(11, 0)]))]), 100, .inl 3, true), (98, [some (.inr (.inr (.inl 226))), some (.inl (ck_one 15)), some (.inl ((-2147483648), 2147483647, [])), some (.inl (0, 24, [])), none], ([], [], [(226, 0, 0, ck_one 0), (227, 2, 2, (0, 8, [(20, 0)])), (227, 4, 4, (0, 24, [(22, 0)])), (227, 5, 5, (0, 8, [(23, 0)])), (227, 14, 14, (0, 24, [(26, 0)])), (226, 6, 6, (0, 12, [(27, 0)])), (227, 9, 9, (0, 299, [(11, 0)]))]), 300, .inl 3, true)] 242 p2_s1778 = true := by decide +kernel
theorem p2_s1778_s {X : Int → Int} {LX : Nat} : ck_Ok p2_O X LX 368 p2_s1778 := ck_ok_s ⟨p2_nmu, ck_E1 (ck_S1 p2_s1773_s (ck_S1 p2_s1774_s (ck_S1 p2_s1775_s (ck_S1 p2_s1776_s (ck_S1 p2_s1777_s ck_S0))))) (ck_E1 (ck_S1 p2_s176_s ck_S0) (ck_E1 (ck_S1 p2_s381_s ck_S0) (ck_E1 (ck_S1 p2_s190_s ck_S0) (ck_E1 (ck_S1 p2_s382_s ck_S0) ck_E0))))⟩ ck_X0 ck_l0 p2_s1778_e
set_option maxRecDepth 100000 in
/-- GlacierMailModel.in -/
def p2_s1779 : ck_Sum := ((0, 0, 0), 245, [.inl (0, 7, []), .inl (ck_one 0), .inl (ck_one 13)], ([], [], []), ([], []), [(.inr (some (.inl (ck_one 1))), 245, ([], [], []))])
set_option maxRecDepth 100000 in
theorem p2_s1779_e : ck_ok p2_O none [] [] 286 [] 88 p2_s1779 = true := by decide +kernel
theorem p2_s1779_s {X : Int → Int} {LX : Nat} : ck_Ok p2_O X LX 286 p2_s1779 := ck_ok_s ⟨p2_nmu, ck_E0⟩ ck_X0 ck_l0 p2_s1779_e
set_option maxRecDepth 100000 in
/-- GlacierMailModel.in -/
def p2_s1780 : ck_Sum := ((0, 0, 0), 245, [.inl (ck_one 9), .inl (ck_one 0), .inl (ck_one 13)], ([], [], []), ([], []), [(.inr (some (.inl (ck_one 1))), 245, ([], [], []))])
set_option maxRecDepth 100000 in
theorem p2_s1780_e : ck_ok p2_O none [] [] 286 [] 88 p2_s1780 = true := by decide +kernel
theorem p2_s1780_s {X : Int → Int} {LX : Nat} : ck_Ok p2_O X LX 286 p2_s1780 := ck_ok_s ⟨p2_nmu, ck_E0⟩ ck_X0 ck_l0 p2_s1780_e
set_option maxRecDepth 100000 in
/-- GlacierMailModel.count -/
def p2_s1781 : ck_Sum := ((1, 0, 0), 245, [.inr (.inr (.inl 226)), .inl (0, 9, [])], ([], [], [(227, 9, 9, (0, 299, [(11, 0)]))]), ([(226, 0, 0)], []), [(.inr (some (.inl (0, 299, []))), 245, ([], [], [(226, 0, 0, ck_one 0)])), (.inr (some (.inl (ck_one (-1)))), 245, ([], [], [(227, 8, 8, ck_one 0), (226, 0, 0, ck_one 0)]))])
set_option maxRecDepth 100000 in
theorem p2_s1781_e : ck_ok p2_O none [] [(286, [p2_s1779, p2_s1780])] 368 [] 108 p2_s1781 = true := by decide +kernel
theorem p2_s1781_s {X : Int → Int} {LX : Nat} : ck_Ok p2_O X LX 368 p2_s1781 := ck_ok_s ⟨p2_nmu, ck_E1 (ck_S1 p2_s1779_s (ck_S1 p2_s1780_s ck_S0)) ck_E0⟩ ck_X0 ck_l0 p2_s1781_e
end
/-! 78r86a00.sl -/
section
/-! EVERY CALL OF THE CLASS ENDS, under a law (laid by wip/am/p2l.py). -/
set_option maxRecDepth 100000 in
/-- GlacierMail.putNumber -/
def pl_s0 : ck_Sum := ((0, 0, 0), 249, [.inr (.inr (.inl 1)), .inl ((-2147483648), 2147483647, [])], ([], [], [(1, 1, 1, (0, 380, [(6, 0)]))]), ([(1, 1, 1), (2, 0, 383)], []), [(.inr none, 249, ([], [], [(1, 1, 1, (4, 384, [(6, 4)]))]))])
set_option maxRecDepth 100000 in
theorem pl_s0_e : ck_ok p2_OL none [] [] 20 [] 280 pl_s0 = true := by decide +kernel
theorem pl_s0_s {X : Int → Int} {LX : Nat} : ck_Ok p2_OL X LX 20 pl_s0 := ck_ok_s ⟨pl_nmu, ck_E0⟩ ck_X0 ck_l0 pl_s0_e
set_option maxRecDepth 100000 in
/-- GlacierMail.putNumber -/
def pl_s1 : ck_Sum := ((0, 0, 0), 249, [.inr (.inr (.inl 1)), .inl ((-2147483648), 2147483647, [])], ([], [], [(1, 1, 1, (4, 384, [(6, 0)]))]), ([(1, 1, 1), (2, 4, 387)], []), [(.inr none, 249, ([], [], [(1, 1, 1, (8, 388, [(6, 4)]))]))])
set_option maxRecDepth 100000 in
theorem pl_s1_e : ck_ok p2_OL none [] [] 20 [] 280 pl_s1 = true := by decide +kernel
theorem pl_s1_s {X : Int → Int} {LX : Nat} : ck_Ok p2_OL X LX 20 pl_s1 := ck_ok_s ⟨pl_nmu, ck_E0⟩ ck_X0 ck_l0 pl_s1_e
set_option maxRecDepth 100000 in
/-- GlacierMail.putNumber -/
def pl_s2 : ck_Sum := ((0, 0, 0), 249, [.inr (.inr (.inl 1)), .inl ((-2147483648), 2147483647, [])], ([], [], [(1, 1, 1, (8, 388, [(6, 0)]))]), ([(1, 1, 1), (2, 8, 391)], []), [(.inr none, 249, ([], [], [(1, 1, 1, (12, 392, [(6, 4)]))]))])
set_option maxRecDepth 100000 in
theorem pl_s2_e : ck_ok p2_OL none [] [] 20 [] 280 pl_s2 = true := by decide +kernel
theorem pl_s2_s {X : Int → Int} {LX : Nat} : ck_Ok p2_OL X LX 20 pl_s2 := ck_ok_s ⟨pl_nmu, ck_E0⟩ ck_X0 ck_l0 pl_s2_e
set_option maxRecDepth 100000 in
/-- GlacierMail.putNumber -/
def pl_s3 : ck_Sum := ((0, 0, 0), 249, [.inr (.inr (.inl 1)), .inl ((-2147483648), 2147483647, [])], ([], [], [(1, 1, 1, (12, 392, [(6, 0)]))]), ([(1, 1, 1), (2, 12, 395)], []), [(.inr none, 249, ([], [], [(1, 1, 1, (16, 396, [(6, 4)]))]))])
set_option maxRecDepth 100000 in
theorem pl_s3_e : ck_ok p2_OL none [] [] 20 [] 280 pl_s3 = true := by decide +kernel
theorem pl_s3_s {X : Int → Int} {LX : Nat} : ck_Ok p2_OL X LX 20 pl_s3 := ck_ok_s ⟨pl_nmu, ck_E0⟩ ck_X0 ck_l0 pl_s3_e
set_option maxRecDepth 100000 in
/-- GlacierMail.putNumber -/
def pl_s4 : ck_Sum := ((0, 0, 0), 249, [.inr (.inr (.inl 1)), .inl ((-2147483648), 2147483647, [])], ([], [], [(1, 1, 1, (16, 396, [(6, 0)]))]), ([(1, 1, 1), (2, 16, 399)], []), [(.inr none, 249, ([], [], [(1, 1, 1, (20, 400, [(6, 4)]))]))])
set_option maxRecDepth 100000 in
theorem pl_s4_e : ck_ok p2_OL none [] [] 20 [] 280 pl_s4 = true := by decide +kernel
theorem pl_s4_s {X : Int → Int} {LX : Nat} : ck_Ok p2_OL X LX 20 pl_s4 := ck_ok_s ⟨pl_nmu, ck_E0⟩ ck_X0 ck_l0 pl_s4_e
set_option maxRecDepth 100000 in
/-- GlacierMail.feed -/
def pl_s5 : ck_Sum := ((1, 0, 0), 249, [.inr (.inr (.inl 1)), .inl ((-2147483648), 2147483647, []), .inl ((-2147483648), 2147483647, []), .inl ((-2147483648), 2147483647, []), .inl ((-2147483648), 2147483647, []), .inl ((-2147483648), 2147483647, [])], ([], [], [(1, 1, 1, (0, 400, [(6, 0)]))]), ([(1, 1, 1), (2, 0, 399)], []), [(.inr (some (.inl (20, 400, [(6, 20)]))), 249, ([], [], [(1, 1, 1, (20, 400, [(6, 20)]))])), (.inr (some (.inl (ck_one (-1)))), 249, ([], [], [(1, 1, 1, (381, 400, [(6, 0)]))]))])
set_option maxRecDepth 100000 in
theorem pl_s5_e : ck_ok p2_OL none [] [(20, [pl_s0, pl_s1, pl_s2, pl_s3, pl_s4])] 19 [] 118 pl_s5 = true := by decide +kernel
theorem pl_s5_s {X : Int → Int} {LX : Nat} : ck_Ok p2_OL X LX 19 pl_s5 := ck_ok_s ⟨pl_nmu, ck_E1 (ck_S1 pl_s0_s (ck_S1 pl_s1_s (ck_S1 pl_s2_s (ck_S1 pl_s3_s (ck_S1 pl_s4_s ck_S0))))) ck_E0⟩ ck_X0 ck_l0 pl_s5_e
set_option maxRecDepth 100000 in
/-- GlacierMail.end -/
def pl_s6 : ck_Sum := ((0, 0, 0), 249, [.inr (.inr (.inl 1)), .inl ((-2147483648), 2147483647, [])], ([], [], [(1, 1, 1, (0, 400, [(6, 0)]))]), ([(1, 1, 1)], []), [(.inr (some (.inl (ck_one 0))), 249, ([], [], [(1, 1, 1, (0, 400, [(6, 0)]))])), (.inr (some (.inl (ck_one 1))), 249, ([], [], []))])
set_option maxRecDepth 100000 in
theorem pl_s6_e : ck_ok p2_OL none [] [] 21 [] 92 pl_s6 = true := by decide +kernel
theorem pl_s6_s {X : Int → Int} {LX : Nat} : ck_Ok p2_OL X LX 21 pl_s6 := ck_ok_s ⟨pl_nmu, ck_E0⟩ ck_X0 ck_l0 pl_s6_e
set_option maxRecDepth 100000 in
/-- GlacierMail$Rows.copyFrom -/
def pl_s7 : ck_Sum := ((1, 0, 0), 249, [.inr (.inr (.inl 17)), .inr (.inr (.inl 4))], ([], [], []), ([(17, 3, 3), (18, 0, 55)], []), [(.inr none, 249, ([], [], []))])
set_option maxRecDepth 100000 in
theorem pl_s7_e : ck_ok p2_OL none [] [] 58 [] 114 pl_s7 = true := by decide +kernel
theorem pl_s7_s {X : Int → Int} {LX : Nat} : ck_Ok p2_OL X LX 58 pl_s7 := ck_ok_s ⟨pl_nmu, ck_E0⟩ ck_X0 ck_l0 pl_s7_e
set_option maxRecDepth 100000 in
/-- GlacierMail$Rows.copyFrom -/
def pl_s8 : ck_Sum := ((1, 0, 0), 249, [.inr (.inr (.inl 19)), .inr (.inr (.inl 6))], ([], [], []), ([(19, 3, 3), (20, 0, 23)], []), [(.inr none, 249, ([], [], []))])
set_option maxRecDepth 100000 in
theorem pl_s8_e : ck_ok p2_OL none [] [] 58 [] 114 pl_s8 = true := by decide +kernel
theorem pl_s8_s {X : Int → Int} {LX : Nat} : ck_Ok p2_OL X LX 58 pl_s8 := ck_ok_s ⟨pl_nmu, ck_E0⟩ ck_X0 ck_l0 pl_s8_e
set_option maxRecDepth 100000 in
/-- GlacierMail$Rows.copyFrom -/
def pl_s9 : ck_Sum := ((1, 0, 0), 249, [.inr (.inr (.inl 21)), .inr (.inr (.inl 8))], ([], [], []), ([(21, 3, 3), (22, 0, 23)], []), [(.inr none, 249, ([], [], []))])
set_option maxRecDepth 100000 in
theorem pl_s9_e : ck_ok p2_OL none [] [] 58 [] 114 pl_s9 = true := by decide +kernel
theorem pl_s9_s {X : Int → Int} {LX : Nat} : ck_Ok p2_OL X LX 58 pl_s9 := ck_ok_s ⟨pl_nmu, ck_E0⟩ ck_X0 ck_l0 pl_s9_e
set_option maxRecDepth 100000 in
/-- GlacierMail$Rows.copyFrom -/
def pl_s10 : ck_Sum := ((1, 0, 0), 249, [.inr (.inr (.inl 23)), .inr (.inr (.inl 10))], ([], [], []), ([(23, 3, 3), (24, 0, 167)], []), [(.inr none, 249, ([], [], []))])
set_option maxRecDepth 100000 in
theorem pl_s10_e : ck_ok p2_OL none [] [] 58 [] 114 pl_s10 = true := by decide +kernel
theorem pl_s10_s {X : Int → Int} {LX : Nat} : ck_Ok p2_OL X LX 58 pl_s10 := ck_ok_s ⟨pl_nmu, ck_E0⟩ ck_X0 ck_l0 pl_s10_e
set_option maxRecDepth 100000 in
/-- GlacierMail$Rows.copyFrom -/
def pl_s11 : ck_Sum := ((1, 0, 0), 249, [.inr (.inr (.inl 25)), .inr (.inr (.inl 12))], ([], [], []), ([(25, 3, 3), (26, 0, 35)], []), [(.inr none, 249, ([], [], []))])
set_option maxRecDepth 100000 in
theorem pl_s11_e : ck_ok p2_OL none [] [] 58 [] 114 pl_s11 = true := by decide +kernel
theorem pl_s11_s {X : Int → Int} {LX : Nat} : ck_Ok p2_OL X LX 58 pl_s11 := ck_ok_s ⟨pl_nmu, ck_E0⟩ ck_X0 ck_l0 pl_s11_e
set_option maxRecDepth 100000 in
/-- GlacierMail$Rows.copyFrom -/
def pl_s12 : ck_Sum := ((1, 0, 0), 249, [.inr (.inr (.inl 27)), .inr (.inr (.inl 14))], ([], [], []), ([(27, 3, 3), (28, 0, 71)], []), [(.inr none, 249, ([], [], []))])
set_option maxRecDepth 100000 in
theorem pl_s12_e : ck_ok p2_OL none [] [] 58 [] 114 pl_s12 = true := by decide +kernel
theorem pl_s12_s {X : Int → Int} {LX : Nat} : ck_Ok p2_OL X LX 58 pl_s12 := ck_ok_s ⟨pl_nmu, ck_E0⟩ ck_X0 ck_l0 pl_s12_e
set_option maxRecDepth 100000 in
/-- GlacierMail$State.copyFrom -/
def pl_s13 : ck_Sum := ((2, 0, 0), 249, [.inr (.inr (.inl 16)), .inr (.inr (.inl 3))], ([], [(3, 8, 246), (16, 8, 100016)], [(3, 6, 6, (0, 299, [(10, 0)]))]), (zl0, [(16, 8)]), [(.inr none, 249, ([], [(16, 8, 246)], [(16, 6, 6, (0, 299, [(10, 0)]))]))])
set_option maxRecDepth 100000 in
theorem pl_s13_e : ck_ok p2_OL none [] [(58, [pl_s7, pl_s8, pl_s9, pl_s10, pl_s11, pl_s12])] 57 [] 204 pl_s13 = true := by decide +kernel
theorem pl_s13_s {X : Int → Int} {LX : Nat} : ck_Ok p2_OL X LX 57 pl_s13 := ck_ok_s ⟨pl_nmu, ck_E1 (ck_S1 pl_s7_s (ck_S1 pl_s8_s (ck_S1 pl_s9_s (ck_S1 pl_s10_s (ck_S1 pl_s11_s (ck_S1 pl_s12_s ck_S0)))))) ck_E0⟩ ck_X0 ck_l0 pl_s13_e
set_option maxRecDepth 100000 in
/-- GlacierMail$Rows.copyFrom -/
def pl_s14 : ck_Sum := ((1, 0, 0), 249, [.inr (.inr (.inl 4)), .inr (.inr (.inl 17))], ([], [], []), ([(4, 3, 3), (5, 0, 55)], []), [(.inr none, 249, ([], [], []))])
set_option maxRecDepth 100000 in
theorem pl_s14_e : ck_ok p2_OL none [] [] 58 [] 114 pl_s14 = true := by decide +kernel
theorem pl_s14_s {X : Int → Int} {LX : Nat} : ck_Ok p2_OL X LX 58 pl_s14 := ck_ok_s ⟨pl_nmu, ck_E0⟩ ck_X0 ck_l0 pl_s14_e
set_option maxRecDepth 100000 in
/-- GlacierMail$Rows.copyFrom -/
def pl_s15 : ck_Sum := ((1, 0, 0), 249, [.inr (.inr (.inl 6)), .inr (.inr (.inl 19))], ([], [], []), ([(6, 3, 3), (7, 0, 23)], []), [(.inr none, 249, ([], [], []))])
set_option maxRecDepth 100000 in
theorem pl_s15_e : ck_ok p2_OL none [] [] 58 [] 114 pl_s15 = true := by decide +kernel
theorem pl_s15_s {X : Int → Int} {LX : Nat} : ck_Ok p2_OL X LX 58 pl_s15 := ck_ok_s ⟨pl_nmu, ck_E0⟩ ck_X0 ck_l0 pl_s15_e
set_option maxRecDepth 100000 in
/-- GlacierMail$Rows.copyFrom -/
def pl_s16 : ck_Sum := ((1, 0, 0), 249, [.inr (.inr (.inl 8)), .inr (.inr (.inl 21))], ([], [], []), ([(8, 3, 3), (9, 0, 23)], []), [(.inr none, 249, ([], [], []))])
set_option maxRecDepth 100000 in
theorem pl_s16_e : ck_ok p2_OL none [] [] 58 [] 114 pl_s16 = true := by decide +kernel
theorem pl_s16_s {X : Int → Int} {LX : Nat} : ck_Ok p2_OL X LX 58 pl_s16 := ck_ok_s ⟨pl_nmu, ck_E0⟩ ck_X0 ck_l0 pl_s16_e
set_option maxRecDepth 100000 in
/-- GlacierMail$Rows.copyFrom -/
def pl_s17 : ck_Sum := ((1, 0, 0), 249, [.inr (.inr (.inl 10)), .inr (.inr (.inl 23))], ([], [], []), ([(10, 3, 3), (11, 0, 167)], []), [(.inr none, 249, ([], [], []))])
set_option maxRecDepth 100000 in
theorem pl_s17_e : ck_ok p2_OL none [] [] 58 [] 114 pl_s17 = true := by decide +kernel
theorem pl_s17_s {X : Int → Int} {LX : Nat} : ck_Ok p2_OL X LX 58 pl_s17 := ck_ok_s ⟨pl_nmu, ck_E0⟩ ck_X0 ck_l0 pl_s17_e
set_option maxRecDepth 100000 in
/-- GlacierMail$Rows.copyFrom -/
def pl_s18 : ck_Sum := ((1, 0, 0), 249, [.inr (.inr (.inl 12)), .inr (.inr (.inl 25))], ([], [], []), ([(12, 3, 3), (13, 0, 35)], []), [(.inr none, 249, ([], [], []))])
set_option maxRecDepth 100000 in
theorem pl_s18_e : ck_ok p2_OL none [] [] 58 [] 114 pl_s18 = true := by decide +kernel
theorem pl_s18_s {X : Int → Int} {LX : Nat} : ck_Ok p2_OL X LX 58 pl_s18 := ck_ok_s ⟨pl_nmu, ck_E0⟩ ck_X0 ck_l0 pl_s18_e
set_option maxRecDepth 100000 in
/-- GlacierMail$Rows.copyFrom -/
def pl_s19 : ck_Sum := ((1, 0, 0), 249, [.inr (.inr (.inl 14)), .inr (.inr (.inl 27))], ([], [], []), ([(14, 3, 3), (15, 0, 71)], []), [(.inr none, 249, ([], [], []))])
set_option maxRecDepth 100000 in
theorem pl_s19_e : ck_ok p2_OL none [] [] 58 [] 114 pl_s19 = true := by decide +kernel
theorem pl_s19_s {X : Int → Int} {LX : Nat} : ck_Ok p2_OL X LX 58 pl_s19 := ck_ok_s ⟨pl_nmu, ck_E0⟩ ck_X0 ck_l0 pl_s19_e
set_option maxRecDepth 100000 in
/-- GlacierMail$State.copyFrom -/
def pl_s20 : ck_Sum := ((2, 0, 0), 249, [.inr (.inr (.inl 3)), .inr (.inr (.inl 16))], ([], [(3, 8, 246), (16, 8, 246)], []), (zl1, [(3, 8)]), [(.inr none, 249, ([], [(3, 8, 246)], []))])
set_option maxRecDepth 100000 in
theorem pl_s20_e : ck_ok p2_OL none [] [(58, [pl_s14, pl_s15, pl_s16, pl_s17, pl_s18, pl_s19])] 57 [] 204 pl_s20 = true := by decide +kernel
theorem pl_s20_s {X : Int → Int} {LX : Nat} : ck_Ok p2_OL X LX 57 pl_s20 := ck_ok_s ⟨pl_nmu, ck_E1 (ck_S1 pl_s14_s (ck_S1 pl_s15_s (ck_S1 pl_s16_s (ck_S1 pl_s17_s (ck_S1 pl_s18_s (ck_S1 pl_s19_s ck_S0)))))) ck_E0⟩ ck_X0 ck_l0 pl_s20_e
set_option maxRecDepth 100000 in
/-- GlacierMail$ValleyReader.clear -/
def pl_s21 : ck_Sum := ((0, 0, 0), 249, [.inr (.inr (.inl 213))], ([], [], []), ([], []), [(.inr none, 249, ([], [], []))])
set_option maxRecDepth 100000 in
theorem pl_s21_e : ck_ok p2_OL none [] [] 74 [] 72 pl_s21 = true := by decide +kernel
theorem pl_s21_s {X : Int → Int} {LX : Nat} : ck_Ok p2_OL X LX 74 pl_s21 := ck_ok_s ⟨pl_nmu, ck_E0⟩ ck_X0 ck_l0 pl_s21_e
set_option maxRecDepth 100000 in
/-- GlacierMail$Words.isSmall -/
def pl_s22 : ck_Sum := ((0, 0, 0), 249, [.inl ((-128), 127, [])], ([], [], []), ([], []), [(.inr (some (.inl (ck_one 0))), 249, ([], [], [])), (.inr (some (.inl (ck_one 1))), 249, ([], [], []))])
set_option maxRecDepth 100000 in
theorem pl_s22_e : ck_ok p2_OL none [] [] 77 [] 88 pl_s22 = true := by decide +kernel
theorem pl_s22_s {X : Int → Int} {LX : Nat} : ck_Ok p2_OL X LX 77 pl_s22 := ck_ok_s ⟨pl_nmu, ck_E0⟩ ck_X0 ck_l0 pl_s22_e
set_option maxRecDepth 100000 in
/-- GlacierMail$Words.isDigit -/
def pl_s23 : ck_Sum := ((0, 0, 0), 249, [.inl ((-128), 127, [])], ([], [], []), ([], []), [(.inr (some (.inl (ck_one 0))), 249, ([], [], [])), (.inr (some (.inl (ck_one 1))), 249, ([], [], []))])
set_option maxRecDepth 100000 in
theorem pl_s23_e : ck_ok p2_OL none [] [] 78 [] 88 pl_s23 = true := by decide +kernel
theorem pl_s23_s {X : Int → Int} {LX : Nat} : ck_Ok p2_OL X LX 78 pl_s23 := ck_ok_s ⟨pl_nmu, ck_E0⟩ ck_X0 ck_l0 pl_s23_e
set_option maxRecDepth 100000 in
/-- GlacierMail$Words.next -/
def pl_s24 : ck_Sum := ((1, 0, 0), 249, [.inr (.inr (.inl 214))], ([], [], [(214, 3, 3, (0, 400, [(12, 0)]))]), ([(214, 3, 4), (214, 6, 7)], []), [(.inr none, 249, ([], [], [(214, 3, 3, (0, 400, [(1000012, 0)]))]))])
set_option maxRecDepth 100000 in
theorem pl_s24_e : ck_ok p2_OL none [] [(77, [pl_s22]), (78, [pl_s23])] 76 [(0, [some (.inr (.inr (.inl 214))), none], ([], [], [(214, 3, 3, (0, 400, [(1000012, 0)]))]), 100, .inr (214, 3), true), (160, [some (.inr (.inr (.inl 214))), none], ([], [], [(214, 6, 6, ck_one 258), (214, 2, 2, (1, 400, [])), (214, 3, 3, (0, 400, [(1000100, 0), (1000012, 0)])), (214, 4, 4, (0, 400, [(100, 0)]))]), 300, .inr (214, 3), true), (94, [some (.inr (.inr (.inl 214))), none], ([], [], [(214, 6, 6, ck_one 257), (214, 2, 2, (1, 400, [])), (214, 3, 3, (0, 400, [(1000100, 0), (1000012, 0)])), (214, 7, 7, ck_one (-1)), (214, 4, 4, (0, 400, [(100, 0), (1000012, 0)]))]), 500, .inr (214, 3), true)] 562 pl_s24 = true := by decide +kernel
theorem pl_s24_s {X : Int → Int} {LX : Nat} : ck_Ok p2_OL X LX 76 pl_s24 := ck_ok_s ⟨pl_nmu, ck_E1 (ck_S1 pl_s22_s ck_S0) (ck_E1 (ck_S1 pl_s23_s ck_S0) ck_E0)⟩ ck_X0 ck_l0 pl_s24_e
set_option maxRecDepth 100000 in
/-- GlacierMail$Words.start -/
def pl_s25 : ck_Sum := ((2, 0, 0), 249, [.inr (.inr (.inl 214)), .inl (0, 400, [])], ([], [], [(214, 3, 3, (0, 400, [(12, 0)]))]), ([(214, 2, 7)], []), [(.inr none, 249, ([], [], [(214, 5, 5, ck_one (-1))]))])
set_option maxRecDepth 100000 in
theorem pl_s25_e : ck_ok p2_OL none [] [(76, [pl_s24])] 75 [] 102 pl_s25 = true := by decide +kernel
theorem pl_s25_s {X : Int → Int} {LX : Nat} : ck_Ok p2_OL X LX 75 pl_s25 := ck_ok_s ⟨pl_nmu, ck_E1 (ck_S1 pl_s24_s ck_S0) ck_E0⟩ ck_X0 ck_l0 pl_s25_e
set_option maxRecDepth 100000 in
/-- GlacierMail$Words.refuse -/
def pl_s26 : ck_Sum := ((0, 0, 0), 249, [.inr (.inr (.inl 214))], ([], [], []), ([(214, 5, 5)], []), [(.inr (some (.inl (ck_one 0))), 249, ([], [], [(214, 5, 5, (0, 400, []))]))])
set_option maxRecDepth 100000 in
theorem pl_s26_e : ck_ok p2_OL none [] [] 93 [] 90 pl_s26 = true := by decide +kernel
theorem pl_s26_s {X : Int → Int} {LX : Nat} : ck_Ok p2_OL X LX 93 pl_s26 := ck_ok_s ⟨pl_nmu, ck_E0⟩ ck_X0 ck_l0 pl_s26_e
set_option maxRecDepth 100000 in
/-- GlacierMail$Words.wrong -/
def pl_s27 : ck_Sum := ((0, 0, 0), 249, [.inr (.inr (.inl 214))], ([], [], []), ([], []), zl217)
set_option maxRecDepth 100000 in
theorem pl_s27_e : ck_ok p2_OL none [] [] 121 [] 76 pl_s27 = true := by decide +kernel
theorem pl_s27_s {X : Int → Int} {LX : Nat} : ck_Ok p2_OL X LX 121 pl_s27 := ck_ok_s ⟨pl_nmu, ck_E0⟩ ck_X0 ck_l0 pl_s27_e
set_option maxRecDepth 100000 in
/-- GlacierMail$Words.isWord -/
def pl_s28 : ck_Sum := ((6, 0, 0), 249, [.inr (.inr (.inl 214)), .inr (.inr (.inr 17))], ([], [], [(214, 3, 3, (0, 400, [(12, 0)]))]), ([], []), zl218)
set_option maxRecDepth 100000 in
theorem pl_s28_e : ck_ok p2_OL none [] [] 81 [] 360 pl_s28 = true := by decide +kernel
theorem pl_s28_s {X : Int → Int} {LX : Nat} : ck_Ok p2_OL X LX 81 pl_s28 := ck_ok_s ⟨pl_nmu, ck_E0⟩ ck_X0 ck_l0 pl_s28_e
set_option maxRecDepth 100000 in
/-- GlacierMail$Words.isWord -/
def pl_s29 : ck_Sum := ((6, 0, 0), 249, [.inr (.inr (.inl 214)), .inr (.inr (.inr 18))], ([], [], [(214, 3, 3, (0, 400, [(12, 0)]))]), ([], []), zl219)
set_option maxRecDepth 100000 in
theorem pl_s29_e : ck_ok p2_OL none [] [] 81 [] 310 pl_s29 = true := by decide +kernel
theorem pl_s29_s {X : Int → Int} {LX : Nat} : ck_Ok p2_OL X LX 81 pl_s29 := ck_ok_s ⟨pl_nmu, ck_E0⟩ ck_X0 ck_l0 pl_s29_e
set_option maxRecDepth 100000 in
/-- GlacierMail$Words.isWord -/
def pl_s30 : ck_Sum := ((6, 0, 0), 249, [.inr (.inr (.inl 214)), .inr (.inr (.inr 19))], ([], [], [(214, 3, 3, (0, 400, [(12, 0)]))]), ([], []), [(.inr (some (.inl (ck_one 0))), 249, ([], [], [])), (.inr (some (.inl (ck_one 1))), 249, ([], [], zl5))])
set_option maxRecDepth 100000 in
theorem pl_s30_e : ck_ok p2_OL none [] [] 81 [] 460 pl_s30 = true := by decide +kernel
theorem pl_s30_s {X : Int → Int} {LX : Nat} : ck_Ok p2_OL X LX 81 pl_s30 := ck_ok_s ⟨pl_nmu, ck_E0⟩ ck_X0 ck_l0 pl_s30_e
set_option maxRecDepth 100000 in
/-- GlacierMail$Words.isWord -/
def pl_s31 : ck_Sum := ((6, 0, 0), 249, [.inr (.inr (.inl 214)), .inr (.inr (.inr 20))], ([], [], [(214, 3, 3, (0, 400, [(12, 0)]))]), ([], []), zl219)
set_option maxRecDepth 100000 in
theorem pl_s31_e : ck_ok p2_OL none [] [] 81 [] 310 pl_s31 = true := by decide +kernel
theorem pl_s31_s {X : Int → Int} {LX : Nat} : ck_Ok p2_OL X LX 81 pl_s31 := ck_ok_s ⟨pl_nmu, ck_E0⟩ ck_X0 ck_l0 pl_s31_e
set_option maxRecDepth 100000 in
/-- GlacierMail$Words.isWord -/
def pl_s32 : ck_Sum := ((6, 0, 0), 249, [.inr (.inr (.inl 214)), .inr (.inr (.inr 22))], ([], [], [(214, 3, 3, (0, 400, [(12, 0)]))]), ([], []), zl220)
set_option maxRecDepth 100000 in
theorem pl_s32_e : ck_ok p2_OL none [] [] 81 [] 410 pl_s32 = true := by decide +kernel
theorem pl_s32_s {X : Int → Int} {LX : Nat} : ck_Ok p2_OL X LX 81 pl_s32 := ck_ok_s ⟨pl_nmu, ck_E0⟩ ck_X0 ck_l0 pl_s32_e
set_option maxRecDepth 100000 in
/-- GlacierMail$Words.isWord -/
def pl_s33 : ck_Sum := ((6, 0, 0), 249, [.inr (.inr (.inl 214)), .inr (.inr (.inr 23))], ([], [], [(214, 3, 3, (0, 400, [(12, 0)]))]), ([], []), zl219)
set_option maxRecDepth 100000 in
theorem pl_s33_e : ck_ok p2_OL none [] [] 81 [] 310 pl_s33 = true := by decide +kernel
theorem pl_s33_s {X : Int → Int} {LX : Nat} : ck_Ok p2_OL X LX 81 pl_s33 := ck_ok_s ⟨pl_nmu, ck_E0⟩ ck_X0 ck_l0 pl_s33_e
set_option maxRecDepth 100000 in
/-- GlacierMail$Words.isWord -/
def pl_s34 : ck_Sum := ((6, 0, 0), 249, [.inr (.inr (.inl 214)), .inr (.inr (.inr 24))], ([], [], [(214, 3, 3, (0, 400, [(12, 0)]))]), ([], []), zl218)
set_option maxRecDepth 100000 in
theorem pl_s34_e : ck_ok p2_OL none [] [] 81 [] 360 pl_s34 = true := by decide +kernel
theorem pl_s34_s {X : Int → Int} {LX : Nat} : ck_Ok p2_OL X LX 81 pl_s34 := ck_ok_s ⟨pl_nmu, ck_E0⟩ ck_X0 ck_l0 pl_s34_e
set_option maxRecDepth 100000 in
/-- GlacierMail$Words.isWord -/
def pl_s35 : ck_Sum := ((6, 0, 0), 249, [.inr (.inr (.inl 214)), .inr (.inr (.inr 25))], ([], [], [(214, 3, 3, (0, 400, [(12, 0)]))]), ([], []), zl220)
set_option maxRecDepth 100000 in
theorem pl_s35_e : ck_ok p2_OL none [] [] 81 [] 410 pl_s35 = true := by decide +kernel
theorem pl_s35_s {X : Int → Int} {LX : Nat} : ck_Ok p2_OL X LX 81 pl_s35 := ck_ok_s ⟨pl_nmu, ck_E0⟩ ck_X0 ck_l0 pl_s35_e
set_option maxRecDepth 100000 in
/-- GlacierMail$Words.isWord -/
def pl_s36 : ck_Sum := ((6, 0, 0), 249, [.inr (.inr (.inl 214)), .inr (.inr (.inr 27))], ([], [], [(214, 3, 3, (0, 400, [(12, 0)]))]), ([], []), zl219)
set_option maxRecDepth 100000 in
theorem pl_s36_e : ck_ok p2_OL none [] [] 81 [] 310 pl_s36 = true := by decide +kernel
theorem pl_s36_s {X : Int → Int} {LX : Nat} : ck_Ok p2_OL X LX 81 pl_s36 := ck_ok_s ⟨pl_nmu, ck_E0⟩ ck_X0 ck_l0 pl_s36_e
set_option maxRecDepth 100000 in
/-- GlacierMail$Words.isWord -/
def pl_s37 : ck_Sum := ((6, 0, 0), 249, [.inr (.inr (.inl 214)), .inr (.inr (.inr 28))], ([], [], [(214, 3, 3, (0, 400, [(12, 0)]))]), ([], []), zl218)
set_option maxRecDepth 100000 in
theorem pl_s37_e : ck_ok p2_OL none [] [] 81 [] 360 pl_s37 = true := by decide +kernel
theorem pl_s37_s {X : Int → Int} {LX : Nat} : ck_Ok p2_OL X LX 81 pl_s37 := ck_ok_s ⟨pl_nmu, ck_E0⟩ ck_X0 ck_l0 pl_s37_e
set_option maxRecDepth 100000 in
/-- GlacierMail$Rows.isFull -/
def pl_s38 : ck_Sum := ((0, 0, 0), 249, [.inr (.inr (.inl 25))], ([], [], []), ([], []), [(.inr (some (.inl (ck_one 0))), 249, ([], [], [(25, 3, 3, (0, 5, []))])), (.inr (some (.inl (ck_one 1))), 249, ([], [], [(25, 3, 3, ck_one 6)]))])
set_option maxRecDepth 100000 in
theorem pl_s38_e : ck_ok p2_OL none [] [] 108 [] 86 pl_s38 = true := by decide +kernel
theorem pl_s38_s {X : Int → Int} {LX : Nat} : ck_Ok p2_OL X LX 108 pl_s38 := ck_ok_s ⟨pl_nmu, ck_E0⟩ ck_X0 ck_l0 pl_s38_e
set_option maxRecDepth 100000 in
/-- GlacierMail$Rows.add -/
def pl_s39 : ck_Sum := ((0, 0, 0), 249, [.inr (.inr (.inl 25))], ([], [], []), ([(25, 3, 3)], []), [(.inr (some (.inl (0, 5, []))), 249, ([], [], [(25, 3, 3, (1, 6, []))])), (.inr (some (.inl (ck_one (-1)))), 249, ([], [], [(25, 3, 3, ck_one 6)]))])
set_option maxRecDepth 100000 in
theorem pl_s39_e : ck_ok p2_OL none [] [] 102 [] 102 pl_s39 = true := by decide +kernel
theorem pl_s39_s {X : Int → Int} {LX : Nat} : ck_Ok p2_OL X LX 102 pl_s39 := ck_ok_s ⟨pl_nmu, ck_E0⟩ ck_X0 ck_l0 pl_s39_e
set_option maxRecDepth 100000 in
/-- GlacierMail$Words.needNumber -/
def pl_s40 : ck_Sum := ((2, 0, 0), 249, [.inr (.inr (.inl 214)), .inl (ck_one 0), .inl (ck_one 20)], ([], [], [(214, 3, 3, (0, 400, [(12, 0)]))]), ([(214, 3, 7)], []), [(.inr (some (.inl (ck_one (-1)))), 249, ([], [], zl7)), (.inr (some (.inl (0, 20, []))), 249, ([], [], [(214, 3, 3, (0, 400, [(1000012, 0)]))]))])
set_option maxRecDepth 100000 in
theorem pl_s40_e : ck_ok p2_OL none [] [(93, [pl_s26]), (76, [pl_s24])] 94 [] 106 pl_s40 = true := by decide +kernel
theorem pl_s40_s {X : Int → Int} {LX : Nat} : ck_Ok p2_OL X LX 94 pl_s40 := ck_ok_s ⟨pl_nmu, ck_E1 (ck_S1 pl_s26_s ck_S0) (ck_E1 (ck_S1 pl_s24_s ck_S0) ck_E0)⟩ ck_X0 ck_l0 pl_s40_e
set_option maxRecDepth 100000 in
/-- GlacierMail$Rows.put -/
def pl_s41 : ck_Sum := ((0, 0, 0), 249, [.inr (.inr (.inl 25)), .inl (0, 5, []), .inl (0, 5, []), .inl (0, 20, [])], ([], [], []), ([(26, 0, 35)], []), [(.inr none, 249, ([], [], []))])
set_option maxRecDepth 100000 in
theorem pl_s41_e : ck_ok p2_OL none [] [] 45 [] 116 pl_s41 = true := by decide +kernel
theorem pl_s41_s {X : Int → Int} {LX : Nat} : ck_Ok p2_OL X LX 45 pl_s41 := ck_ok_s ⟨pl_nmu, ck_E0⟩ ck_X0 ck_l0 pl_s41_e
set_option maxRecDepth 100000 in
/-- GlacierMail$ValleyReader.readSpeeds -/
def pl_s42 : ck_Sum := ((3, 0, 0), 249, [.inr (.inr (.inl 213)), .inr (.inr (.inl 25)), .inl (0, 5, []), .inl (ck_one 0)], ([], [], [(214, 3, 3, (0, 400, [(12, 0)]))]), ([(26, 0, 35), (214, 3, 7)], []), zl221)
set_option maxRecDepth 100000 in
theorem pl_s42_e : ck_ok p2_OL none [] [(94, [pl_s40]), (45, [pl_s41])] 109 [(3, [some (.inr (.inr (.inl 213))), some (.inr (.inr (.inl 25))), some (.inl (0, 5, [])), some (.inl (ck_one 0)), some (.inl (0, 6, [])), none], ([], [], [(214, 3, 3, (0, 400, [(1000012, 0)]))]), 100, .inl 4, true)] 186 pl_s42 = true := by decide +kernel
theorem pl_s42_s {X : Int → Int} {LX : Nat} : ck_Ok p2_OL X LX 109 pl_s42 := ck_ok_s ⟨pl_nmu, ck_E1 (ck_S1 pl_s40_s ck_S0) (ck_E1 (ck_S1 pl_s41_s ck_S0) ck_E0)⟩ ck_X0 ck_l0 pl_s42_e
set_option maxRecDepth 100000 in
/-- GlacierMail$Rows.put -/
def pl_s43 : ck_Sum := ((0, 0, 0), 249, [.inr (.inr (.inl 25)), .inl (ck_one (-1)), .inl (0, 5, []), .inl (0, 20, [])], ([], [], []), ([], []), [(.inr none, 249, ([], [], []))])
set_option maxRecDepth 100000 in
theorem pl_s43_e : ck_ok p2_OL none [] [] 45 [] 76 pl_s43 = true := by decide +kernel
theorem pl_s43_s {X : Int → Int} {LX : Nat} : ck_Ok p2_OL X LX 45 pl_s43 := ck_ok_s ⟨pl_nmu, ck_E0⟩ ck_X0 ck_l0 pl_s43_e
set_option maxRecDepth 100000 in
/-- GlacierMail$ValleyReader.readSpeeds -/
def pl_s44 : ck_Sum := ((3, 0, 0), 249, [.inr (.inr (.inl 213)), .inr (.inr (.inl 25)), .inl (ck_one (-1)), .inl (ck_one 0)], ([], [], [(214, 3, 3, (0, 400, [(12, 0)]))]), ([(214, 3, 7)], []), zl221)
set_option maxRecDepth 100000 in
theorem pl_s44_e : ck_ok p2_OL none [] [(94, [pl_s40]), (45, [pl_s43])] 109 [(3, [some (.inr (.inr (.inl 213))), some (.inr (.inr (.inl 25))), some (.inl (ck_one (-1))), some (.inl (ck_one 0)), some (.inl (0, 6, [])), none], ([], [], [(214, 3, 3, (0, 400, [(1000012, 0)]))]), 100, .inl 4, true)] 186 pl_s44 = true := by decide +kernel
theorem pl_s44_s {X : Int → Int} {LX : Nat} : ck_Ok p2_OL X LX 109 pl_s44 := ck_ok_s ⟨pl_nmu, ck_E1 (ck_S1 pl_s40_s ck_S0) (ck_E1 (ck_S1 pl_s43_s ck_S0) ck_E0)⟩ ck_X0 ck_l0 pl_s44_e
set_option maxRecDepth 100000 in
/-- GlacierMail$ValleyReader.readTable -/
def pl_s45 : ck_Sum := ((4, 0, 0), 249, [.inr (.inr (.inl 213))], ([], [], [(214, 3, 3, (0, 400, [(12, 0)]))]), ([(25, 3, 3), (26, 0, 35), (214, 3, 7)], []), [(.inr (some (.inl (ck_one 1))), 249, ([], [], zl9)), (.inr (some (.inl (ck_one 0))), 249, ([], [], zl10))])
set_option maxRecDepth 100000 in
theorem pl_s45_e : ck_ok p2_OL none [] [(108, [pl_s38]), (76, [pl_s24]), (102, [pl_s39]), (109, [pl_s42, pl_s44]), (93, [pl_s26])] 120 [] 108 pl_s45 = true := by decide +kernel
theorem pl_s45_s {X : Int → Int} {LX : Nat} : ck_Ok p2_OL X LX 120 pl_s45 := ck_ok_s ⟨pl_nmu, ck_E1 (ck_S1 pl_s38_s ck_S0) (ck_E1 (ck_S1 pl_s24_s ck_S0) (ck_E1 (ck_S1 pl_s39_s ck_S0) (ck_E1 (ck_S1 pl_s42_s (ck_S1 pl_s44_s ck_S0)) (ck_E1 (ck_S1 pl_s26_s ck_S0) ck_E0))))⟩ ck_X0 ck_l0 pl_s45_e
set_option maxRecDepth 100000 in
/-- GlacierMail$Rows.isFull -/
def pl_s46 : ck_Sum := ((0, 0, 0), 249, [.inr (.inr (.inl 23))], ([], [], []), ([], []), [(.inr (some (.inl (ck_one 0))), 249, ([], [], [(23, 3, 3, (0, 23, []))])), (.inr (some (.inl (ck_one 1))), 249, ([], [], [(23, 3, 3, ck_one 24)]))])
set_option maxRecDepth 100000 in
theorem pl_s46_e : ck_ok p2_OL none [] [] 108 [] 86 pl_s46 = true := by decide +kernel
theorem pl_s46_s {X : Int → Int} {LX : Nat} : ck_Ok p2_OL X LX 108 pl_s46 := ck_ok_s ⟨pl_nmu, ck_E0⟩ ck_X0 ck_l0 pl_s46_e
set_option maxRecDepth 100000 in
/-- GlacierMail$Words.needNumber -/
def pl_s47 : ck_Sum := ((2, 0, 0), 249, [.inr (.inr (.inl 214)), .inl (ck_one 0), .inl (0, 5, [])], ([], [], [(214, 3, 3, (0, 400, [(12, 0)]))]), ([(214, 3, 7)], []), zl222)
set_option maxRecDepth 100000 in
theorem pl_s47_e : ck_ok p2_OL none [] [(93, [pl_s26]), (76, [pl_s24])] 94 [] 106 pl_s47 = true := by decide +kernel
theorem pl_s47_s {X : Int → Int} {LX : Nat} : ck_Ok p2_OL X LX 94 pl_s47 := ck_ok_s ⟨pl_nmu, ck_E1 (ck_S1 pl_s26_s ck_S0) (ck_E1 (ck_S1 pl_s24_s ck_S0) ck_E0)⟩ ck_X0 ck_l0 pl_s47_e
set_option maxRecDepth 100000 in
/-- GlacierMail$ValleyReader.readLane -/
def pl_s48 : ck_Sum := ((3, 0, 0), 249, [.inr (.inr (.inl 213))], ([], [], [(214, 3, 3, (0, 400, [(12, 0)]))]), ([(214, 3, 7)], []), zl222)
set_option maxRecDepth 100000 in
theorem pl_s48_e : ck_ok p2_OL none [] [(94, [pl_s47])] 117 [] 90 pl_s48 = true := by decide +kernel
theorem pl_s48_s {X : Int → Int} {LX : Nat} : ck_Ok p2_OL X LX 117 pl_s48 := ck_ok_s ⟨pl_nmu, ck_E1 (ck_S1 pl_s47_s ck_S0) ck_E0⟩ ck_X0 ck_l0 pl_s48_e
set_option maxRecDepth 100000 in
/-- GlacierMail$Words.needNumber -/
def pl_s49 : ck_Sum := ((2, 0, 0), 249, [.inr (.inr (.inl 214)), .inl (ck_one 0), .inl (9, 98, [])], ([], [], [(214, 3, 3, (0, 400, [(12, 0)]))]), ([(214, 3, 7)], []), zl223)
set_option maxRecDepth 100000 in
theorem pl_s49_e : ck_ok p2_OL none [] [(93, [pl_s26]), (76, [pl_s24])] 94 [] 106 pl_s49 = true := by decide +kernel
theorem pl_s49_s {X : Int → Int} {LX : Nat} : ck_Ok p2_OL X LX 94 pl_s49 := ck_ok_s ⟨pl_nmu, ck_E1 (ck_S1 pl_s26_s ck_S0) (ck_E1 (ck_S1 pl_s24_s ck_S0) ck_E0)⟩ ck_X0 ck_l0 pl_s49_e
set_option maxRecDepth 100000 in
/-- GlacierMail$ValleyReader.readRow -/
def pl_s50 : ck_Sum := ((3, 0, 0), 249, [.inr (.inr (.inl 213))], ([], [], [(214, 3, 3, (0, 400, [(12, 0)]))]), ([(214, 3, 7)], []), zl223)
set_option maxRecDepth 100000 in
theorem pl_s50_e : ck_ok p2_OL none [] [(94, [pl_s49])] 111 [] 90 pl_s50 = true := by decide +kernel
theorem pl_s50_s {X : Int → Int} {LX : Nat} : ck_Ok p2_OL X LX 111 pl_s50 := ck_ok_s ⟨pl_nmu, ck_E1 (ck_S1 pl_s49_s ck_S0) ck_E0⟩ ck_X0 ck_l0 pl_s50_e
set_option maxRecDepth 100000 in
/-- GlacierMail$Rows.add -/
def pl_s51 : ck_Sum := ((0, 0, 0), 249, [.inr (.inr (.inl 23))], ([], [], []), ([(23, 3, 3)], []), zl224)
set_option maxRecDepth 100000 in
theorem pl_s51_e : ck_ok p2_OL none [] [] 102 [] 102 pl_s51 = true := by decide +kernel
theorem pl_s51_s {X : Int → Int} {LX : Nat} : ck_Ok p2_OL X LX 102 pl_s51 := ck_ok_s ⟨pl_nmu, ck_E0⟩ ck_X0 ck_l0 pl_s51_e
set_option maxRecDepth 100000 in
/-- GlacierMail$Rows.put -/
def pl_s52 : ck_Sum := ((0, 0, 0), 249, [.inr (.inr (.inl 23)), .inl (0, 23, []), .inl (ck_one 0), .inl (ck_one (-1))], ([], [], []), (zl14, []), [(.inr none, 249, ([], [], []))])
set_option maxRecDepth 100000 in
theorem pl_s52_e : ck_ok p2_OL none [] [] 45 [] 116 pl_s52 = true := by decide +kernel
theorem pl_s52_s {X : Int → Int} {LX : Nat} : ck_Ok p2_OL X LX 45 pl_s52 := ck_ok_s ⟨pl_nmu, ck_E0⟩ ck_X0 ck_l0 pl_s52_e
set_option maxRecDepth 100000 in
/-- GlacierMail$Rows.put -/
def pl_s53 : ck_Sum := ((0, 0, 0), 249, [.inr (.inr (.inl 23)), .inl (0, 23, []), .inl (ck_one 1), .inl (ck_one (-1))], ([], [], []), (zl15, []), [(.inr none, 249, ([], [], []))])
set_option maxRecDepth 100000 in
theorem pl_s53_e : ck_ok p2_OL none [] [] 45 [] 116 pl_s53 = true := by decide +kernel
theorem pl_s53_s {X : Int → Int} {LX : Nat} : ck_Ok p2_OL X LX 45 pl_s53 := ck_ok_s ⟨pl_nmu, ck_E0⟩ ck_X0 ck_l0 pl_s53_e
set_option maxRecDepth 100000 in
/-- GlacierMail$Rows.put -/
def pl_s54 : ck_Sum := ((0, 0, 0), 249, [.inr (.inr (.inl 23)), .inl (0, 23, []), .inl (ck_one 2), .inl (0, 5, [])], ([], [], []), (zl16, []), [(.inr none, 249, ([], [], []))])
set_option maxRecDepth 100000 in
theorem pl_s54_e : ck_ok p2_OL none [] [] 45 [] 116 pl_s54 = true := by decide +kernel
theorem pl_s54_s {X : Int → Int} {LX : Nat} : ck_Ok p2_OL X LX 45 pl_s54 := ck_ok_s ⟨pl_nmu, ck_E0⟩ ck_X0 ck_l0 pl_s54_e
set_option maxRecDepth 100000 in
/-- GlacierMail$Rows.put -/
def pl_s55 : ck_Sum := ((0, 0, 0), 249, [.inr (.inr (.inl 23)), .inl (0, 23, []), .inl (ck_one 3), .inl (0, 299, [])], ([], [], []), (zl17, []), [(.inr none, 249, ([], [], []))])
set_option maxRecDepth 100000 in
theorem pl_s55_e : ck_ok p2_OL none [] [] 45 [] 116 pl_s55 = true := by decide +kernel
theorem pl_s55_s {X : Int → Int} {LX : Nat} : ck_Ok p2_OL X LX 45 pl_s55 := ck_ok_s ⟨pl_nmu, ck_E0⟩ ck_X0 ck_l0 pl_s55_e
set_option maxRecDepth 100000 in
/-- GlacierMail$Rows.put -/
def pl_s56 : ck_Sum := ((0, 0, 0), 249, [.inr (.inr (.inl 23)), .inl (0, 23, []), .inl (ck_one 4), .inl (0, 98, [])], ([], [], []), (zl18, []), [(.inr none, 249, ([], [], []))])
set_option maxRecDepth 100000 in
theorem pl_s56_e : ck_ok p2_OL none [] [] 45 [] 116 pl_s56 = true := by decide +kernel
theorem pl_s56_s {X : Int → Int} {LX : Nat} : ck_Ok p2_OL X LX 45 pl_s56 := ck_ok_s ⟨pl_nmu, ck_E0⟩ ck_X0 ck_l0 pl_s56_e
set_option maxRecDepth 100000 in
/-- GlacierMail$Rows.put -/
def pl_s57 : ck_Sum := ((0, 0, 0), 249, [.inr (.inr (.inl 23)), .inl (0, 23, []), .inl (ck_one 5), .inl (ck_one (-1))], ([], [], []), (zl19, []), [(.inr none, 249, ([], [], []))])
set_option maxRecDepth 100000 in
theorem pl_s57_e : ck_ok p2_OL none [] [] 45 [] 116 pl_s57 = true := by decide +kernel
theorem pl_s57_s {X : Int → Int} {LX : Nat} : ck_Ok p2_OL X LX 45 pl_s57 := ck_ok_s ⟨pl_nmu, ck_E0⟩ ck_X0 ck_l0 pl_s57_e
set_option maxRecDepth 100000 in
/-- GlacierMail$Rows.put -/
def pl_s58 : ck_Sum := ((0, 0, 0), 249, [.inr (.inr (.inl 23)), .inl (0, 23, []), .inl (ck_one 6), .inl (ck_one (-1))], ([], [], []), (zl20, []), [(.inr none, 249, ([], [], []))])
set_option maxRecDepth 100000 in
theorem pl_s58_e : ck_ok p2_OL none [] [] 45 [] 116 pl_s58 = true := by decide +kernel
theorem pl_s58_s {X : Int → Int} {LX : Nat} : ck_Ok p2_OL X LX 45 pl_s58 := ck_ok_s ⟨pl_nmu, ck_E0⟩ ck_X0 ck_l0 pl_s58_e
set_option maxRecDepth 100000 in
/-- GlacierMail$Rows.put -/
def pl_s59 : ck_Sum := ((0, 0, 0), 249, [.inr (.inr (.inl 23)), .inl (ck_one (-1)), .inl (ck_one 0), .inl (ck_one (-1))], ([], [], []), ([], []), [(.inr none, 249, ([], [], []))])
set_option maxRecDepth 100000 in
theorem pl_s59_e : ck_ok p2_OL none [] [] 45 [] 76 pl_s59 = true := by decide +kernel
theorem pl_s59_s {X : Int → Int} {LX : Nat} : ck_Ok p2_OL X LX 45 pl_s59 := ck_ok_s ⟨pl_nmu, ck_E0⟩ ck_X0 ck_l0 pl_s59_e
set_option maxRecDepth 100000 in
/-- GlacierMail$Rows.put -/
def pl_s60 : ck_Sum := ((0, 0, 0), 249, [.inr (.inr (.inl 23)), .inl (ck_one (-1)), .inl (ck_one 1), .inl (ck_one (-1))], ([], [], []), ([], []), [(.inr none, 249, ([], [], []))])
set_option maxRecDepth 100000 in
theorem pl_s60_e : ck_ok p2_OL none [] [] 45 [] 76 pl_s60 = true := by decide +kernel
theorem pl_s60_s {X : Int → Int} {LX : Nat} : ck_Ok p2_OL X LX 45 pl_s60 := ck_ok_s ⟨pl_nmu, ck_E0⟩ ck_X0 ck_l0 pl_s60_e
set_option maxRecDepth 100000 in
/-- GlacierMail$Rows.put -/
def pl_s61 : ck_Sum := ((0, 0, 0), 249, [.inr (.inr (.inl 23)), .inl (ck_one (-1)), .inl (ck_one 2), .inl (0, 5, [])], ([], [], []), ([], []), [(.inr none, 249, ([], [], []))])
set_option maxRecDepth 100000 in
theorem pl_s61_e : ck_ok p2_OL none [] [] 45 [] 76 pl_s61 = true := by decide +kernel
theorem pl_s61_s {X : Int → Int} {LX : Nat} : ck_Ok p2_OL X LX 45 pl_s61 := ck_ok_s ⟨pl_nmu, ck_E0⟩ ck_X0 ck_l0 pl_s61_e
set_option maxRecDepth 100000 in
/-- GlacierMail$Rows.put -/
def pl_s62 : ck_Sum := ((0, 0, 0), 249, [.inr (.inr (.inl 23)), .inl (ck_one (-1)), .inl (ck_one 3), .inl (0, 299, [])], ([], [], []), ([], []), [(.inr none, 249, ([], [], []))])
set_option maxRecDepth 100000 in
theorem pl_s62_e : ck_ok p2_OL none [] [] 45 [] 76 pl_s62 = true := by decide +kernel
theorem pl_s62_s {X : Int → Int} {LX : Nat} : ck_Ok p2_OL X LX 45 pl_s62 := ck_ok_s ⟨pl_nmu, ck_E0⟩ ck_X0 ck_l0 pl_s62_e
set_option maxRecDepth 100000 in
/-- GlacierMail$Rows.put -/
def pl_s63 : ck_Sum := ((0, 0, 0), 249, [.inr (.inr (.inl 23)), .inl (ck_one (-1)), .inl (ck_one 4), .inl (0, 98, [])], ([], [], []), ([], []), [(.inr none, 249, ([], [], []))])
set_option maxRecDepth 100000 in
theorem pl_s63_e : ck_ok p2_OL none [] [] 45 [] 76 pl_s63 = true := by decide +kernel
theorem pl_s63_s {X : Int → Int} {LX : Nat} : ck_Ok p2_OL X LX 45 pl_s63 := ck_ok_s ⟨pl_nmu, ck_E0⟩ ck_X0 ck_l0 pl_s63_e
set_option maxRecDepth 100000 in
/-- GlacierMail$Rows.put -/
def pl_s64 : ck_Sum := ((0, 0, 0), 249, [.inr (.inr (.inl 23)), .inl (ck_one (-1)), .inl (ck_one 5), .inl (ck_one (-1))], ([], [], []), ([], []), [(.inr none, 249, ([], [], []))])
set_option maxRecDepth 100000 in
theorem pl_s64_e : ck_ok p2_OL none [] [] 45 [] 76 pl_s64 = true := by decide +kernel
theorem pl_s64_s {X : Int → Int} {LX : Nat} : ck_Ok p2_OL X LX 45 pl_s64 := ck_ok_s ⟨pl_nmu, ck_E0⟩ ck_X0 ck_l0 pl_s64_e
set_option maxRecDepth 100000 in
/-- GlacierMail$Rows.put -/
def pl_s65 : ck_Sum := ((0, 0, 0), 249, [.inr (.inr (.inl 23)), .inl (ck_one (-1)), .inl (ck_one 6), .inl (ck_one (-1))], ([], [], []), ([], []), [(.inr none, 249, ([], [], []))])
set_option maxRecDepth 100000 in
theorem pl_s65_e : ck_ok p2_OL none [] [] 45 [] 76 pl_s65 = true := by decide +kernel
theorem pl_s65_s {X : Int → Int} {LX : Nat} : ck_Ok p2_OL X LX 45 pl_s65 := ck_ok_s ⟨pl_nmu, ck_E0⟩ ck_X0 ck_l0 pl_s65_e
set_option maxRecDepth 100000 in
/-- GlacierMail$State.throwIn -/
def pl_s66 : ck_Sum := ((1, 0, 0), 249, [.inr (.inr (.inl 16)), .inl (ck_one (-1)), .inl (ck_one (-1)), .inl (0, 5, []), .inl (0, 98, [])], ([], [], []), ([(23, 3, 3), (24, 0, 167)], []), zl224)
set_option maxRecDepth 100000 in
theorem pl_s66_e : ck_ok p2_OL none [] [(102, [pl_s51]), (45, [pl_s52, pl_s53, pl_s54, pl_s55, pl_s56, pl_s57, pl_s58, pl_s59, pl_s60, pl_s61, pl_s62, pl_s63, pl_s64, pl_s65])] 119 [] 168 pl_s66 = true := by decide +kernel
theorem pl_s66_s {X : Int → Int} {LX : Nat} : ck_Ok p2_OL X LX 119 pl_s66 := ck_ok_s ⟨pl_nmu, ck_E1 (ck_S1 pl_s51_s ck_S0) (ck_E1 (ck_S1 pl_s52_s (ck_S1 pl_s53_s (ck_S1 pl_s54_s (ck_S1 pl_s55_s (ck_S1 pl_s56_s (ck_S1 pl_s57_s (ck_S1 pl_s58_s (ck_S1 pl_s59_s (ck_S1 pl_s60_s (ck_S1 pl_s61_s (ck_S1 pl_s62_s (ck_S1 pl_s63_s (ck_S1 pl_s64_s (ck_S1 pl_s65_s ck_S0)))))))))))))) ck_E0)⟩ ck_X0 ck_l0 pl_s66_e
set_option maxRecDepth 100000 in
/-- GlacierMail$ValleyReader.readRock -/
def pl_s67 : ck_Sum := ((4, 0, 0), 249, [.inr (.inr (.inl 213))], ([], [], [(214, 3, 3, (0, 400, [(12, 0)]))]), ([(23, 3, 3), (24, 0, 167), (214, 3, 7)], []), [(.inr (some (.inl (ck_one 0))), 249, ([], [], zl21)), (.inr (some (.inl (ck_one 1))), 249, ([], [], zl22))])
set_option maxRecDepth 100000 in
theorem pl_s67_e : ck_ok p2_OL none [] [(108, [pl_s46]), (76, [pl_s24]), (117, [pl_s48]), (111, [pl_s50]), (119, [pl_s66]), (93, [pl_s26])] 118 [] 130 pl_s67 = true := by decide +kernel
theorem pl_s67_s {X : Int → Int} {LX : Nat} : ck_Ok p2_OL X LX 118 pl_s67 := ck_ok_s ⟨pl_nmu, ck_E1 (ck_S1 pl_s46_s ck_S0) (ck_E1 (ck_S1 pl_s24_s ck_S0) (ck_E1 (ck_S1 pl_s48_s ck_S0) (ck_E1 (ck_S1 pl_s50_s ck_S0) (ck_E1 (ck_S1 pl_s66_s ck_S0) (ck_E1 (ck_S1 pl_s26_s ck_S0) ck_E0)))))⟩ ck_X0 ck_l0 pl_s67_e
set_option maxRecDepth 100000 in
/-- GlacierMail$Rows.isFull -/
def pl_s68 : ck_Sum := ((0, 0, 0), 249, [.inr (.inr (.inl 21))], ([], [], []), ([], []), [(.inr (some (.inl (ck_one 0))), 249, ([], [], [(21, 3, 3, (0, 7, []))])), (.inr (some (.inl (ck_one 1))), 249, ([], [], [(21, 3, 3, ck_one 8)]))])
set_option maxRecDepth 100000 in
theorem pl_s68_e : ck_ok p2_OL none [] [] 108 [] 86 pl_s68 = true := by decide +kernel
theorem pl_s68_s {X : Int → Int} {LX : Nat} : ck_Ok p2_OL X LX 108 pl_s68 := ck_ok_s ⟨pl_nmu, ck_E0⟩ ck_X0 ck_l0 pl_s68_e
set_option maxRecDepth 100000 in
/-- GlacierMail$Words.isWord -/
def pl_s69 : ck_Sum := ((6, 0, 0), 249, [.inr (.inr (.inl 214)), .inr (.inr (.inr 26))], ([], [], [(214, 3, 3, (0, 400, [(12, 0)]))]), ([], []), zl218)
set_option maxRecDepth 100000 in
theorem pl_s69_e : ck_ok p2_OL none [] [] 81 [] 360 pl_s69 = true := by decide +kernel
theorem pl_s69_s {X : Int → Int} {LX : Nat} : ck_Ok p2_OL X LX 81 pl_s69 := ck_ok_s ⟨pl_nmu, ck_E0⟩ ck_X0 ck_l0 pl_s69_e
set_option maxRecDepth 100000 in
/-- GlacierMail$Words.takeWord -/
def pl_s70 : ck_Sum := ((7, 0, 0), 249, [.inr (.inr (.inl 214)), .inr (.inr (.inr 26))], ([], [], [(214, 3, 3, (0, 400, [(12, 0)]))]), ([(214, 3, 4), (214, 6, 7)], []), [(.inr (some (.inl (ck_one 0))), 249, ([], [], [(214, 3, 3, (0, 400, [(12, 0)]))])), (.inr (some (.inl (ck_one 1))), 249, ([], [], [(214, 3, 3, (5, 400, [(1000012, 0)]))]))])
set_option maxRecDepth 100000 in
theorem pl_s70_e : ck_ok p2_OL none [] [(81, [pl_s69]), (76, [pl_s24])] 95 [] 90 pl_s70 = true := by decide +kernel
theorem pl_s70_s {X : Int → Int} {LX : Nat} : ck_Ok p2_OL X LX 95 pl_s70 := ck_ok_s ⟨pl_nmu, ck_E1 (ck_S1 pl_s69_s ck_S0) (ck_E1 (ck_S1 pl_s24_s ck_S0) ck_E0)⟩ ck_X0 ck_l0 pl_s70_e
set_option maxRecDepth 100000 in
/-- GlacierMail$Rows.add -/
def pl_s71 : ck_Sum := ((0, 0, 0), 249, [.inr (.inr (.inl 21))], ([], [], []), ([(21, 3, 3)], []), [(.inr (some (.inl (0, 7, []))), 249, ([], [], [(21, 3, 3, (1, 8, []))])), (.inr (some (.inl (ck_one (-1)))), 249, ([], [], [(21, 3, 3, ck_one 8)]))])
set_option maxRecDepth 100000 in
theorem pl_s71_e : ck_ok p2_OL none [] [] 102 [] 102 pl_s71 = true := by decide +kernel
theorem pl_s71_s {X : Int → Int} {LX : Nat} : ck_Ok p2_OL X LX 102 pl_s71 := ck_ok_s ⟨pl_nmu, ck_E0⟩ ck_X0 ck_l0 pl_s71_e
set_option maxRecDepth 100000 in
/-- GlacierMail$Rows.put -/
def pl_s72 : ck_Sum := ((0, 0, 0), 249, [.inr (.inr (.inl 21)), .inl (0, 7, []), .inl (ck_one 0), .inl (0, 5, [])], ([], [], []), (zl23, []), [(.inr none, 249, ([], [], []))])
set_option maxRecDepth 100000 in
theorem pl_s72_e : ck_ok p2_OL none [] [] 45 [] 116 pl_s72 = true := by decide +kernel
theorem pl_s72_s {X : Int → Int} {LX : Nat} : ck_Ok p2_OL X LX 45 pl_s72 := ck_ok_s ⟨pl_nmu, ck_E0⟩ ck_X0 ck_l0 pl_s72_e
set_option maxRecDepth 100000 in
/-- GlacierMail$Rows.put -/
def pl_s73 : ck_Sum := ((0, 0, 0), 249, [.inr (.inr (.inl 21)), .inl (0, 7, []), .inl (ck_one 1), .inl (0, 98, [])], ([], [], []), (zl24, []), [(.inr none, 249, ([], [], []))])
set_option maxRecDepth 100000 in
theorem pl_s73_e : ck_ok p2_OL none [] [] 45 [] 116 pl_s73 = true := by decide +kernel
theorem pl_s73_s {X : Int → Int} {LX : Nat} : ck_Ok p2_OL X LX 45 pl_s73 := ck_ok_s ⟨pl_nmu, ck_E0⟩ ck_X0 ck_l0 pl_s73_e
set_option maxRecDepth 100000 in
/-- GlacierMail$Rows.put -/
def pl_s74 : ck_Sum := ((0, 0, 0), 249, [.inr (.inr (.inl 21)), .inl (0, 7, []), .inl (ck_one 2), .inl (ck_one (-1))], ([], [], []), (zl25, []), [(.inr none, 249, ([], [], []))])
set_option maxRecDepth 100000 in
theorem pl_s74_e : ck_ok p2_OL none [] [] 45 [] 116 pl_s74 = true := by decide +kernel
theorem pl_s74_s {X : Int → Int} {LX : Nat} : ck_Ok p2_OL X LX 45 pl_s74 := ck_ok_s ⟨pl_nmu, ck_E0⟩ ck_X0 ck_l0 pl_s74_e
set_option maxRecDepth 100000 in
/-- GlacierMail$Rows.put -/
def pl_s75 : ck_Sum := ((0, 0, 0), 249, [.inr (.inr (.inl 21)), .inl (ck_one (-1)), .inl (ck_one 0), .inl (0, 5, [])], ([], [], []), ([], []), [(.inr none, 249, ([], [], []))])
set_option maxRecDepth 100000 in
theorem pl_s75_e : ck_ok p2_OL none [] [] 45 [] 76 pl_s75 = true := by decide +kernel
theorem pl_s75_s {X : Int → Int} {LX : Nat} : ck_Ok p2_OL X LX 45 pl_s75 := ck_ok_s ⟨pl_nmu, ck_E0⟩ ck_X0 ck_l0 pl_s75_e
set_option maxRecDepth 100000 in
/-- GlacierMail$Rows.put -/
def pl_s76 : ck_Sum := ((0, 0, 0), 249, [.inr (.inr (.inl 21)), .inl (ck_one (-1)), .inl (ck_one 1), .inl (0, 98, [])], ([], [], []), ([], []), [(.inr none, 249, ([], [], []))])
set_option maxRecDepth 100000 in
theorem pl_s76_e : ck_ok p2_OL none [] [] 45 [] 76 pl_s76 = true := by decide +kernel
theorem pl_s76_s {X : Int → Int} {LX : Nat} : ck_Ok p2_OL X LX 45 pl_s76 := ck_ok_s ⟨pl_nmu, ck_E0⟩ ck_X0 ck_l0 pl_s76_e
set_option maxRecDepth 100000 in
/-- GlacierMail$Rows.put -/
def pl_s77 : ck_Sum := ((0, 0, 0), 249, [.inr (.inr (.inl 21)), .inl (ck_one (-1)), .inl (ck_one 2), .inl (ck_one (-1))], ([], [], []), ([], []), [(.inr none, 249, ([], [], []))])
set_option maxRecDepth 100000 in
theorem pl_s77_e : ck_ok p2_OL none [] [] 45 [] 76 pl_s77 = true := by decide +kernel
theorem pl_s77_s {X : Int → Int} {LX : Nat} : ck_Ok p2_OL X LX 45 pl_s77 := ck_ok_s ⟨pl_nmu, ck_E0⟩ ck_X0 ck_l0 pl_s77_e
set_option maxRecDepth 100000 in
/-- GlacierMail$Rows.put -/
def pl_s78 : ck_Sum := ((0, 0, 0), 249, [.inr (.inr (.inl 21)), .inl (0, 7, []), .inl (ck_one 2), .inl (0, 5, [])], ([], [], []), (zl25, []), [(.inr none, 249, ([], [], []))])
set_option maxRecDepth 100000 in
theorem pl_s78_e : ck_ok p2_OL none [] [] 45 [] 116 pl_s78 = true := by decide +kernel
theorem pl_s78_s {X : Int → Int} {LX : Nat} : ck_Ok p2_OL X LX 45 pl_s78 := ck_ok_s ⟨pl_nmu, ck_E0⟩ ck_X0 ck_l0 pl_s78_e
set_option maxRecDepth 100000 in
/-- GlacierMail$Rows.put -/
def pl_s79 : ck_Sum := ((0, 0, 0), 249, [.inr (.inr (.inl 21)), .inl (ck_one (-1)), .inl (ck_one 2), .inl (0, 5, [])], ([], [], []), ([], []), [(.inr none, 249, ([], [], []))])
set_option maxRecDepth 100000 in
theorem pl_s79_e : ck_ok p2_OL none [] [] 45 [] 76 pl_s79 = true := by decide +kernel
theorem pl_s79_s {X : Int → Int} {LX : Nat} : ck_Ok p2_OL X LX 45 pl_s79 := ck_ok_s ⟨pl_nmu, ck_E0⟩ ck_X0 ck_l0 pl_s79_e
set_option maxRecDepth 100000 in
/-- GlacierMail$ValleyReader.readPerson -/
def pl_s80 : ck_Sum := ((8, 0, 0), 249, [.inr (.inr (.inl 213))], ([], [], [(214, 3, 3, (0, 400, [(12, 0)]))]), ([(21, 3, 3), (22, 0, 23), (214, 3, 7)], []), [(.inr (some (.inl (ck_one 0))), 249, ([], [], zl21)), (.inr (some (.inl (ck_one 1))), 249, ([], [], zl26))])
set_option maxRecDepth 100000 in
theorem pl_s80_e : ck_ok p2_OL none [] [(108, [pl_s68]), (76, [pl_s24]), (117, [pl_s48]), (111, [pl_s50]), (95, [pl_s70]), (102, [pl_s71]), (45, [pl_s72, pl_s73, pl_s74, pl_s75, pl_s76, pl_s77, pl_s78, pl_s79]), (93, [pl_s26])] 116 [] 192 pl_s80 = true := by decide +kernel
theorem pl_s80_s {X : Int → Int} {LX : Nat} : ck_Ok p2_OL X LX 116 pl_s80 := ck_ok_s ⟨pl_nmu, ck_E1 (ck_S1 pl_s68_s ck_S0) (ck_E1 (ck_S1 pl_s24_s ck_S0) (ck_E1 (ck_S1 pl_s48_s ck_S0) (ck_E1 (ck_S1 pl_s50_s ck_S0) (ck_E1 (ck_S1 pl_s70_s ck_S0) (ck_E1 (ck_S1 pl_s71_s ck_S0) (ck_E1 (ck_S1 pl_s72_s (ck_S1 pl_s73_s (ck_S1 pl_s74_s (ck_S1 pl_s75_s (ck_S1 pl_s76_s (ck_S1 pl_s77_s (ck_S1 pl_s78_s (ck_S1 pl_s79_s ck_S0)))))))) (ck_E1 (ck_S1 pl_s26_s ck_S0) ck_E0)))))))⟩ ck_X0 ck_l0 pl_s80_e
set_option maxRecDepth 100000 in
/-- GlacierMail$Rows.isFull -/
def pl_s81 : ck_Sum := ((0, 0, 0), 249, [.inr (.inr (.inl 19))], ([], [], []), ([], []), [(.inr (some (.inl (ck_one 0))), 249, ([], [], [(19, 3, 3, (0, 7, []))])), (.inr (some (.inl (ck_one 1))), 249, ([], [], [(19, 3, 3, ck_one 8)]))])
set_option maxRecDepth 100000 in
theorem pl_s81_e : ck_ok p2_OL none [] [] 108 [] 86 pl_s81 = true := by decide +kernel
theorem pl_s81_s {X : Int → Int} {LX : Nat} : ck_Ok p2_OL X LX 108 pl_s81 := ck_ok_s ⟨pl_nmu, ck_E0⟩ ck_X0 ck_l0 pl_s81_e
set_option maxRecDepth 100000 in
/-- GlacierMail$Words.needNumber -/
def pl_s82 : ck_Sum := ((2, 0, 0), 249, [.inr (.inr (.inl 214)), .inl (0, 299, []), .inl (ck_one 299)], ([], [], [(214, 3, 3, (0, 400, [(12, 0)]))]), ([(214, 3, 7)], []), [(.inr (some (.inl (ck_one (-1)))), 249, ([], [], zl7)), (.inr (some (.inl (0, 299, []))), 249, ([], [], [(214, 3, 3, (0, 400, [(1000012, 0)]))]))])
set_option maxRecDepth 100000 in
theorem pl_s82_e : ck_ok p2_OL none [] [(93, [pl_s26]), (76, [pl_s24])] 94 [] 106 pl_s82 = true := by decide +kernel
theorem pl_s82_s {X : Int → Int} {LX : Nat} : ck_Ok p2_OL X LX 94 pl_s82 := ck_ok_s ⟨pl_nmu, ck_E1 (ck_S1 pl_s26_s ck_S0) (ck_E1 (ck_S1 pl_s24_s ck_S0) ck_E0)⟩ ck_X0 ck_l0 pl_s82_e
set_option maxRecDepth 100000 in
/-- GlacierMail$Words.needNumber -/
def pl_s83 : ck_Sum := ((2, 0, 0), 249, [.inr (.inr (.inl 214)), .inl (ck_one 1), .inl (ck_one 20)], ([], [], [(214, 3, 3, (0, 400, [(12, 0)]))]), ([(214, 3, 7)], []), [(.inr (some (.inl (ck_one (-1)))), 249, ([], [], zl7)), (.inr (some (.inl (1, 20, []))), 249, ([], [], [(214, 3, 3, (0, 400, [(1000012, 0)]))]))])
set_option maxRecDepth 100000 in
theorem pl_s83_e : ck_ok p2_OL none [] [(93, [pl_s26]), (76, [pl_s24])] 94 [] 106 pl_s83 = true := by decide +kernel
theorem pl_s83_s {X : Int → Int} {LX : Nat} : ck_Ok p2_OL X LX 94 pl_s83 := ck_ok_s ⟨pl_nmu, ck_E1 (ck_S1 pl_s26_s ck_S0) (ck_E1 (ck_S1 pl_s24_s ck_S0) ck_E0)⟩ ck_X0 ck_l0 pl_s83_e
set_option maxRecDepth 100000 in
/-- GlacierMail$Rows.add -/
def pl_s84 : ck_Sum := ((0, 0, 0), 249, [.inr (.inr (.inl 19))], ([], [], []), ([(19, 3, 3)], []), [(.inr (some (.inl (0, 7, []))), 249, ([], [], [(19, 3, 3, (1, 8, []))])), (.inr (some (.inl (ck_one (-1)))), 249, ([], [], [(19, 3, 3, ck_one 8)]))])
set_option maxRecDepth 100000 in
theorem pl_s84_e : ck_ok p2_OL none [] [] 102 [] 102 pl_s84 = true := by decide +kernel
theorem pl_s84_s {X : Int → Int} {LX : Nat} : ck_Ok p2_OL X LX 102 pl_s84 := ck_ok_s ⟨pl_nmu, ck_E0⟩ ck_X0 ck_l0 pl_s84_e
set_option maxRecDepth 100000 in
/-- GlacierMail$Rows.put -/
def pl_s85 : ck_Sum := ((0, 0, 0), 249, [.inr (.inr (.inl 19)), .inl (0, 7, []), .inl (ck_one 0), .inl (0, 299, [])], ([], [], []), (zl27, []), [(.inr none, 249, ([], [], []))])
set_option maxRecDepth 100000 in
theorem pl_s85_e : ck_ok p2_OL none [] [] 45 [] 116 pl_s85 = true := by decide +kernel
theorem pl_s85_s {X : Int → Int} {LX : Nat} : ck_Ok p2_OL X LX 45 pl_s85 := ck_ok_s ⟨pl_nmu, ck_E0⟩ ck_X0 ck_l0 pl_s85_e
set_option maxRecDepth 100000 in
/-- GlacierMail$Rows.put -/
def pl_s86 : ck_Sum := ((0, 0, 0), 249, [.inr (.inr (.inl 19)), .inl (0, 7, []), .inl (ck_one 1), .inl (0, 98, [])], ([], [], []), (zl28, []), [(.inr none, 249, ([], [], []))])
set_option maxRecDepth 100000 in
theorem pl_s86_e : ck_ok p2_OL none [] [] 45 [] 116 pl_s86 = true := by decide +kernel
theorem pl_s86_s {X : Int → Int} {LX : Nat} : ck_Ok p2_OL X LX 45 pl_s86 := ck_ok_s ⟨pl_nmu, ck_E0⟩ ck_X0 ck_l0 pl_s86_e
set_option maxRecDepth 100000 in
/-- GlacierMail$Rows.put -/
def pl_s87 : ck_Sum := ((0, 0, 0), 249, [.inr (.inr (.inl 19)), .inl (0, 7, []), .inl (ck_one 2), .inl (1, 20, [])], ([], [], []), (zl29, []), [(.inr none, 249, ([], [], []))])
set_option maxRecDepth 100000 in
theorem pl_s87_e : ck_ok p2_OL none [] [] 45 [] 116 pl_s87 = true := by decide +kernel
theorem pl_s87_s {X : Int → Int} {LX : Nat} : ck_Ok p2_OL X LX 45 pl_s87 := ck_ok_s ⟨pl_nmu, ck_E0⟩ ck_X0 ck_l0 pl_s87_e
set_option maxRecDepth 100000 in
/-- GlacierMail$Rows.put -/
def pl_s88 : ck_Sum := ((0, 0, 0), 249, [.inr (.inr (.inl 19)), .inl (ck_one (-1)), .inl (ck_one 0), .inl (0, 299, [])], ([], [], []), ([], []), [(.inr none, 249, ([], [], []))])
set_option maxRecDepth 100000 in
theorem pl_s88_e : ck_ok p2_OL none [] [] 45 [] 76 pl_s88 = true := by decide +kernel
theorem pl_s88_s {X : Int → Int} {LX : Nat} : ck_Ok p2_OL X LX 45 pl_s88 := ck_ok_s ⟨pl_nmu, ck_E0⟩ ck_X0 ck_l0 pl_s88_e
set_option maxRecDepth 100000 in
/-- GlacierMail$Rows.put -/
def pl_s89 : ck_Sum := ((0, 0, 0), 249, [.inr (.inr (.inl 19)), .inl (ck_one (-1)), .inl (ck_one 1), .inl (0, 98, [])], ([], [], []), ([], []), [(.inr none, 249, ([], [], []))])
set_option maxRecDepth 100000 in
theorem pl_s89_e : ck_ok p2_OL none [] [] 45 [] 76 pl_s89 = true := by decide +kernel
theorem pl_s89_s {X : Int → Int} {LX : Nat} : ck_Ok p2_OL X LX 45 pl_s89 := ck_ok_s ⟨pl_nmu, ck_E0⟩ ck_X0 ck_l0 pl_s89_e
end
