/-! COPIES (to try) -/
set_option maxRecDepth 100000 in
/-- GlacierMailModel.image -/
def p2_s2180 : ck_Sum := ((0, 0, 0), 245, [.inr (.inr (.inl 226))], ([], [], [(226, 5, 5, (0, 1, [(8, 0)]))]), ([(226, 0, 0), (226, 5, 5), (228, 0, 1243)], []), [(.inr none, 245, ([], [], [(226, 5, 5, ck_one 1), (226, 0, 0, ck_one 0)]))])
def p2_s2180_E : List (Nat × List ck_Sum) := []
set_option maxRecDepth 100000 in
def p2_s2180_C7 : ck_C := ([some (.inr (.inr (.inl 226))), some (.inl (ck_one 0))], ([], [], [(226, 0, 0, ck_one 0), (226, 5, 5, (0, 1, [(8, 0)]))]), 0, .inl 1, true)
set_option maxRecDepth 100000 in
def p2_s2180_Z : List (Nat × ck_C) := [(7, p2_s2180_C7)]
set_option maxRecDepth 100000 in
theorem p2_s2180_a : (decide (p2_s2180.2.2.1.length ≤ gm_ml 236) && ck_go p2_O none [] p2_s2180_E 236 p2_s2180.1.1 p2_s2180.2.1 p2_s2180.2.2.2.2.1 p2_s2180.2.2.2.2.2 p2_s2180_Z 114 false [(7, p2_s2180_C7, 0, 0, 245)] p2_s2180.1.2.1 p2_s2180.1.2.2 0 (p2_s2180.2.2.1.map some ++ List.replicate (gm_ml 236 - p2_s2180.2.2.1.length) none) [] p2_s2180.2.1 p2_s2180.2.2.2.1) = true := by decide +kernel
theorem p2_s2180_u : ck_cu p2_s2180_Z = true := by decide +kernel
theorem p2_s2180_h {X : Int → Int} {LX : Nat} : ck_nmu p2_O ∧ ck_OkE p2_O X LX p2_s2180_E := ⟨p2_nmu, ck_E0⟩
set_option maxRecDepth 100000 in
theorem p2_s2180_g7 : ck_go p2_O none [] p2_s2180_E 236 p2_s2180.1.1 p2_s2180.2.1 p2_s2180.2.2.2.2.1 p2_s2180.2.2.2.2.2 p2_s2180_Z 114 false [] 0 0 32 (p2_s2180_C7.1.set 1 (some (.inl (ck_one 1244)))) [] 245 (p2_s2180_C7.2.1.1, p2_s2180_C7.2.1.2.1, ck_cws [(228, 0, 1243)] p2_s2180_C7.2.1.2.2) = true := by decide +kernel
set_option maxRecDepth 100000 in
theorem p2_s2180_t7 : cp_tc p2_O 228 227 0 0 1244 = true := by decide +kernel
theorem p2_s2180_y7 {X : Int → Int} {LX : Nat} {σ σ0 : Nat → Int} {K0 : gm_K} {R0 : gm_R} {M0 : gm_M} (hσ : ∀ s, s < 100 → σ s = σ0 s) : ck_Hy p2_O X LX 236 p2_s2180.1.1 p2_s2180.2.2.2.2.1 p2_s2180.2.1 K0 R0 M0 (ck_Q p2_O σ0 p2_s2180.2.2.2.2.1 p2_s2180.2.1 K0 R0 M0 p2_s2180.2.2.2.2.2) σ (7, p2_s2180_C7, 0, 0, 245) := by
  refine ck_cpH (v := 1) (A := 228) (B := 227) (N := 1244) (wa := 0) (wb := 1243) (pc' := 32) p2_s2180_u p2_s2180_h hσ ⟨by decide, by decide⟩ (by decide +kernel) (fun bc bs L K R M hS => ?_) p2_s2180_g7 (fun _ h => nomatch h)
  · obtain ⟨hF, hl, -, hf, -⟩ := hS
    obtain ⟨u0, l0, g0⟩ := hl.2 0 (.inr (.inr (.inl 226))) rfl
    cases g0
    obtain ⟨u1, lv, x1, rfl, -, e1, e2, -⟩ := hl.2 1 (.inl (ck_one 0)) rfl
    have e1 : (0 : Int) ≤ x1 := e1
    have e2 : x1 ≤ (0 : Int) := e2
    have e3 : x1 = 0 := by omega
    subst e3
    have kA : (K 228).2 = 1244 := (md_kd hF md_o.2.1.1).2
    have kB : (K 227).2 = 2093 := (md_kd hF md_o.1.2).2
    refine ⟨0, 0, ⟨by omega, by omega⟩, gm_Fx_cpy hF (cp_tc_s hF p2_s2180_t7) (jj_image hF.2.2.2.2), fun Q hx => ?_⟩
    exact cp_lp (iv := .iload_n 1) (v := 1) (ixA := 17) (ixB := 13) (jA := 2) (jB := 1) (A := 228) (B := 227) (mo := 226) (p := 7) (qA := 19) (qB := 24) (N := 1244) (offe := 21) (offb := (-22)) (by decide) (md_mo hF) (md_kd hF md_o.2.1.1).1 (md_kd hF md_o.1.2).1 (md_rf hF md_r.1.2) (md_rf hF md_r.1.1) (by decide +kernel) (by decide +kernel) (by decide +kernel) (by decide +kernel) ⟨by omega, ⟨by omega, by omega⟩, ⟨by omega, by omega⟩, by omega, by omega⟩ (fun e => absurd e (by decide)) (by decide) (by decide +kernel) l0 lv ⟨rfl, rfl⟩ ⟨gm_vr 226, l0, by simp [gm_sort]⟩ (by decide +kernel) (by decide +kernel) (by decide +kernel) (by decide) (by decide +kernel) (by decide +kernel) (cp_sg_i (iv := .iload_n 1) lv ⟨rfl, rfl⟩ (by decide +kernel)) (by decide +kernel) (by decide +kernel) (cp_sg_i (iv := .iload_n 1) lv ⟨rfl, rfl⟩ (by decide +kernel)) (by decide +kernel) (by decide +kernel) (by decide +kernel) (by decide +kernel) (by decide) (by decide) hx
theorem p2_s2180_s {X : Int → Int} {LX : Nat} : ck_Ok p2_O X LX 236 p2_s2180 := by
  refine ck_ok_st (cuts := p2_s2180_Z) p2_s2180_u p2_s2180_h p2_s2180_a (fun h hm => ?_)
  rcases List.mem_cons.mp hm with rfl | hm
  · exact ⟨by unfold p2_s2180_Z; exact List.mem_cons_self, fun σ K0 R0 M0 => p2_s2180_y7 (fun _ _ => rfl)⟩
  cases hm
set_option maxRecDepth 100000 in
/-- GlacierMailModel.back -/
def p2_s2189 : ck_Sum := ((1, 0, 0), 245, [.inr (.inr (.inl 226))], ([], [], [(227, 2, 2, (0, 8, [(20, 0)])), (227, 3, 3, (0, 8, [(21, 0)])), (227, 4, 4, (0, 24, [(22, 0)])), (227, 5, 5, (0, 8, [(23, 0)])), (227, 6, 6, (0, 6, [(24, 0)])), (227, 7, 7, (0, 12, [(25, 0)])), (227, 14, 14, (0, 24, [(26, 0)])), (226, 6, 6, (0, 12, [(27, 0)])), (226, 5, 5, (0, 1, [(8, 0)])), (227, 9, 9, (0, 299, [(11, 0)]))]), ([(226, 0, 0), (226, 6, 6), (226, 26, 26), (227, 0, 1243), (234, 0, 299)], []), [(.inr (some (.inl (ck_one 0))), 245, ([], [], [(226, 5, 5, (0, 0, [(8, 0)])), (226, 0, 0, ck_one 0), (227, 2, 2, (0, 8, [(20, 0)])), (227, 3, 3, (0, 8, [(21, 0)])), (227, 4, 4, (0, 24, [(22, 0)])), (227, 5, 5, (0, 8, [(23, 0)])), (227, 6, 6, (0, 6, [(24, 0)])), (227, 7, 7, (0, 12, [(25, 0)])), (227, 14, 14, (0, 24, [(26, 0)])), (226, 6, 6, (0, 12, [(27, 0)])), (227, 9, 9, (0, 299, [(11, 0)]))])), (.inr (some (.inl (ck_one 1))), 245, ([], [], [(226, 26, 26, ck_one (-1)), (226, 6, 6, ck_one 0), (226, 5, 5, (1, 1, [(8, 0)])), (226, 0, 0, ck_one 0)]))])
def p2_s2189_E : List (Nat × List ck_Sum) := [(235, [p2_s271])]
set_option maxRecDepth 100000 in
def p2_s2189_C16 : ck_C := ([some (.inr (.inr (.inl 226))), some (.inl (ck_one 0))], ([], [], [(226, 5, 5, (1, 1, [(8, 0)])), (226, 0, 0, ck_one 0), (227, 2, 2, (0, 8, [(20, 0)])), (227, 3, 3, (0, 8, [(21, 0)])), (227, 4, 4, (0, 24, [(22, 0)])), (227, 5, 5, (0, 8, [(23, 0)])), (227, 6, 6, (0, 6, [(24, 0)])), (227, 7, 7, (0, 12, [(25, 0)])), (227, 14, 14, (0, 24, [(26, 0)])), (226, 6, 6, (0, 12, [(27, 0)])), (227, 9, 9, (0, 299, [(11, 0)]))]), 0, .inl 1, true)
set_option maxRecDepth 100000 in
def p2_s2189_Z : List (Nat × ck_C) := [(16, p2_s2189_C16)]
set_option maxRecDepth 100000 in
theorem p2_s2189_a : (decide (p2_s2189.2.2.1.length ≤ gm_ml 237) && ck_go p2_O none [] p2_s2189_E 237 p2_s2189.1.1 p2_s2189.2.1 p2_s2189.2.2.2.2.1 p2_s2189.2.2.2.2.2 p2_s2189_Z 126 false [(16, p2_s2189_C16, 0, 0, 245)] p2_s2189.1.2.1 p2_s2189.1.2.2 0 (p2_s2189.2.2.1.map some ++ List.replicate (gm_ml 237 - p2_s2189.2.2.1.length) none) [] p2_s2189.2.1 p2_s2189.2.2.2.1) = true := by decide +kernel
theorem p2_s2189_u : ck_cu p2_s2189_Z = true := by decide +kernel
theorem p2_s2189_h {X : Int → Int} {LX : Nat} : ck_nmu p2_O ∧ ck_OkE p2_O X LX p2_s2189_E := ⟨p2_nmu, ck_E1 (ck_S1 p2_s271_s ck_S0) ck_E0⟩
set_option maxRecDepth 100000 in
theorem p2_s2189_g16 : ck_go p2_O none [] p2_s2189_E 237 p2_s2189.1.1 p2_s2189.2.1 p2_s2189.2.2.2.2.1 p2_s2189.2.2.2.2.2 p2_s2189_Z 126 false [] 0 0 41 (p2_s2189_C16.1.set 1 (some (.inl (ck_one 1244)))) [] 245 (p2_s2189_C16.2.1.1, p2_s2189_C16.2.1.2.1, ck_cws [(227, 0, 1243)] p2_s2189_C16.2.1.2.2) = true := by decide +kernel
set_option maxRecDepth 100000 in
theorem p2_s2189_t16 : cp_tc p2_O 227 228 0 0 1244 = true := by decide +kernel
theorem p2_s2189_y16 {X : Int → Int} {LX : Nat} {σ σ0 : Nat → Int} {K0 : gm_K} {R0 : gm_R} {M0 : gm_M} (hσ : ∀ s, s < 100 → σ s = σ0 s) : ck_Hy p2_O X LX 237 p2_s2189.1.1 p2_s2189.2.2.2.2.1 p2_s2189.2.1 K0 R0 M0 (ck_Q p2_O σ0 p2_s2189.2.2.2.2.1 p2_s2189.2.1 K0 R0 M0 p2_s2189.2.2.2.2.2) σ (16, p2_s2189_C16, 0, 0, 245) := by
  refine ck_cpH (v := 1) (A := 227) (B := 228) (N := 1244) (wa := 0) (wb := 1243) (pc' := 41) p2_s2189_u p2_s2189_h hσ ⟨by decide, by decide⟩ (by decide +kernel) (fun bc bs L K R M hS => ?_) p2_s2189_g16 (fun _ h => nomatch h)
  · obtain ⟨hF, hl, -, hf, -⟩ := hS
    obtain ⟨u0, l0, g0⟩ := hl.2 0 (.inr (.inr (.inl 226))) rfl
    cases g0
    obtain ⟨u1, lv, x1, rfl, -, e1, e2, -⟩ := hl.2 1 (.inl (ck_one 0)) rfl
    have e1 : (0 : Int) ≤ x1 := e1
    have e2 : x1 ≤ (0 : Int) := e2
    have e3 : x1 = 0 := by omega
    subst e3
    have kA : (K 227).2 = 2093 := (md_kd hF md_o.1.2).2
    have kB : (K 228).2 = 1244 := (md_kd hF md_o.2.1.1).2
    refine ⟨0, 0, ⟨by omega, by omega⟩, gm_Fx_cpy hF (cp_tc_s hF p2_s2189_t16) (jj_back hF.2.2.2.2), fun Q hx => ?_⟩
    exact cp_lp (iv := .iload_n 1) (v := 1) (ixA := 13) (ixB := 17) (jA := 1) (jB := 2) (A := 227) (B := 228) (mo := 226) (p := 16) (qA := 28) (qB := 33) (N := 1244) (offe := 21) (offb := (-22)) (by decide) (md_mo hF) (md_kd hF md_o.1.2).1 (md_kd hF md_o.2.1.1).1 (md_rf hF md_r.1.1) (md_rf hF md_r.1.2) (by decide +kernel) (by decide +kernel) (by decide +kernel) (by decide +kernel) ⟨by omega, ⟨by omega, by omega⟩, ⟨by omega, by omega⟩, by omega, by omega⟩ (fun e => absurd e (by decide)) (by decide) (by decide +kernel) l0 lv ⟨rfl, rfl⟩ ⟨gm_vr 226, l0, by simp [gm_sort]⟩ (by decide +kernel) (by decide +kernel) (by decide +kernel) (by decide) (by decide +kernel) (by decide +kernel) (cp_sg_i (iv := .iload_n 1) lv ⟨rfl, rfl⟩ (by decide +kernel)) (by decide +kernel) (by decide +kernel) (cp_sg_i (iv := .iload_n 1) lv ⟨rfl, rfl⟩ (by decide +kernel)) (by decide +kernel) (by decide +kernel) (by decide +kernel) (by decide +kernel) (by decide) (by decide) hx
theorem p2_s2189_s {X : Int → Int} {LX : Nat} : ck_Ok p2_O X LX 237 p2_s2189 := by
  refine ck_ok_st (cuts := p2_s2189_Z) p2_s2189_u p2_s2189_h p2_s2189_a (fun h hm => ?_)
  rcases List.mem_cons.mp hm with rfl | hm
  · exact ⟨by unfold p2_s2189_Z; exact List.mem_cons_self, fun σ K0 R0 M0 => p2_s2189_y16 (fun _ _ => rfl)⟩
  cases hm
set_option maxRecDepth 100000 in
/-- GlacierMailModel.undo -/
def p2_s2171 : ck_Sum := ((0, 0, 0), 245, [.inr (.inr (.inl 226))], ([], [], [(227, 2, 2, (0, 8, [(20, 0)])), (227, 3, 3, (0, 8, [(21, 0)])), (227, 4, 4, (0, 24, [(22, 0)])), (227, 5, 5, (0, 8, [(23, 0)])), (227, 6, 6, (0, 6, [(24, 0)])), (227, 7, 7, (0, 12, [(25, 0)])), (227, 14, 14, (0, 24, [(26, 0)])), (226, 6, 6, (0, 12, [(27, 0)])), (227, 9, 9, (0, 299, [(11, 0)]))]), ([(226, 0, 0), (226, 6, 6), (227, 0, 394)], []), [(.inr (some (.inl (ck_one 0))), 245, ([], [], [(226, 6, 6, (0, 0, [(27, 0)])), (226, 0, 0, ck_one 0), (227, 2, 2, (0, 8, [(20, 0)])), (227, 3, 3, (0, 8, [(21, 0)])), (227, 4, 4, (0, 24, [(22, 0)])), (227, 5, 5, (0, 8, [(23, 0)])), (227, 6, 6, (0, 6, [(24, 0)])), (227, 7, 7, (0, 12, [(25, 0)])), (227, 14, 14, (0, 24, [(26, 0)])), (227, 9, 9, (0, 299, [(11, 0)]))])), (.inr (some (.inl (ck_one 1))), 245, ([], [], [(226, 6, 6, (0, 11, [(27, (-1))])), (226, 0, 0, ck_one 0)]))])
def p2_s2171_E : List (Nat × List ck_Sum) := []
set_option maxRecDepth 100000 in
def p2_s2171_C26 : ck_C := ([some (.inr (.inr (.inl 226))), some (.inl (ck_one 0))], ([], [], [(226, 6, 6, (0, 11, [(27, (-1))])), (226, 0, 0, ck_one 0), (227, 2, 2, (0, 8, [(20, 0)])), (227, 3, 3, (0, 8, [(21, 0)])), (227, 4, 4, (0, 24, [(22, 0)])), (227, 5, 5, (0, 8, [(23, 0)])), (227, 6, 6, (0, 6, [(24, 0)])), (227, 7, 7, (0, 12, [(25, 0)])), (227, 14, 14, (0, 24, [(26, 0)])), (227, 9, 9, (0, 299, [(11, 0)]))]), 0, .inl 1, true)
set_option maxRecDepth 100000 in
def p2_s2171_Z : List (Nat × ck_C) := [(26, p2_s2171_C26)]
set_option maxRecDepth 100000 in
theorem p2_s2171_a : (decide (p2_s2171.2.2.1.length ≤ gm_ml 238) && ck_go p2_O none [] p2_s2171_E 238 p2_s2171.1.1 p2_s2171.2.1 p2_s2171.2.2.2.2.1 p2_s2171.2.2.2.2.2 p2_s2171_Z 150 false [(26, p2_s2171_C26, 0, 0, 245)] p2_s2171.1.2.1 p2_s2171.1.2.2 0 (p2_s2171.2.2.1.map some ++ List.replicate (gm_ml 238 - p2_s2171.2.2.1.length) none) [] p2_s2171.2.1 p2_s2171.2.2.2.1) = true := by decide +kernel
theorem p2_s2171_u : ck_cu p2_s2171_Z = true := by decide +kernel
theorem p2_s2171_h {X : Int → Int} {LX : Nat} : ck_nmu p2_O ∧ ck_OkE p2_O X LX p2_s2171_E := ⟨p2_nmu, ck_E0⟩
set_option maxRecDepth 100000 in
theorem p2_s2171_g26 : ck_go p2_O none [] p2_s2171_E 238 p2_s2171.1.1 p2_s2171.2.1 p2_s2171.2.2.2.2.1 p2_s2171.2.2.2.2.2 p2_s2171_Z 150 false [] 0 0 60 (p2_s2171_C26.1.set 1 (some (.inl (ck_one 395)))) [] 245 (p2_s2171_C26.2.1.1, p2_s2171_C26.2.1.2.1, ck_cws [(227, 0, 394)] p2_s2171_C26.2.1.2.2) = true := by decide +kernel
theorem p2_s2171_y26 {X : Int → Int} {LX : Nat} {σ σ0 : Nat → Int} {K0 : gm_K} {R0 : gm_R} {M0 : gm_M} (hσ : ∀ s, s < 100 → σ s = σ0 s) : ck_Hy p2_O X LX 238 p2_s2171.1.1 p2_s2171.2.2.2.2.1 p2_s2171.2.1 K0 R0 M0 (ck_Q p2_O σ0 p2_s2171.2.2.2.2.1 p2_s2171.2.1 K0 R0 M0 p2_s2171.2.2.2.2.2) σ (26, p2_s2171_C26, 0, 0, 245) := by
  refine ck_cpH (v := 1) (A := 227) (B := 230) (N := 395) (wa := 0) (wb := 394) (pc' := 60) p2_s2171_u p2_s2171_h hσ ⟨by decide, by decide⟩ (by decide +kernel) (fun bc bs L K R M hS => ?_) p2_s2171_g26 (fun _ h => nomatch h)
  · obtain ⟨hF, hl, -, hf, -⟩ := hS
    obtain ⟨u0, l0, g0⟩ := hl.2 0 (.inr (.inr (.inl 226))) rfl
    cases g0
    obtain ⟨u1, lv, x1, rfl, -, e1, e2, -⟩ := hl.2 1 (.inl (ck_one 0)) rfl
    have e1 : (0 : Int) ≤ x1 := e1
    have e2 : x1 ≤ (0 : Int) := e2
    have e3 : x1 = 0 := by omega
    subst e3
    have h6 := (ck_fi_s hf (show ck_fi p2_s2171_C26.2.1 226 6 6 = some (0, 11, [(27, (-1))]) by decide +kernel)).2 6 (Int.le_refl _) (Int.le_refl _)
    have h61 : (0 : Int) ≤ M 226 6 := h6.2.1
    have h62 : M 226 6 ≤ (11 : Int) := h6.2.2.1
    have h63 : M 226 ((6 : Nat) : Int) = M 226 6 := rfl
    have kA : (K 227).2 = 2093 := (md_kd hF md_o.1.2).2
    have kB : (K 230).2 = 4740 := (md_kd hF md_o.2.2).2
    refine ⟨0, 395 * M 226 ((6 : Nat) : Int), ⟨by omega, by omega⟩, gm_Fx_cpy hF (md_un hF ⟨by omega, by omega⟩) (jj_undo hF.2.2.2.2 ⟨by omega, by omega⟩), fun Q hx => ?_⟩
    exact cp_lp (iv := .iload_n 1) (v := 1) (ixA := 13) (ixB := 23) (jA := 1) (jB := 4) (A := 227) (B := 230) (mo := 226) (p := 26) (qA := 38) (qB := 52) (N := 395) (offe := 30) (offb := (-31)) (by decide) (md_mo hF) (md_kd hF md_o.1.2).1 (md_kd hF md_o.2.2).1 (md_rf hF md_r.1.1) (md_rf hF md_r.2.2) (by decide +kernel) (by decide +kernel) (by decide +kernel) (by decide +kernel) ⟨by omega, ⟨by omega, by omega⟩, ⟨by omega, by omega⟩, by omega, by omega⟩ (fun e => absurd e (by decide)) (by decide) (by decide +kernel) l0 lv ⟨rfl, rfl⟩ ⟨gm_vr 226, l0, by simp [gm_sort]⟩ (by decide +kernel) (by decide +kernel) (by decide +kernel) (by decide) (by decide +kernel) (by decide +kernel) (cp_sg_i (iv := .iload_n 1) lv ⟨rfl, rfl⟩ (by decide +kernel)) (by decide +kernel) (by decide +kernel) (cp_sg_cr (iv := .iload_n 1) (c := 395) (ix := 79) (j := 6) (by decide) l0 lv ⟨rfl, rfl⟩ (by decide +kernel) (md_mo hF) (by decide +kernel) (by decide +kernel) (by decide +kernel) (by decide +kernel) (by decide +kernel) (by decide +kernel) (by decide +kernel) (by decide +kernel)) (by decide +kernel) (by decide +kernel) (by decide +kernel) (by decide +kernel) (by decide) (by decide) hx
theorem p2_s2171_s {X : Int → Int} {LX : Nat} : ck_Ok p2_O X LX 238 p2_s2171 := by
  refine ck_ok_st (cuts := p2_s2171_Z) p2_s2171_u p2_s2171_h p2_s2171_a (fun h hm => ?_)
  rcases List.mem_cons.mp hm with rfl | hm
  · exact ⟨by unfold p2_s2171_Z; exact List.mem_cons_self, fun σ K0 R0 M0 => p2_s2171_y26 (fun _ _ => rfl)⟩
  cases hm
set_option maxRecDepth 100000 in
/-- GlacierMailModel.remembers -/
def p2_s690 : ck_Sum := ((0, 0, 0), 245, [.inr (.inr (.inl 226))], ([], [], [(226, 6, 6, (0, 12, [(27, 0)]))]), ([(226, 6, 6), (230, 0, 4739)], []), [(.inr none, 245, ([], [], [(226, 6, 6, (1, 12, [(1000027, 0)]))]))])
def p2_s690_E : List (Nat × List ck_Sum) := []
set_option maxRecDepth 100000 in
def p2_s690_C55 : ck_C := ([some (.inr (.inr (.inl 226))), some (.inl (ck_one 0))], ([], [], [(226, 6, 6, (1, 12, [(1000027, 0)]))]), 0, .inl 1, true)
set_option maxRecDepth 100000 in
def p2_s690_C11 : ck_C := ([some (.inr (.inr (.inl 226))), some (.inl (ck_one 0))], ([], [], [(226, 6, 6, (12, 12, [(27, 0)]))]), 0, .inl 1, true)
set_option maxRecDepth 100000 in
def p2_s690_Z : List (Nat × ck_C) := [(55, p2_s690_C55), (11, p2_s690_C11)]
set_option maxRecDepth 100000 in
theorem p2_s690_a : (decide (p2_s690.2.2.1.length ≤ gm_ml 316) && ck_go p2_O none [] p2_s690_E 316 p2_s690.1.1 p2_s690.2.1 p2_s690.2.2.2.2.1 p2_s690.2.2.2.2.2 p2_s690_Z 188 false [(55, p2_s690_C55, 0, 0, 245), (11, p2_s690_C11, 0, 0, 245)] p2_s690.1.2.1 p2_s690.1.2.2 0 (p2_s690.2.2.1.map some ++ List.replicate (gm_ml 316 - p2_s690.2.2.1.length) none) [] p2_s690.2.1 p2_s690.2.2.2.1) = true := by decide +kernel
theorem p2_s690_u : ck_cu p2_s690_Z = true := by decide +kernel
theorem p2_s690_h {X : Int → Int} {LX : Nat} : ck_nmu p2_O ∧ ck_OkE p2_O X LX p2_s690_E := ⟨p2_nmu, ck_E0⟩
set_option maxRecDepth 100000 in
theorem p2_s690_g55 : ck_go p2_O none [] p2_s690_E 316 p2_s690.1.1 p2_s690.2.1 p2_s690.2.2.2.2.1 p2_s690.2.2.2.2.2 p2_s690_Z 188 false [] 0 0 91 (p2_s690_C55.1.set 1 (some (.inl (ck_one 395)))) [] 245 (p2_s690_C55.2.1.1, p2_s690_C55.2.1.2.1, ck_cws [(230, 0, 4739)] p2_s690_C55.2.1.2.2) = true := by decide +kernel
theorem p2_s690_y55 {X : Int → Int} {LX : Nat} {σ σ0 : Nat → Int} {K0 : gm_K} {R0 : gm_R} {M0 : gm_M} (hσ : ∀ s, s < 100 → σ s = σ0 s) : ck_Hy p2_O X LX 316 p2_s690.1.1 p2_s690.2.2.2.2.1 p2_s690.2.1 K0 R0 M0 (ck_Q p2_O σ0 p2_s690.2.2.2.2.1 p2_s690.2.1 K0 R0 M0 p2_s690.2.2.2.2.2) σ (55, p2_s690_C55, 0, 0, 245) := by
  refine ck_cpH (v := 1) (A := 230) (B := 227) (N := 395) (wa := 0) (wb := 4739) (pc' := 91) p2_s690_u p2_s690_h hσ ⟨by decide, by decide⟩ (by decide +kernel) (fun bc bs L K R M hS => ?_) p2_s690_g55 (fun _ h => nomatch h)
  · obtain ⟨hF, hl, -, hf, -⟩ := hS
    obtain ⟨u0, l0, g0⟩ := hl.2 0 (.inr (.inr (.inl 226))) rfl
    cases g0
    obtain ⟨u1, lv, x1, rfl, -, e1, e2, -⟩ := hl.2 1 (.inl (ck_one 0)) rfl
    have e1 : (0 : Int) ≤ x1 := e1
    have e2 : x1 ≤ (0 : Int) := e2
    have e3 : x1 = 0 := by omega
    subst e3
    have h6 := (ck_fi_s hf (show ck_fi p2_s690_C55.2.1 226 6 6 = some (1, 12, [(1000027, 0)]) by decide +kernel)).2 6 (Int.le_refl _) (Int.le_refl _)
    have h61 : (1 : Int) ≤ M 226 6 := h6.2.1
    have h62 : M 226 6 ≤ (12 : Int) := h6.2.2.1
    have h63 : M 226 ((6 : Nat) : Int) = M 226 6 := rfl
    have kA : (K 230).2 = 4740 := (md_kd hF md_o.2.2).2
    have kB : (K 227).2 = 2093 := (md_kd hF md_o.1.2).2
    refine ⟨395 * (M 226 ((6 : Nat) : Int) - 1), 0, ⟨by omega, by omega⟩, gm_Fx_cpy hF (fun r hr => by rw [show p2_O.2.2.ty 230 = [] by decide +kernel] at hr; cases hr) (jj_store hF.2.2.2.2 (by omega) (md_ty hF)), fun Q hx => ?_⟩
    exact cp_lp (iv := .iload_n 1) (v := 1) (ixA := 23) (ixB := 13) (jA := 4) (jB := 1) (A := 230) (B := 227) (mo := 226) (p := 55) (qA := 78) (qB := 83) (N := 395) (offe := 32) (offb := (-33)) (by decide) (md_mo hF) (md_kd hF md_o.2.2).1 (md_kd hF md_o.1.2).1 (md_rf hF md_r.2.2) (md_rf hF md_r.1.1) (by decide +kernel) (by decide +kernel) (by decide +kernel) (by decide +kernel) ⟨by omega, ⟨by omega, by omega⟩, ⟨by omega, by omega⟩, by omega, by omega⟩ (fun e => absurd e (by decide)) (by decide) (by decide +kernel) l0 lv ⟨rfl, rfl⟩ ⟨gm_vr 226, l0, by simp [gm_sort]⟩ (by decide +kernel) (by decide +kernel) (by decide +kernel) (by decide) (by decide +kernel) (by decide +kernel) (cp_sg_cr1 (iv := .iload_n 1) (c := 395) (ix := 79) (j := 6) (by decide) l0 lv ⟨rfl, rfl⟩ (by decide +kernel) (md_mo hF) (by decide +kernel) (by decide +kernel) (by decide +kernel) (by decide +kernel) (by decide +kernel) (by decide +kernel) (by decide +kernel) (by decide +kernel) (by decide +kernel) (by decide +kernel)) (by decide +kernel) (by decide +kernel) (cp_sg_i (iv := .iload_n 1) lv ⟨rfl, rfl⟩ (by decide +kernel)) (by decide +kernel) (by decide +kernel) (by decide +kernel) (by decide +kernel) (by decide) (by decide) hx
set_option maxRecDepth 100000 in
theorem p2_s690_g11 : ck_go p2_O none [] p2_s690_E 316 p2_s690.1.1 p2_s690.2.1 p2_s690.2.2.2.2.1 p2_s690.2.2.2.2.2 p2_s690_Z 188 false [(55, p2_s690_C55, 0, 0, 245)] 0 0 40 (p2_s690_C11.1.set 1 (some (.inl (ck_one 4345)))) [] 245 (p2_s690_C11.2.1.1, p2_s690_C11.2.1.2.1, ck_cws [(230, 0, 4344)] p2_s690_C11.2.1.2.2) = true := by decide +kernel
theorem p2_s690_y11 {X : Int → Int} {LX : Nat} {σ σ0 : Nat → Int} {K0 : gm_K} {R0 : gm_R} {M0 : gm_M} (hσ : ∀ s, s < 100 → σ s = σ0 s) : ck_Hy p2_O X LX 316 p2_s690.1.1 p2_s690.2.2.2.2.1 p2_s690.2.1 K0 R0 M0 (ck_Q p2_O σ0 p2_s690.2.2.2.2.1 p2_s690.2.1 K0 R0 M0 p2_s690.2.2.2.2.2) σ (11, p2_s690_C11, 0, 0, 245) := by
  refine ck_cpH (v := 1) (A := 230) (B := 230) (N := 4345) (wa := 0) (wb := 4344) (pc' := 40) p2_s690_u p2_s690_h hσ ⟨by decide, by decide⟩ (by decide +kernel) (fun bc bs L K R M hS => ?_) p2_s690_g11 (fun h hm => by
      rcases List.mem_cons.mp hm with rfl | hm
      · exact ⟨by unfold p2_s690_Z; exact List.mem_cons_self, p2_s690_y55 hσ⟩
      · cases hm)
  · obtain ⟨hF, hl, -, hf, -⟩ := hS
    obtain ⟨u0, l0, g0⟩ := hl.2 0 (.inr (.inr (.inl 226))) rfl
    cases g0
    obtain ⟨u1, lv, x1, rfl, -, e1, e2, -⟩ := hl.2 1 (.inl (ck_one 0)) rfl
    have e1 : (0 : Int) ≤ x1 := e1
    have e2 : x1 ≤ (0 : Int) := e2
    have e3 : x1 = 0 := by omega
    subst e3
    have kA : (K 230).2 = 4740 := (md_kd hF md_o.2.2).2
    have kB : (K 230).2 = 4740 := (md_kd hF md_o.2.2).2
    refine ⟨0, 395, ⟨by omega, by omega⟩, gm_Fx_cpy hF (fun r hr => by rw [show p2_O.2.2.ty 230 = [] by decide +kernel] at hr; cases hr) (jj_shift hF.2.2.2.2), fun Q hx => ?_⟩
    exact cp_lp (iv := .iload_n 1) (v := 1) (ixA := 23) (ixB := 23) (jA := 4) (jB := 4) (A := 230) (B := 230) (mo := 226) (p := 11) (qA := 23) (qB := 32) (N := 4345) (offe := 25) (offb := (-26)) (by decide) (md_mo hF) (md_kd hF md_o.2.2).1 (md_kd hF md_o.2.2).1 (md_rf hF md_r.2.2) (md_rf hF md_r.2.2) (by decide +kernel) (by decide +kernel) (by decide +kernel) (by decide +kernel) ⟨by omega, ⟨by omega, by omega⟩, ⟨by omega, by omega⟩, by omega, by omega⟩ (fun _ => by omega) (by decide) (by decide +kernel) l0 lv ⟨rfl, rfl⟩ ⟨gm_vr 226, l0, by simp [gm_sort]⟩ (by decide +kernel) (by decide +kernel) (by decide +kernel) (by decide) (by decide +kernel) (by decide +kernel) (cp_sg_i (iv := .iload_n 1) lv ⟨rfl, rfl⟩ (by decide +kernel)) (by decide +kernel) (by decide +kernel) (cp_sg_ic (iv := .iload_n 1) (c := 395) lv ⟨rfl, rfl⟩ (by decide +kernel) (by decide +kernel) (by decide +kernel) (by decide +kernel)) (by decide +kernel) (by decide +kernel) (by decide +kernel) (by decide +kernel) (by decide) (by decide) hx
theorem p2_s690_s {X : Int → Int} {LX : Nat} : ck_Ok p2_O X LX 316 p2_s690 := by
  refine ck_ok_st (cuts := p2_s690_Z) p2_s690_u p2_s690_h p2_s690_a (fun h hm => ?_)
  rcases List.mem_cons.mp hm with rfl | hm
  · exact ⟨by unfold p2_s690_Z; exact List.mem_cons_self, fun σ K0 R0 M0 => p2_s690_y55 (fun _ _ => rfl)⟩
  rcases List.mem_cons.mp hm with rfl | hm
  · exact ⟨by unfold p2_s690_Z; exact List.mem_cons_of_mem _ (List.mem_cons_self), fun σ K0 R0 M0 => p2_s690_y11 (fun _ _ => rfl)⟩
  cases hm
