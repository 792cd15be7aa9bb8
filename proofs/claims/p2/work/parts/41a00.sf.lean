/-! EVERY CALL ENDS: what looks at flows of the reference (laid by wip/am/p2g.py). -/
set_option maxRecDepth 100000 in
def p2_s346 : ck_Sum := ((1, 0, 0), 245, [.inr (.inr (.inl 226)), .inl (0, 5, []), .inl (0, 98, []), .inl (0, 299, [])], ([], [], [(227, 2, 2, (0, 8, [(20, 0)]))]), ([(226, 17, 23), (226, 26, 26), (235, 0, 29699)], []), [(.inr (some (.inl (0, 30, []))), 245, ([], [], [(226, 26, 26, (0, 5, []))]))])
def p2_s346_E : List (Nat × List ck_Sum) := [(293, [p2_s343]), (290, [p2_s326]), (294, [p2_s344, p2_s345])]
def p2_s346_L : ck_AL := [some (.inr (.inr (.inl 226))), some (.inl (0, 5, [])), some (.inl (0, 98, [])), some (.inl (0, 299, [])), some (.inl (0, 29699, [])), none]
set_option maxRecDepth 100000 in
def p2_s346_F : ck_F := ([], [], [(226, 26, 26, (0, 5, [])), (227, 2, 2, (0, 8, [(20, 0)]))])
def p2_s346_C : ck_C := (p2_s346_L, p2_s346_F, 0, .inl 4, true)
set_option maxRecDepth 100000 in
theorem p2_s346_a : (decide (p2_s346.2.2.1.length ≤ gm_ml 292) && ck_go p2_O none [] p2_s346_E 292 p2_s346.1.1 p2_s346.2.1 p2_s346.2.2.2.2.1 p2_s346.2.2.2.2.2 [(14, p2_s346_C)] 900 false [(14, p2_s346_C, 0, 0, 245)] p2_s346.1.2.1 p2_s346.1.2.2 0 (p2_s346.2.2.1.map some ++ List.replicate (gm_ml 292 - p2_s346.2.2.1.length) none) [] p2_s346.2.1 p2_s346.2.2.2.1) = true := by decide +kernel
set_option maxRecDepth 100000 in
theorem p2_s346_b : ck_go p2_O none [] p2_s346_E 292 p2_s346.1.1 p2_s346.2.1 p2_s346.2.2.2.2.1 p2_s346.2.2.2.2.2 [] 900 true [] 0 0 34 p2_s346_L [] 245 p2_s346_F = true := by decide +kernel
set_option maxRecDepth 100000 in
theorem p2_s346_f : gm_tyr p2_O 235 0 29699 = some (0, 31) := by decide +kernel
set_option maxRecDepth 100000 in
theorem p2_s346_g : ck_leF p2_O p2_s346_F (([], [], [(226, 26, 26, (0, 5, []))])) = true := by decide +kernel
theorem p2_s346_h {X : Int → Int} {LX : Nat} : ck_nmu p2_O ∧ ck_OkE p2_O X LX p2_s346_E := ⟨p2_nmu, ck_E1 (ck_S1 p2_s343_s ck_S0) (ck_E1 (ck_S1 p2_s326_s ck_S0) (ck_E1 (ck_S1 p2_s344_s (ck_S1 p2_s345_s ck_S0)) ck_E0))⟩
theorem p2_s346_s {X : Int → Int} {LX : Nat} : ck_Ok p2_O X LX 292 p2_s346 := by
  refine ck_ok_st (cuts := [(14, p2_s346_C)]) (by decide) p2_s346_h p2_s346_a (fun h hm => ?_)
  rw [List.mem_singleton.mp hm]
  refine ⟨List.mem_singleton.mpr rfl, fun σ K0 R0 M0 v _ bc bs L K R M hb1 hb2 hS _ => ?_⟩
  obtain ⟨hF, hl, hs, hf, hfr⟩ := hS
  obtain ⟨u0, e0, g0⟩ := hl.2 0 (.inr (.inr (.inl 226))) rfl
  cases g0
  obtain ⟨u4, e4, t, rfl, ht1, ht2, ht3, -⟩ := hl.2 4 (.inl (0, 29699, [])) rfl
  have ht2 : (0 : Int) ≤ t := ht2
  have ht3 : t ≤ (29699 : Int) := ht3
  obtain ⟨-, hM1, hM2⟩ := (gm_tyr_s hF p2_s346_f).2 t (by omega) (by omega)
  have hM1 : (0 : Int) ≤ M 235 t := hM1
  have hM2 : M 235 t ≤ (31 : Int) := hM2
  refine ck_flow (O := p2_O) hF (k := 226) (fl := 235) (by decide +kernel) (by decide +kernel) (by decide +kernel) e0 e4 ⟨by omega, by omega⟩ ⟨by omega, by omega⟩ (fun hp => ?_) ?_
  · exact ⟨hF, hfr, _, List.mem_cons_self, ⟨_, rfl, ⟨by omega, by omega⟩, by show (0 : Int) ≤ M 235 t - 1; omega, by show M 235 t - 1 ≤ (30 : Int); omega, fun _ h => nomatch h⟩, rfl, ck_leF_s hF hf p2_s346_g⟩
  · exact gm_Wp_wk (Nat.le_refl _) hb1 hb2 (ck_go_s (σ0 := σ) (cuts := []) (by decide) p2_s346_h ck_X0 ck_l0 900 true [] _ _ 34 _ [] _ _ σ L [] K R M (fun _ _ => rfl) (fun _ h => nomatch h) ⟨hF, hl, rfl, hf, hfr⟩ p2_s346_b)
set_option maxRecDepth 100000 in
/-- GlacierMailModel.flow -/
def p2_s347 : ck_Sum := ((2, 0, 0), 245, [.inr (.inr (.inl 226)), .inl (0, 5, []), .inl (0, 98, []), .inl (0, 299, [])], ([], [], [(227, 2, 2, (0, 8, [(20, 0)]))]), ([(226, 0, 0), (226, 17, 23), (226, 26, 26), (235, 0, 29699)], []), [(.inr (some (.inl (0, 30, []))), 245, ([], [], [(226, 0, 0, (0, 1, []))]))])
set_option maxRecDepth 100000 in
theorem p2_s347_e : ck_ok p2_O none [] [(288, [p2_s317]), (282, [p2_s268, p2_s269, p2_s270]), (289, [p2_s325]), (285, [p2_s290]), (292, [p2_s346])] 291 [] 126 p2_s347 = true := by decide +kernel
theorem p2_s347_s {X : Int → Int} {LX : Nat} : ck_Ok p2_O X LX 291 p2_s347 := ck_ok_s ⟨p2_nmu, ck_E1 (ck_S1 p2_s317_s ck_S0) (ck_E1 (ck_S1 p2_s268_s (ck_S1 p2_s269_s (ck_S1 p2_s270_s ck_S0))) (ck_E1 (ck_S1 p2_s325_s ck_S0) (ck_E1 (ck_S1 p2_s290_s ck_S0) (ck_E1 (ck_S1 p2_s346_s ck_S0) ck_E0))))⟩ ck_X0 ck_l0 p2_s347_e
set_option maxRecDepth 100000 in
def p2_s504 : ck_Sum := ((1, 0, 0), 245, [.inr (.inr (.inl 226)), .inl (0, 6, []), .inl (0, 98, []), .inl (0, 298, [])], ([], [], [(227, 2, 2, (0, 8, [(20, 0)]))]), ([(226, 17, 23), (226, 26, 26), (235, 0, 29699)], []), [(.inr (some (.inl (0, 30, []))), 245, ([], [], [(226, 26, 26, (0, 6, []))]))])
def p2_s504_E : List (Nat × List ck_Sum) := [(293, [p2_s460]), (290, [p2_s461]), (294, [p2_s344, p2_s345])]
def p2_s504_L : ck_AL := [some (.inr (.inr (.inl 226))), some (.inl (0, 6, [])), some (.inl (0, 98, [])), some (.inl (0, 298, [])), some (.inl (0, 29698, [])), none]
set_option maxRecDepth 100000 in
def p2_s504_F : ck_F := ([], [], [(226, 26, 26, (0, 6, [])), (227, 2, 2, (0, 8, [(20, 0)]))])
def p2_s504_C : ck_C := (p2_s504_L, p2_s504_F, 0, .inl 4, true)
set_option maxRecDepth 100000 in
theorem p2_s504_a : (decide (p2_s504.2.2.1.length ≤ gm_ml 292) && ck_go p2_O none [] p2_s504_E 292 p2_s504.1.1 p2_s504.2.1 p2_s504.2.2.2.2.1 p2_s504.2.2.2.2.2 [(14, p2_s504_C)] 900 false [(14, p2_s504_C, 0, 0, 245)] p2_s504.1.2.1 p2_s504.1.2.2 0 (p2_s504.2.2.1.map some ++ List.replicate (gm_ml 292 - p2_s504.2.2.1.length) none) [] p2_s504.2.1 p2_s504.2.2.2.1) = true := by decide +kernel
set_option maxRecDepth 100000 in
theorem p2_s504_b : ck_go p2_O none [] p2_s504_E 292 p2_s504.1.1 p2_s504.2.1 p2_s504.2.2.2.2.1 p2_s504.2.2.2.2.2 [] 900 true [] 0 0 34 p2_s504_L [] 245 p2_s504_F = true := by decide +kernel
set_option maxRecDepth 100000 in
theorem p2_s504_f : gm_tyr p2_O 235 0 29699 = some (0, 31) := by decide +kernel
set_option maxRecDepth 100000 in
theorem p2_s504_g : ck_leF p2_O p2_s504_F (([], [], [(226, 26, 26, (0, 6, []))])) = true := by decide +kernel
theorem p2_s504_h {X : Int → Int} {LX : Nat} : ck_nmu p2_O ∧ ck_OkE p2_O X LX p2_s504_E := ⟨p2_nmu, ck_E1 (ck_S1 p2_s460_s ck_S0) (ck_E1 (ck_S1 p2_s461_s ck_S0) (ck_E1 (ck_S1 p2_s344_s (ck_S1 p2_s345_s ck_S0)) ck_E0))⟩
theorem p2_s504_s {X : Int → Int} {LX : Nat} : ck_Ok p2_O X LX 292 p2_s504 := by
  refine ck_ok_st (cuts := [(14, p2_s504_C)]) (by decide) p2_s504_h p2_s504_a (fun h hm => ?_)
  rw [List.mem_singleton.mp hm]
  refine ⟨List.mem_singleton.mpr rfl, fun σ K0 R0 M0 v _ bc bs L K R M hb1 hb2 hS _ => ?_⟩
  obtain ⟨hF, hl, hs, hf, hfr⟩ := hS
  obtain ⟨u0, e0, g0⟩ := hl.2 0 (.inr (.inr (.inl 226))) rfl
  cases g0
  obtain ⟨u4, e4, t, rfl, ht1, ht2, ht3, -⟩ := hl.2 4 (.inl (0, 29698, [])) rfl
  have ht2 : (0 : Int) ≤ t := ht2
  have ht3 : t ≤ (29698 : Int) := ht3
  obtain ⟨-, hM1, hM2⟩ := (gm_tyr_s hF p2_s504_f).2 t (by omega) (by omega)
  have hM1 : (0 : Int) ≤ M 235 t := hM1
  have hM2 : M 235 t ≤ (31 : Int) := hM2
  refine ck_flow (O := p2_O) hF (k := 226) (fl := 235) (by decide +kernel) (by decide +kernel) (by decide +kernel) e0 e4 ⟨by omega, by omega⟩ ⟨by omega, by omega⟩ (fun hp => ?_) ?_
  · exact ⟨hF, hfr, _, List.mem_cons_self, ⟨_, rfl, ⟨by omega, by omega⟩, by show (0 : Int) ≤ M 235 t - 1; omega, by show M 235 t - 1 ≤ (30 : Int); omega, fun _ h => nomatch h⟩, rfl, ck_leF_s hF hf p2_s504_g⟩
  · exact gm_Wp_wk (Nat.le_refl _) hb1 hb2 (ck_go_s (σ0 := σ) (cuts := []) (by decide) p2_s504_h ck_X0 ck_l0 900 true [] _ _ 34 _ [] _ _ σ L [] K R M (fun _ _ => rfl) (fun _ h => nomatch h) ⟨hF, hl, rfl, hf, hfr⟩ p2_s504_b)
set_option maxRecDepth 100000 in
/-- GlacierMailModel.runs -/
def p2_s505 : ck_Sum := ((2, 0, 0), 245, [.inr (.inr (.inl 226)), .inl (0, 6, []), .inl (0, 98, []), .inl (0, 299, []), .inl (ck_one 1), .inl ((-1), 7, [])], ([], [], [(227, 2, 2, (0, 8, [(20, 0)])), (227, 5, 5, (0, 8, [(23, 0)]))]), ([(226, 17, 23), (226, 26, 26), (226, 29, 30), (235, 0, 29699), (236, 0, 299), (237, 0, 299)], []), [(.inr none, 245, ([], [], []))])
set_option maxRecDepth 100000 in
theorem p2_s505_e : ck_ok p2_O none [] [(259, [p2_s200]), (292, [p2_s504]), (307, [p2_s463])] 306 [(3, [some (.inr (.inr (.inl 226))), some (.inl (0, 6, [])), some (.inl (0, 98, [])), some (.inl (0, 299, [])), some (.inl (ck_one 1)), some (.inl ((-1), 7, [])), some (.inl (0, 299, [])), none, none], ([], [], [(227, 2, 2, (0, 8, [(20, 0)])), (227, 5, 5, (0, 8, [(23, 0)]))]), 100, .inl 6, true), (50, [some (.inr (.inr (.inl 226))), some (.inl (0, 6, [])), some (.inl (0, 98, [])), some (.inl (0, 299, [])), some (.inl (ck_one 1)), some (.inl ((-1), 7, [])), some (.inl (0, 288, [])), some (.inl (ck_one 0)), some (.inl (0, 300, []))], ([], [], [(226, 29, 29, ((-1), 299, [])), (227, 2, 2, (0, 8, [(20, 0)])), (227, 5, 5, (0, 8, [(23, 0)]))]), 300, .inl 8, true)] 428 p2_s505 = true := by decide +kernel
theorem p2_s505_s {X : Int → Int} {LX : Nat} : ck_Ok p2_O X LX 306 p2_s505 := ck_ok_s ⟨p2_nmu, ck_E1 (ck_S1 p2_s200_s ck_S0) (ck_E1 (ck_S1 p2_s504_s ck_S0) (ck_E1 (ck_S1 p2_s463_s ck_S0) ck_E0))⟩ ck_X0 ck_l0 p2_s505_e
set_option maxRecDepth 100000 in
def p2_s548 : ck_Sum := ((1, 0, 0), 245, [.inr (.inr (.inl 226)), .inl (0, 6, []), .inl (0, 97, []), .inl (0, 298, [])], ([], [], [(227, 2, 2, (0, 8, [(20, 0)]))]), ([(226, 17, 23), (226, 26, 26), (235, 0, 29699)], []), [(.inr (some (.inl (0, 30, []))), 245, ([], [], [(226, 26, 26, (0, 6, []))]))])
def p2_s548_E : List (Nat × List ck_Sum) := [(293, [p2_s460]), (290, [p2_s506]), (294, [p2_s344, p2_s345])]
def p2_s548_L : ck_AL := [some (.inr (.inr (.inl 226))), some (.inl (0, 6, [])), some (.inl (0, 97, [])), some (.inl (0, 298, [])), some (.inl (0, 29398, [])), none]
set_option maxRecDepth 100000 in
def p2_s548_F : ck_F := ([], [], [(226, 26, 26, (0, 6, [])), (227, 2, 2, (0, 8, [(20, 0)]))])
def p2_s548_C : ck_C := (p2_s548_L, p2_s548_F, 0, .inl 4, true)
set_option maxRecDepth 100000 in
theorem p2_s548_a : (decide (p2_s548.2.2.1.length ≤ gm_ml 292) && ck_go p2_O none [] p2_s548_E 292 p2_s548.1.1 p2_s548.2.1 p2_s548.2.2.2.2.1 p2_s548.2.2.2.2.2 [(14, p2_s548_C)] 900 false [(14, p2_s548_C, 0, 0, 245)] p2_s548.1.2.1 p2_s548.1.2.2 0 (p2_s548.2.2.1.map some ++ List.replicate (gm_ml 292 - p2_s548.2.2.1.length) none) [] p2_s548.2.1 p2_s548.2.2.2.1) = true := by decide +kernel
set_option maxRecDepth 100000 in
theorem p2_s548_b : ck_go p2_O none [] p2_s548_E 292 p2_s548.1.1 p2_s548.2.1 p2_s548.2.2.2.2.1 p2_s548.2.2.2.2.2 [] 900 true [] 0 0 34 p2_s548_L [] 245 p2_s548_F = true := by decide +kernel
set_option maxRecDepth 100000 in
theorem p2_s548_f : gm_tyr p2_O 235 0 29699 = some (0, 31) := by decide +kernel
set_option maxRecDepth 100000 in
theorem p2_s548_g : ck_leF p2_O p2_s548_F (([], [], [(226, 26, 26, (0, 6, []))])) = true := by decide +kernel
theorem p2_s548_h {X : Int → Int} {LX : Nat} : ck_nmu p2_O ∧ ck_OkE p2_O X LX p2_s548_E := ⟨p2_nmu, ck_E1 (ck_S1 p2_s460_s ck_S0) (ck_E1 (ck_S1 p2_s506_s ck_S0) (ck_E1 (ck_S1 p2_s344_s (ck_S1 p2_s345_s ck_S0)) ck_E0))⟩
theorem p2_s548_s {X : Int → Int} {LX : Nat} : ck_Ok p2_O X LX 292 p2_s548 := by
  refine ck_ok_st (cuts := [(14, p2_s548_C)]) (by decide) p2_s548_h p2_s548_a (fun h hm => ?_)
  rw [List.mem_singleton.mp hm]
  refine ⟨List.mem_singleton.mpr rfl, fun σ K0 R0 M0 v _ bc bs L K R M hb1 hb2 hS _ => ?_⟩
  obtain ⟨hF, hl, hs, hf, hfr⟩ := hS
  obtain ⟨u0, e0, g0⟩ := hl.2 0 (.inr (.inr (.inl 226))) rfl
  cases g0
  obtain ⟨u4, e4, t, rfl, ht1, ht2, ht3, -⟩ := hl.2 4 (.inl (0, 29398, [])) rfl
  have ht2 : (0 : Int) ≤ t := ht2
  have ht3 : t ≤ (29398 : Int) := ht3
  obtain ⟨-, hM1, hM2⟩ := (gm_tyr_s hF p2_s548_f).2 t (by omega) (by omega)
  have hM1 : (0 : Int) ≤ M 235 t := hM1
  have hM2 : M 235 t ≤ (31 : Int) := hM2
  refine ck_flow (O := p2_O) hF (k := 226) (fl := 235) (by decide +kernel) (by decide +kernel) (by decide +kernel) e0 e4 ⟨by omega, by omega⟩ ⟨by omega, by omega⟩ (fun hp => ?_) ?_
  · exact ⟨hF, hfr, _, List.mem_cons_self, ⟨_, rfl, ⟨by omega, by omega⟩, by show (0 : Int) ≤ M 235 t - 1; omega, by show M 235 t - 1 ≤ (30 : Int); omega, fun _ h => nomatch h⟩, rfl, ck_leF_s hF hf p2_s548_g⟩
  · exact gm_Wp_wk (Nat.le_refl _) hb1 hb2 (ck_go_s (σ0 := σ) (cuts := []) (by decide) p2_s548_h ck_X0 ck_l0 900 true [] _ _ 34 _ [] _ _ σ L [] K R M (fun _ _ => rfl) (fun _ h => nomatch h) ⟨hF, hl, rfl, hf, hfr⟩ p2_s548_b)
set_option maxRecDepth 100000 in
/-- GlacierMailModel.runs -/
def p2_s549 : ck_Sum := ((2, 0, 0), 245, [.inr (.inr (.inl 226)), .inl (0, 6, []), .inl (0, 98, []), .inl (0, 299, []), .inl (ck_one 0), .inl ((-1), 7, [])], ([], [], [(227, 2, 2, (0, 8, [(20, 0)])), (227, 5, 5, (0, 8, [(23, 0)]))]), ([(226, 17, 23), (226, 26, 26), (226, 29, 30), (235, 0, 29699), (236, 0, 299), (237, 0, 299)], []), [(.inr none, 245, ([], [], []))])
set_option maxRecDepth 100000 in
theorem p2_s549_e : ck_ok p2_O none [] [(259, [p2_s200]), (292, [p2_s504, p2_s548]), (307, [p2_s463])] 306 [(3, [some (.inr (.inr (.inl 226))), some (.inl (0, 6, [])), some (.inl (0, 98, [])), some (.inl (0, 299, [])), some (.inl (ck_one 0)), some (.inl ((-1), 7, [])), some (.inl (0, 299, [])), none, none], ([], [], [(227, 2, 2, (0, 8, [(20, 0)])), (227, 5, 5, (0, 8, [(23, 0)]))]), 100, .inl 6, true), (50, [some (.inr (.inr (.inl 226))), some (.inl (0, 6, [])), some (.inl (0, 98, [])), some (.inl (0, 299, [])), some (.inl (ck_one 0)), some (.inl ((-1), 7, [])), some (.inl (0, 288, [])), some (.inl (0, 99, [])), some (.inl (0, 300, []))], ([], [], [(226, 29, 29, ((-1), 299, [])), (227, 2, 2, (0, 8, [(20, 0)])), (227, 5, 5, (0, 8, [(23, 0)]))]), 300, .inl 8, true)] 506 p2_s549 = true := by decide +kernel
theorem p2_s549_s {X : Int → Int} {LX : Nat} : ck_Ok p2_O X LX 306 p2_s549 := ck_ok_s ⟨p2_nmu, ck_E1 (ck_S1 p2_s200_s ck_S0) (ck_E1 (ck_S1 p2_s504_s (ck_S1 p2_s548_s ck_S0)) (ck_E1 (ck_S1 p2_s463_s ck_S0) ck_E0))⟩ ck_X0 ck_l0 p2_s549_e
set_option maxRecDepth 100000 in
/-- GlacierMailModel.runsLetter -/
def p2_s550 : ck_Sum := ((3, 0, 0), 245, [.inr (.inr (.inl 226)), .inl (0, 23, []), .inl ((-1), 7, [])], ([], [], [(227, 2, 2, (0, 8, [(20, 0)])), (227, 5, 5, (0, 8, [(23, 0)]))]), ([(226, 17, 23), (226, 26, 26), (226, 29, 30), (235, 0, 29699), (236, 0, 299), (237, 0, 299)], []), [(.inr none, 245, ([], [], []))])
set_option maxRecDepth 100000 in
theorem p2_s550_e : ck_ok p2_O none [] [(301, [p2_s457, p2_s458, p2_s459]), (303, [p2_s455]), (306, [p2_s505, p2_s549])] 305 [] 108 p2_s550 = true := by decide +kernel
theorem p2_s550_s {X : Int → Int} {LX : Nat} : ck_Ok p2_O X LX 305 p2_s550 := ck_ok_s ⟨p2_nmu, ck_E1 (ck_S1 p2_s457_s (ck_S1 p2_s458_s (ck_S1 p2_s459_s ck_S0))) (ck_E1 (ck_S1 p2_s455_s ck_S0) (ck_E1 (ck_S1 p2_s505_s (ck_S1 p2_s549_s ck_S0)) ck_E0))⟩ ck_X0 ck_l0 p2_s550_e
set_option maxRecDepth 100000 in
/-- GlacierMailModel.outOf -/
def p2_s551 : ck_Sum := ((4, 0, 0), 245, [.inr (.inr (.inl 226)), .inl (0, 23, [])], ([], [], [(227, 2, 2, (0, 8, [(20, 0)])), (227, 5, 5, (0, 8, [(23, 0)]))]), ([(226, 17, 23), (226, 26, 26), (226, 29, 30), (235, 0, 29699), (236, 0, 299), (237, 0, 299)], []), [(.inr (some (.inl (ck_one (-1)))), 245, ([], [], [(226, 29, 29, ck_one (-1))])), (.inr (some (.inl (0, 299, []))), 245, ([], [], [(226, 29, 29, (0, 299, []))]))])
set_option maxRecDepth 100000 in
theorem p2_s551_e : ck_ok p2_O none [] [(305, [p2_s550])] 304 [] 84 p2_s551 = true := by decide +kernel
theorem p2_s551_s {X : Int → Int} {LX : Nat} : ck_Ok p2_O X LX 304 p2_s551 := ck_ok_s ⟨p2_nmu, ck_E1 (ck_S1 p2_s550_s ck_S0) ck_E0⟩ ck_X0 ck_l0 p2_s551_e
set_option maxRecDepth 100000 in
/-- GlacierMailModel.isWaiting -/
def p2_s552 : ck_Sum := ((5, 0, 0), 245, [.inr (.inr (.inl 226)), .inl (0, 23, [])], ([], [], [(227, 2, 2, (0, 8, [(20, 0)])), (227, 5, 5, (0, 8, [(23, 0)])), (227, 9, 9, (0, 299, [(11, 0)]))]), ([(226, 17, 23), (226, 26, 26), (226, 29, 30), (235, 0, 29699), (236, 0, 299), (237, 0, 299)], []), [(.inr (some (.inl (ck_one 0))), 245, ([], [], [])), (.inr (some (.inl (ck_one 1))), 245, ([], [], [(226, 29, 29, (0, 299, []))]))])
set_option maxRecDepth 100000 in
theorem p2_s552_e : ck_ok p2_O none [] [(303, [p2_s455]), (301, [p2_s456]), (304, [p2_s551]), (266, [p2_s207])] 302 [] 114 p2_s552 = true := by decide +kernel
theorem p2_s552_s {X : Int → Int} {LX : Nat} : ck_Ok p2_O X LX 302 p2_s552 := ck_ok_s ⟨p2_nmu, ck_E1 (ck_S1 p2_s455_s ck_S0) (ck_E1 (ck_S1 p2_s456_s ck_S0) (ck_E1 (ck_S1 p2_s551_s ck_S0) (ck_E1 (ck_S1 p2_s207_s ck_S0) ck_E0)))⟩ ck_X0 ck_l0 p2_s552_e
set_option maxRecDepth 100000 in
/-- GlacierMailModel.countOf -/
def p2_s595 : ck_Sum := ((6, 0, 0), 245, [.inr (.inr (.inl 226)), .inl (0, 7, []), .inl (3, 9, [])], ([], [], [(227, 2, 2, (0, 8, [(20, 0)])), (227, 4, 4, (0, 24, [(22, 0)])), (227, 5, 5, (0, 8, [(23, 0)])), (227, 9, 9, (0, 299, [(11, 0)]))]), ([(226, 17, 23), (226, 26, 26), (226, 29, 30), (235, 0, 29699), (236, 0, 299), (237, 0, 299)], []), [(.inr (some (.inl ((-2147483648), 2147483647, []))), 245, ([], [], []))])
set_option maxRecDepth 100000 in
theorem p2_s595_e : ck_ok p2_O none [] [(254, [p2_s196]), (301, [p2_s594, p2_s456, p2_s454]), (302, [p2_s552])] 300 [(5, [some (.inr (.inr (.inl 226))), some (.inl (0, 7, [])), some (.inl (3, 9, [])), some (.inl ((-2147483648), 2147483647, [])), some (.inl (0, 24, [])), none], ([], [], [(227, 2, 2, (0, 8, [(20, 0)])), (227, 4, 4, (0, 24, [(22, 0)])), (227, 5, 5, (0, 8, [(23, 0)])), (227, 9, 9, (0, 299, [(11, 0)]))]), 100, .inl 4, true)] 222 p2_s595 = true := by decide +kernel
theorem p2_s595_s {X : Int → Int} {LX : Nat} : ck_Ok p2_O X LX 300 p2_s595 := ck_ok_s ⟨p2_nmu, ck_E1 (ck_S1 p2_s196_s ck_S0) (ck_E1 (ck_S1 p2_s594_s (ck_S1 p2_s456_s (ck_S1 p2_s454_s ck_S0))) (ck_E1 (ck_S1 p2_s552_s ck_S0) ck_E0))⟩ ck_X0 ck_l0 p2_s595_e
set_option maxRecDepth 100000 in
/-- GlacierMailModel.person -/
def p2_s597 : ck_Sum := ((7, 0, 0), 245, [.inr (.inr (.inl 226)), .inl (0, 7, []), .inl (0, 9, [])], ([], [], [(227, 2, 2, (0, 8, [(20, 0)])), (227, 3, 3, (0, 8, [(21, 0)])), (227, 4, 4, (0, 24, [(22, 0)])), (227, 5, 5, (0, 8, [(23, 0)])), (227, 9, 9, (0, 299, [(11, 0)]))]), ([(226, 0, 0), (226, 17, 23), (226, 26, 26), (226, 29, 30), (235, 0, 29699), (236, 0, 299), (237, 0, 299)], []), [(.inr (some (.inl (ck_one 0))), 245, ([], [], [(226, 0, 0, (1, 2, []))])), (.inr (some (.inl ((-2147483648), 2147483647, []))), 245, ([], [], [(226, 0, 0, ck_one 0)]))])
set_option maxRecDepth 100000 in
theorem p2_s597_e : ck_ok p2_O none [] [(298, [p2_s447]), (282, [p2_s268, p2_s269, p2_s272, p2_s270]), (286, [p2_s452]), (300, [p2_s595]), (299, [p2_s596])] 297 [] 128 p2_s597 = true := by decide +kernel
theorem p2_s597_s {X : Int → Int} {LX : Nat} : ck_Ok p2_O X LX 297 p2_s597 := ck_ok_s ⟨p2_nmu, ck_E1 (ck_S1 p2_s447_s ck_S0) (ck_E1 (ck_S1 p2_s268_s (ck_S1 p2_s269_s (ck_S1 p2_s272_s (ck_S1 p2_s270_s ck_S0)))) (ck_E1 (ck_S1 p2_s452_s ck_S0) (ck_E1 (ck_S1 p2_s595_s ck_S0) (ck_E1 (ck_S1 p2_s596_s ck_S0) ck_E0))))⟩ ck_X0 ck_l0 p2_s597_e
set_option maxRecDepth 100000 in
/-- GlacierMailModel.letter -/
def p2_s628 : ck_Sum := ((5, 0, 0), 245, [.inr (.inr (.inl 226)), .inl (0, 23, []), .inl (0, 9, [])], ([], [], [(227, 2, 2, (0, 8, [(20, 0)])), (227, 4, 4, (0, 24, [(22, 0)])), (227, 5, 5, (0, 8, [(23, 0)]))]), ([(226, 0, 0), (226, 17, 23), (226, 26, 26), (226, 29, 30), (235, 0, 29699), (236, 0, 299), (237, 0, 299)], []), [(.inr (some (.inl (0, 299, []))), 245, ([], [], [(226, 0, 0, (0, 1, []))])), (.inr (some (.inl ((-1), 299, []))), 245, ([], [], [(226, 0, 0, ck_one 0)]))])
set_option maxRecDepth 100000 in
theorem p2_s628_e : ck_ok p2_O none [] [(309, [p2_s618]), (282, [p2_s268, p2_s269, p2_s270]), (286, [p2_s623]), (304, [p2_s551]), (310, [p2_s626]), (301, [p2_s627])] 308 [] 152 p2_s628 = true := by decide +kernel
theorem p2_s628_s {X : Int → Int} {LX : Nat} : ck_Ok p2_O X LX 308 p2_s628 := ck_ok_s ⟨p2_nmu, ck_E1 (ck_S1 p2_s618_s ck_S0) (ck_E1 (ck_S1 p2_s268_s (ck_S1 p2_s269_s (ck_S1 p2_s270_s ck_S0))) (ck_E1 (ck_S1 p2_s623_s ck_S0) (ck_E1 (ck_S1 p2_s551_s ck_S0) (ck_E1 (ck_S1 p2_s626_s ck_S0) (ck_E1 (ck_S1 p2_s627_s ck_S0) ck_E0)))))⟩ ck_X0 ck_l0 p2_s628_e
set_option maxRecDepth 100000 in
/-- GlacierMailModel.where -/
def p2_s639 : ck_Sum := ((4, 0, 0), 245, [.inr (.inr (.inl 226)), .inl (0, 23, []), .inl (0, 299, [])], ([], [], [(227, 2, 2, (0, 8, [(20, 0)])), (227, 4, 4, (0, 24, [(22, 0)])), (227, 5, 5, (0, 8, [(23, 0)]))]), ([(226, 0, 0), (226, 17, 23), (226, 26, 26), (226, 29, 30), (235, 0, 29699), (236, 0, 299), (237, 0, 299)], []), [(.inr (some (.inl (ck_one 0))), 245, ([], [], [(226, 0, 0, ck_one 1)])), (.inr (some (.inl ((-1), 99, []))), 245, ([], [], [(226, 0, 0, ck_one 0)]))])
set_option maxRecDepth 100000 in
theorem p2_s639_e : ck_ok p2_O none [] [(309, [p2_s618]), (282, [p2_s268, p2_s269, p2_s270]), (285, [p2_s290]), (305, [p2_s550])] 313 [] 120 p2_s639 = true := by decide +kernel
theorem p2_s639_s {X : Int → Int} {LX : Nat} : ck_Ok p2_O X LX 313 p2_s639 := ck_ok_s ⟨p2_nmu, ck_E1 (ck_S1 p2_s618_s ck_S0) (ck_E1 (ck_S1 p2_s268_s (ck_S1 p2_s269_s (ck_S1 p2_s270_s ck_S0))) (ck_E1 (ck_S1 p2_s290_s ck_S0) (ck_E1 (ck_S1 p2_s550_s ck_S0) ck_E0)))⟩ ck_X0 ck_l0 p2_s639_e
set_option maxRecDepth 100000 in
/-- GlacierMailModel.deep -/
def p2_s649 : ck_Sum := ((4, 0, 0), 245, [.inr (.inr (.inl 226)), .inl (0, 23, []), .inl (0, 299, [])], ([], [], [(227, 2, 2, (0, 8, [(20, 0)])), (227, 4, 4, (0, 24, [(22, 0)])), (227, 5, 5, (0, 8, [(23, 0)]))]), ([(226, 0, 0), (226, 17, 23), (226, 26, 26), (226, 29, 30), (235, 0, 29699), (236, 0, 299), (237, 0, 299)], []), [(.inr (some (.inl (ck_one 0))), 245, ([], [], [(226, 0, 0, ck_one 1)])), (.inr (some (.inl ((-1), 99, []))), 245, ([], [], [(226, 0, 0, ck_one 0)]))])
set_option maxRecDepth 100000 in
theorem p2_s649_e : ck_ok p2_O none [] [(309, [p2_s618]), (282, [p2_s268, p2_s269, p2_s270]), (285, [p2_s290]), (305, [p2_s550])] 314 [] 120 p2_s649 = true := by decide +kernel
theorem p2_s649_s {X : Int → Int} {LX : Nat} : ck_Ok p2_O X LX 314 p2_s649 := ck_ok_s ⟨p2_nmu, ck_E1 (ck_S1 p2_s618_s ck_S0) (ck_E1 (ck_S1 p2_s268_s (ck_S1 p2_s269_s (ck_S1 p2_s270_s ck_S0))) (ck_E1 (ck_S1 p2_s290_s ck_S0) (ck_E1 (ck_S1 p2_s550_s ck_S0) ck_E0)))⟩ ck_X0 ck_l0 p2_s649_e
set_option maxRecDepth 100000 in
/-- GlacierMailModel.runs -/
def p2_s1126 : ck_Sum := ((2, 0, 0), 245, [.inr (.inr (.inl 226)), .inl (0, 5, []), .inl (0, 98, []), .inl (0, 299, []), .inl (0, 1, []), .inl ((-1), 7, [])], ([], [], [(227, 2, 2, (0, 8, [(20, 0)])), (227, 5, 5, (0, 8, [(23, 0)]))]), ([(226, 17, 23), (226, 26, 26), (226, 29, 30), (235, 0, 29699), (236, 0, 299), (237, 0, 299)], []), [(.inr none, 245, ([], [], []))])
set_option maxRecDepth 100000 in
theorem p2_s1126_e : ck_ok p2_O none [] [(259, [p2_s200]), (292, [p2_s346]), (307, [p2_s463])] 306 [(3, [some (.inr (.inr (.inl 226))), some (.inl (0, 5, [])), some (.inl (0, 98, [])), some (.inl (0, 299, [])), some (.inl (0, 1, [])), some (.inl ((-1), 7, [])), some (.inl (0, 299, [])), none, none], ([], [], [(227, 2, 2, (0, 8, [(20, 0)])), (227, 5, 5, (0, 8, [(23, 0)]))]), 100, .inl 6, true), (50, [some (.inr (.inr (.inl 226))), some (.inl (0, 5, [])), some (.inl (0, 98, [])), some (.inl (0, 299, [])), some (.inl (0, 1, [])), some (.inl ((-1), 7, [])), some (.inl (0, 288, [])), some (.inl (0, 99, [])), some (.inl (0, 300, []))], ([], [], [(226, 29, 29, ((-1), 299, [])), (227, 2, 2, (0, 8, [(20, 0)])), (227, 5, 5, (0, 8, [(23, 0)]))]), 300, .inl 8, true)] 506 p2_s1126 = true := by decide +kernel
theorem p2_s1126_s {X : Int → Int} {LX : Nat} : ck_Ok p2_O X LX 306 p2_s1126 := ck_ok_s ⟨p2_nmu, ck_E1 (ck_S1 p2_s200_s ck_S0) (ck_E1 (ck_S1 p2_s346_s ck_S0) (ck_E1 (ck_S1 p2_s463_s ck_S0) ck_E0))⟩ ck_X0 ck_l0 p2_s1126_e
set_option maxRecDepth 100000 in
/-- GlacierMailModel.outFrom -/
def p2_s1127 : ck_Sum := ((3, 0, 0), 245, [.inr (.inr (.inl 226)), .inl (0, 5, []), .inl (0, 98, []), .inl (0, 299, [])], ([], [], [(227, 2, 2, (0, 8, [(20, 0)])), (227, 5, 5, (0, 8, [(23, 0)]))]), ([(226, 17, 23), (226, 26, 26), (226, 29, 30), (235, 0, 29699), (236, 0, 299), (237, 0, 299)], []), [(.inr (some (.inl (ck_one (-1)))), 245, ([], [], [(226, 29, 29, ck_one (-1))])), (.inr (some (.inl (0, 299, []))), 245, ([], [], [(226, 29, 29, (0, 299, []))]))])
set_option maxRecDepth 100000 in
theorem p2_s1127_e : ck_ok p2_O none [] [(306, [p2_s1126])] 325 [] 90 p2_s1127 = true := by decide +kernel
theorem p2_s1127_s {X : Int → Int} {LX : Nat} : ck_Ok p2_O X LX 325 p2_s1127 := ck_ok_s ⟨p2_nmu, ck_E1 (ck_S1 p2_s1126_s ck_S0) ck_E0⟩ ck_X0 ck_l0 p2_s1127_e
set_option maxRecDepth 100000 in
/-- GlacierMailModel.throwsFor -/
def p2_s1128 : ck_Sum := ((4, 0, 0), 245, [.inr (.inr (.inl 226)), .inl (0, 5, []), .inl (0, 299, []), .inl (0, 299, []), .inl (0, 9, [])], ([], [], [(227, 2, 2, (0, 8, [(20, 0)])), (227, 5, 5, (0, 8, [(23, 0)])), (227, 9, 9, (0, 299, [(11, 0)]))]), ([(226, 0, 0), (226, 17, 23), (226, 26, 26), (226, 29, 30), (235, 0, 29699), (236, 0, 299), (237, 0, 299)], []), [(.inr (some (.inl (ck_one 0))), 245, ([], [], [(226, 0, 0, (1, 3, []))])), (.inr (some (.inl ((-2147483648), 2147483647, []))), 245, ([], [], [(226, 0, 0, ck_one 0)]))])
set_option maxRecDepth 100000 in
theorem p2_s1128_e : ck_ok p2_O none [] [(288, [p2_s317]), (282, [p2_s268, p2_s269, p2_s270, p2_s771, p2_s763, p2_s272]), (285, [p2_s290]), (266, [p2_s207]), (286, [p2_s1125]), (259, [p2_s200]), (325, [p2_s1127])] 324 [(90, [some (.inr (.inr (.inl 226))), some (.inl (0, 5, [])), some (.inl (0, 299, [])), some (.inl (0, 299, [])), some (.inl (0, 9, [])), some (.inl ((-2147483648), 2147483647, [])), some (.inl ((-1), 167, [])), some (.inl ((-1), 167, [])), some (.inl (0, 167, []))], ([], [], [(226, 0, 0, ck_one 0), (227, 2, 2, (0, 8, [(20, 0)])), (227, 5, 5, (0, 8, [(23, 0)])), (227, 9, 9, (0, 299, [(11, 0)]))]), 100, .inl 8, true)] 266 p2_s1128 = true := by decide +kernel
theorem p2_s1128_s {X : Int → Int} {LX : Nat} : ck_Ok p2_O X LX 324 p2_s1128 := ck_ok_s ⟨p2_nmu, ck_E1 (ck_S1 p2_s317_s ck_S0) (ck_E1 (ck_S1 p2_s268_s (ck_S1 p2_s269_s (ck_S1 p2_s270_s (ck_S1 p2_s771_s (ck_S1 p2_s763_s (ck_S1 p2_s272_s ck_S0)))))) (ck_E1 (ck_S1 p2_s290_s ck_S0) (ck_E1 (ck_S1 p2_s207_s ck_S0) (ck_E1 (ck_S1 p2_s1125_s ck_S0) (ck_E1 (ck_S1 p2_s200_s ck_S0) (ck_E1 (ck_S1 p2_s1127_s ck_S0) ck_E0))))))⟩ ck_X0 ck_l0 p2_s1128_e
set_option maxRecDepth 100000 in
/-- GlacierMailModel.runs -/
def p2_s2945 : ck_Sum := ((2, 0, 0), 245, [.inr (.inr (.inl 226)), .inl (0, 6, []), .inl (0, 98, []), .inl (0, 299, []), .inl (ck_one 0), .inl (ck_one (-1))], ([], [], [(227, 2, 2, (0, 8, [(20, 0)])), (227, 5, 5, (0, 8, [(23, 0)]))]), ([(226, 17, 23), (226, 26, 26), (226, 29, 30), (235, 0, 29699), (236, 0, 299), (237, 0, 299)], []), [(.inr none, 245, ([], [], []))])
set_option maxRecDepth 100000 in
theorem p2_s2945_e : ck_ok p2_O none [] [(259, [p2_s200]), (292, [p2_s504, p2_s548]), (307, [p2_s463])] 306 [(3, [some (.inr (.inr (.inl 226))), some (.inl (0, 6, [])), some (.inl (0, 98, [])), some (.inl (0, 299, [])), some (.inl (ck_one 0)), some (.inl (ck_one (-1))), some (.inl (0, 299, [])), none, none], ([], [], [(227, 2, 2, (0, 8, [(20, 0)])), (227, 5, 5, (0, 8, [(23, 0)]))]), 100, .inl 6, true), (50, [some (.inr (.inr (.inl 226))), some (.inl (0, 6, [])), some (.inl (0, 98, [])), some (.inl (0, 299, [])), some (.inl (ck_one 0)), some (.inl (ck_one (-1))), some (.inl (0, 288, [])), some (.inl (0, 99, [])), some (.inl (0, 300, []))], ([], [], [(226, 29, 29, ((-1), 299, [])), (227, 2, 2, (0, 8, [(20, 0)])), (227, 5, 5, (0, 8, [(23, 0)]))]), 300, .inl 8, true)] 506 p2_s2945 = true := by decide +kernel
theorem p2_s2945_s {X : Int → Int} {LX : Nat} : ck_Ok p2_O X LX 306 p2_s2945 := ck_ok_s ⟨p2_nmu, ck_E1 (ck_S1 p2_s200_s ck_S0) (ck_E1 (ck_S1 p2_s504_s (ck_S1 p2_s548_s ck_S0)) (ck_E1 (ck_S1 p2_s463_s ck_S0) ck_E0))⟩ ck_X0 ck_l0 p2_s2945_e
set_option maxRecDepth 100000 in
/-- GlacierMailModel.outFrom -/
def p2_s2946 : ck_Sum := ((3, 0, 0), 245, [.inr (.inr (.inl 226)), .inl (0, 6, []), .inl (0, 98, []), .inl (0, 299, [])], ([], [], [(227, 2, 2, (0, 8, [(20, 0)])), (227, 5, 5, (0, 8, [(23, 0)]))]), ([(226, 17, 23), (226, 26, 26), (226, 29, 30), (235, 0, 29699), (236, 0, 299), (237, 0, 299)], []), [(.inr (some (.inl (ck_one (-1)))), 245, ([], [], [(226, 29, 29, ck_one (-1))])), (.inr (some (.inl (0, 299, []))), 245, ([], [], [(226, 29, 29, (0, 299, []))]))])
set_option maxRecDepth 100000 in
theorem p2_s2946_e : ck_ok p2_O none [] [(306, [p2_s2945])] 325 [] 90 p2_s2946 = true := by decide +kernel
theorem p2_s2946_s {X : Int → Int} {LX : Nat} : ck_Ok p2_O X LX 325 p2_s2946 := ck_ok_s ⟨p2_nmu, ck_E1 (ck_S1 p2_s2945_s ck_S0) ck_E0⟩ ck_X0 ck_l0 p2_s2946_e
set_option maxRecDepth 100000 in
/-- GlacierMailModel.latest -/
def p2_s2947 : ck_Sum := ((4, 0, 0), 245, [.inr (.inr (.inl 226)), .inl (0, 7, []), .inl (0, 299, [])], ([], [], [(227, 2, 2, (0, 8, [(20, 0)])), (227, 3, 3, (0, 8, [(21, 0)])), (227, 5, 5, (0, 8, [(23, 0)])), (227, 9, 9, (0, 299, [(11, 0)]))]), ([(226, 0, 0), (226, 17, 23), (226, 26, 26), (226, 29, 30), (235, 0, 29699), (236, 0, 299), (237, 0, 299)], []), [(.inr (some (.inl (0, 299, []))), 245, ([], [], [(226, 0, 0, (0, 1, []))])), (.inr (some (.inl (ck_one (-1)))), 245, ([], [], [(226, 0, 0, ck_one 0)]))])
set_option maxRecDepth 100000 in
theorem p2_s2947_e : ck_ok p2_O none [] [(298, [p2_s447]), (282, [p2_s268, p2_s269, p2_s270]), (285, [p2_s290]), (266, [p2_s207]), (299, [p2_s765, p2_s766]), (325, [p2_s2946])] 326 [(36, [some (.inr (.inr (.inl 226))), some (.inl (0, 7, [])), some (.inl (0, 299, [])), some (.inl ((-1), 299, [])), none], ([], [], [(226, 0, 0, ck_one 0), (227, 2, 2, (0, 8, [(20, 0)])), (227, 3, 3, (0, 8, [(21, 0)])), (227, 5, 5, (0, 8, [(23, 0)])), (227, 9, 9, (0, 299, [(11, 0)]))]), 100, .inl 3, false)] 186 p2_s2947 = true := by decide +kernel
theorem p2_s2947_s {X : Int → Int} {LX : Nat} : ck_Ok p2_O X LX 326 p2_s2947 := ck_ok_s ⟨p2_nmu, ck_E1 (ck_S1 p2_s447_s ck_S0) (ck_E1 (ck_S1 p2_s268_s (ck_S1 p2_s269_s (ck_S1 p2_s270_s ck_S0))) (ck_E1 (ck_S1 p2_s290_s ck_S0) (ck_E1 (ck_S1 p2_s207_s ck_S0) (ck_E1 (ck_S1 p2_s765_s (ck_S1 p2_s766_s ck_S0)) (ck_E1 (ck_S1 p2_s2946_s ck_S0) ck_E0)))))⟩ ck_X0 ck_l0 p2_s2947_e
set_option maxRecDepth 100000 in
/-- GlacierMailModel.hut -/
def p2_s2960 : ck_Sum := ((4, 0, 0), 245, [.inr (.inr (.inl 226)), .inl (0, 5, []), .inl (0, 299, [])], ([], [], [(227, 2, 2, (0, 8, [(20, 0)])), (227, 5, 5, (0, 8, [(23, 0)])), (227, 9, 9, (0, 299, [(11, 0)]))]), ([(226, 0, 0), (226, 17, 23), (226, 26, 26), (226, 29, 30), (235, 0, 29699), (236, 0, 299), (237, 0, 299)], []), [(.inr (some (.inl (0, 98, []))), 245, ([], [], [(226, 0, 0, (0, 2, []))])), (.inr (some (.inl (ck_one (-1)))), 245, ([], [], [(226, 0, 0, ck_one 0)]))])
set_option maxRecDepth 100000 in
theorem p2_s2960_e : ck_ok p2_O none [] [(288, [p2_s317]), (282, [p2_s268, p2_s269, p2_s272, p2_s270]), (286, [p2_s2959]), (259, [p2_s200]), (266, [p2_s207]), (325, [p2_s1127])] 327 [(46, [some (.inr (.inr (.inl 226))), some (.inl (0, 5, [])), some (.inl (0, 299, [])), some (.inl (0, 167, [])), none], ([], [], [(226, 0, 0, ck_one 0), (227, 2, 2, (0, 8, [(20, 0)])), (227, 5, 5, (0, 8, [(23, 0)])), (227, 9, 9, (0, 299, [(11, 0)]))]), 100, .inl 3, true)] 182 p2_s2960 = true := by decide +kernel
theorem p2_s2960_s {X : Int → Int} {LX : Nat} : ck_Ok p2_O X LX 327 p2_s2960 := ck_ok_s ⟨p2_nmu, ck_E1 (ck_S1 p2_s317_s ck_S0) (ck_E1 (ck_S1 p2_s268_s (ck_S1 p2_s269_s (ck_S1 p2_s272_s (ck_S1 p2_s270_s ck_S0)))) (ck_E1 (ck_S1 p2_s2959_s ck_S0) (ck_E1 (ck_S1 p2_s200_s ck_S0) (ck_E1 (ck_S1 p2_s207_s ck_S0) (ck_E1 (ck_S1 p2_s1127_s ck_S0) ck_E0)))))⟩ ck_X0 ck_l0 p2_s2960_e
set_option maxRecDepth 100000 in
/-- GlacierMailModel.without -/
def p2_s2971 : ck_Sum := ((4, 0, 0), 245, [.inr (.inr (.inl 226)), .inl (0, 23, []), .inl (0, 7, [])], ([], [], [(227, 2, 2, (0, 8, [(20, 0)])), (227, 4, 4, (0, 24, [(22, 0)])), (227, 5, 5, (0, 8, [(23, 0)]))]), ([(226, 0, 0), (226, 17, 23), (226, 26, 26), (226, 29, 30), (235, 0, 29699), (236, 0, 299), (237, 0, 299)], []), [(.inr (some (.inl (0, 299, []))), 245, ([], [], [(226, 0, 0, (0, 1, []))])), (.inr (some (.inl (ck_one (-1)))), 245, ([], [], [(226, 29, 29, ck_one (-1)), (226, 0, 0, ck_one 0)]))])
set_option maxRecDepth 100000 in
theorem p2_s2971_e : ck_ok p2_O none [] [(309, [p2_s618]), (282, [p2_s268, p2_s269]), (286, [p2_s446]), (305, [p2_s550])] 328 [] 128 p2_s2971 = true := by decide +kernel
theorem p2_s2971_s {X : Int → Int} {LX : Nat} : ck_Ok p2_O X LX 328 p2_s2971 := ck_ok_s ⟨p2_nmu, ck_E1 (ck_S1 p2_s618_s ck_S0) (ck_E1 (ck_S1 p2_s268_s (ck_S1 p2_s269_s ck_S0)) (ck_E1 (ck_S1 p2_s446_s ck_S0) (ck_E1 (ck_S1 p2_s550_s ck_S0) ck_E0)))⟩ ck_X0 ck_l0 p2_s2971_e
set_option maxRecDepth 100000 in
/-- GlacierMailModel.moved -/
def p2_s2977 : ck_Sum := ((4, 0, 0), 245, [.inr (.inr (.inl 226)), .inl (0, 23, [])], ([], [], [(227, 2, 2, (0, 8, [(20, 0)])), (227, 4, 4, (0, 24, [(22, 0)])), (227, 5, 5, (0, 8, [(23, 0)]))]), ([(226, 0, 0), (226, 17, 23), (226, 26, 26), (226, 29, 30), (235, 0, 29699), (236, 0, 299), (237, 0, 299)], []), [(.inr (some (.inl (0, 2147483647, []))), 245, ([], [], [(226, 0, 0, (0, 1, []))])), (.inr (some (.inl ((-2147483648), (-1), []))), 245, ([], [], [(226, 30, 30, ((-2147483648), (-1), [])), (226, 0, 0, ck_one 0)]))])
set_option maxRecDepth 100000 in
theorem p2_s2977_e : ck_ok p2_O none [] [(309, [p2_s618]), (282, [p2_s268, p2_s269]), (305, [p2_s550])] 329 [] 104 p2_s2977 = true := by decide +kernel
theorem p2_s2977_s {X : Int → Int} {LX : Nat} : ck_Ok p2_O X LX 329 p2_s2977 := ck_ok_s ⟨p2_nmu, ck_E1 (ck_S1 p2_s618_s ck_S0) (ck_E1 (ck_S1 p2_s268_s (ck_S1 p2_s269_s ck_S0)) (ck_E1 (ck_S1 p2_s550_s ck_S0) ck_E0))⟩ ck_X0 ck_l0 p2_s2977_e
set_option maxRecDepth 100000 in
/-- GlacierMailModel.lost -/
def p2_s2979 : ck_Sum := ((5, 0, 0), 245, [.inr (.inr (.inl 226))], ([], [], [(227, 2, 2, (0, 8, [(20, 0)])), (227, 4, 4, (0, 24, [(22, 0)])), (227, 5, 5, (0, 8, [(23, 0)]))]), ([(226, 0, 0), (226, 17, 23), (226, 26, 26), (226, 29, 30), (235, 0, 29699), (236, 0, 299), (237, 0, 299)], []), [(.inr (some (.inl ((-2147483648), 2147483647, []))), 245, ([], [], [(226, 0, 0, ck_one 0)]))])
set_option maxRecDepth 100000 in
theorem p2_s2979_e : ck_ok p2_O none [] [(254, [p2_s196]), (304, [p2_s551])] 330 [(9, [some (.inr (.inr (.inl 226))), some (.inl ((-2147483648), 2147483647, [])), some (.inl (0, 24, []))], ([], [], [(226, 0, 0, ck_one 0), (227, 2, 2, (0, 8, [(20, 0)])), (227, 4, 4, (0, 24, [(22, 0)])), (227, 5, 5, (0, 8, [(23, 0)]))]), 100, .inl 2, true)] 162 p2_s2979 = true := by decide +kernel
theorem p2_s2979_s {X : Int → Int} {LX : Nat} : ck_Ok p2_O X LX 330 p2_s2979 := ck_ok_s ⟨p2_nmu, ck_E1 (ck_S1 p2_s196_s ck_S0) (ck_E1 (ck_S1 p2_s551_s ck_S0) ck_E0)⟩ ck_X0 ck_l0 p2_s2979_e
set_option maxRecDepth 100000 in
/-- GlacierMailModel.outsAll -/
def p2_s2982 : ck_Sum := ((5, 0, 0), 245, [.inr (.inr (.inl 226))], ([], [], [(227, 2, 2, (0, 8, [(20, 0)])), (227, 4, 4, (0, 24, [(22, 0)])), (227, 5, 5, (0, 8, [(23, 0)]))]), ([(226, 17, 23), (226, 26, 26), (226, 29, 30), (235, 0, 29699), (236, 0, 299), (237, 0, 299), (238, 0, 23)], []), [(.inr none, 245, ([], [], []))])
set_option maxRecDepth 100000 in
theorem p2_s2982_e : ck_ok p2_O none [] [(254, [p2_s196]), (304, [p2_s551])] 332 [(2, [some (.inr (.inr (.inl 226))), some (.inl (0, 24, []))], ([], [], [(227, 2, 2, (0, 8, [(20, 0)])), (227, 4, 4, (0, 24, [(22, 0)])), (227, 5, 5, (0, 8, [(23, 0)]))]), 100, .inl 1, true)] 146 p2_s2982 = true := by decide +kernel
theorem p2_s2982_s {X : Int → Int} {LX : Nat} : ck_Ok p2_O X LX 332 p2_s2982 := ck_ok_s ⟨p2_nmu, ck_E1 (ck_S1 p2_s196_s ck_S0) (ck_E1 (ck_S1 p2_s551_s ck_S0) ck_E0)⟩ ck_X0 ck_l0 p2_s2982_e
set_option maxRecDepth 100000 in
/-- GlacierMailModel.market -/
def p2_s2999 : ck_Sum := ((6, 0, 0), 245, [.inr (.inr (.inl 226)), .inl (0, 1, [])], ([], [], [(227, 2, 2, (0, 8, [(20, 0)])), (227, 4, 4, (0, 24, [(22, 0)])), (227, 5, 5, (0, 8, [(23, 0)]))]), ([(226, 0, 0), (226, 17, 23), (226, 26, 26), (226, 29, 30), (235, 0, 29699), (236, 0, 299), (237, 0, 299), (238, 0, 23)], []), [(.inr (some (.inl ((-1), 299, []))), 245, ([], [], [(226, 0, 0, ck_one 0)])), (.inr (some (.inl (0, 2147483647, []))), 245, ([], [], [(226, 0, 0, ck_one 0)]))])
set_option maxRecDepth 100000 in
theorem p2_s2999_e : ck_ok p2_O none [] [(332, [p2_s2982]), (333, [p2_s2998])] 331 [(16, [some (.inr (.inr (.inl 226))), some (.inl (0, 1, [])), some (.inl ((-1), 299, [])), some (.inl (0, 2147483647, [])), some (.inl (0, 300, [])), none], ([], [], [(226, 0, 0, ck_one 0), (227, 2, 2, (0, 8, [(20, 0)])), (227, 4, 4, (0, 24, [(22, 0)])), (227, 5, 5, (0, 8, [(23, 0)]))]), 100, .inl 4, true)] 166 p2_s2999 = true := by decide +kernel
theorem p2_s2999_s {X : Int → Int} {LX : Nat} : ck_Ok p2_O X LX 331 p2_s2999 := ck_ok_s ⟨p2_nmu, ck_E1 (ck_S1 p2_s2982_s ck_S0) (ck_E1 (ck_S1 p2_s2998_s ck_S0) ck_E0)⟩ ck_X0 ck_l0 p2_s2999_e
set_option maxRecDepth 100000 in
/-- GlacierMailModel.passes -/
def p2_s3069 : ck_Sum := ((4, 0, 0), 245, [.inr (.inr (.inl 226)), .inl (0, 23, [])], ([], [], [(227, 2, 2, (0, 8, [(20, 0)])), (227, 4, 4, (0, 24, [(22, 0)])), (227, 5, 5, (0, 8, [(23, 0)]))]), ([(226, 0, 0), (226, 17, 23), (226, 26, 26), (226, 29, 30), (235, 0, 29699), (236, 0, 299), (237, 0, 299), (239, 0, 299)], []), [(.inr (some (.inl (ck_one 0))), 245, ([], [], [(226, 0, 0, ck_one 1)])), (.inr (some (.inl ((-2147483648), 2147483647, []))), 245, ([], [], [(226, 0, 0, ck_one 0)]))])
set_option maxRecDepth 100000 in
theorem p2_s3069_e : ck_ok p2_O none [] [(309, [p2_s618]), (282, [p2_s268, p2_s269]), (305, [p2_s550]), (335, [p2_s3060]), (254, [p2_s196]), (301, [p2_s457, p2_s459]), (336, [p2_s3065])] 334 [(34, [some (.inr (.inr (.inl 226))), some (.inl (0, 23, [])), some (.inl ((-2147483648), 2147483647, [])), some (.inl (0, 24, []))], ([], [], [(226, 0, 0, ck_one 0), (227, 2, 2, (0, 8, [(20, 0)])), (227, 4, 4, (0, 24, [(22, 0)])), (227, 5, 5, (0, 8, [(23, 0)]))]), 100, .inl 3, true)] 250 p2_s3069 = true := by decide +kernel
theorem p2_s3069_s {X : Int → Int} {LX : Nat} : ck_Ok p2_O X LX 334 p2_s3069 := ck_ok_s ⟨p2_nmu, ck_E1 (ck_S1 p2_s618_s ck_S0) (ck_E1 (ck_S1 p2_s268_s (ck_S1 p2_s269_s ck_S0)) (ck_E1 (ck_S1 p2_s550_s ck_S0) (ck_E1 (ck_S1 p2_s3060_s ck_S0) (ck_E1 (ck_S1 p2_s196_s ck_S0) (ck_E1 (ck_S1 p2_s457_s (ck_S1 p2_s459_s ck_S0)) (ck_E1 (ck_S1 p2_s3065_s ck_S0) ck_E0))))))⟩ ck_X0 ck_l0 p2_s3069_e
set_option maxRecDepth 100000 in
/-- GlacierMailModel.wroteIn -/
def p2_s3105 : ck_Sum := ((4, 0, 0), 245, [.inr (.inr (.inl 226)), .inl (0, 7, []), .inl (0, 5, []), .inl (0, 299, []), .inl (0, 99, [])], ([], [], [(227, 2, 2, (0, 8, [(20, 0)])), (227, 5, 5, (0, 8, [(23, 0)]))]), ([(226, 17, 23), (226, 26, 26), (226, 29, 30), (235, 0, 29699), (236, 0, 299), (237, 0, 299)], []), [(.inr (some (.inl (ck_one (-1)))), 245, ([], [], [])), (.inr (some (.inl (0, 298, []))), 245, ([], [], [(226, 29, 29, (0, 299, []))]))])
set_option maxRecDepth 100000 in
theorem p2_s3105_e : ck_ok p2_O none [] [(299, [p2_s765, p2_s766]), (325, [p2_s1127])] 339 [(5, [some (.inr (.inr (.inl 226))), some (.inl (0, 7, [])), some (.inl (0, 5, [])), some (.inl (0, 299, [])), some (.inl (0, 99, [])), some (.inl ((-1), 298, []))], ([], [], [(227, 2, 2, (0, 8, [(20, 0)])), (227, 5, 5, (0, 8, [(23, 0)]))]), 100, .inl 5, false)] 198 p2_s3105 = true := by decide +kernel
theorem p2_s3105_s {X : Int → Int} {LX : Nat} : ck_Ok p2_O X LX 339 p2_s3105 := ck_ok_s ⟨p2_nmu, ck_E1 (ck_S1 p2_s765_s (ck_S1 p2_s766_s ck_S0)) (ck_E1 (ck_S1 p2_s1127_s ck_S0) ck_E0)⟩ ck_X0 ck_l0 p2_s3105_e
set_option maxRecDepth 100000 in
/-- GlacierMailModel.writers -/
def p2_s3106 : ck_Sum := ((5, 0, 0), 245, [.inr (.inr (.inl 226)), .inl (0, 5, []), .inl (0, 299, []), .inl (0, 99, [])], ([], [], [(227, 2, 2, (0, 8, [(20, 0)])), (227, 3, 3, (0, 8, [(21, 0)])), (227, 5, 5, (0, 8, [(23, 0)]))]), ([(226, 0, 0), (226, 17, 23), (226, 26, 26), (226, 29, 30), (235, 0, 29699), (236, 0, 299), (237, 0, 299)], []), [(.inr (some (.inl (ck_one 0))), 245, ([], [], [(226, 0, 0, ck_one 1)])), (.inr (some (.inl ((-2147483648), 2147483647, []))), 245, ([], [], [(226, 0, 0, ck_one 0)]))])
set_option maxRecDepth 100000 in
theorem p2_s3106_e : ck_ok p2_O none [] [(288, [p2_s317]), (282, [p2_s268, p2_s269, p2_s270]), (285, [p2_s290]), (286, [p2_s3097]), (253, [p2_s214]), (339, [p2_s3105])] 338 [(56, [some (.inr (.inr (.inl 226))), some (.inl (0, 5, [])), some (.inl (0, 299, [])), some (.inl (0, 99, [])), some (.inl ((-2147483648), 2147483647, [])), some (.inl (0, 8, []))], ([], [], [(226, 0, 0, ck_one 0), (227, 2, 2, (0, 8, [(20, 0)])), (227, 3, 3, (0, 8, [(21, 0)])), (227, 5, 5, (0, 8, [(23, 0)]))]), 100, .inl 5, true)] 202 p2_s3106 = true := by decide +kernel
theorem p2_s3106_s {X : Int → Int} {LX : Nat} : ck_Ok p2_O X LX 338 p2_s3106 := ck_ok_s ⟨p2_nmu, ck_E1 (ck_S1 p2_s317_s ck_S0) (ck_E1 (ck_S1 p2_s268_s (ck_S1 p2_s269_s (ck_S1 p2_s270_s ck_S0))) (ck_E1 (ck_S1 p2_s290_s ck_S0) (ck_E1 (ck_S1 p2_s3097_s ck_S0) (ck_E1 (ck_S1 p2_s214_s ck_S0) (ck_E1 (ck_S1 p2_s3105_s ck_S0) ck_E0)))))⟩ ck_X0 ck_l0 p2_s3106_e
set_option maxRecDepth 100000 in
/-- GlacierMailModel.wrote -/
def p2_s3124 : ck_Sum := ((5, 0, 0), 245, [.inr (.inr (.inl 226)), .inl (0, 7, []), .inl (0, 5, []), .inl (0, 299, []), .inl (0, 99, [])], ([], [], [(227, 2, 2, (0, 8, [(20, 0)])), (227, 3, 3, (0, 8, [(21, 0)])), (227, 5, 5, (0, 8, [(23, 0)]))]), ([(226, 0, 0), (226, 17, 23), (226, 26, 26), (226, 29, 30), (235, 0, 29699), (236, 0, 299), (237, 0, 299)], []), [(.inr (some (.inl (0, 298, []))), 245, ([], [], [(226, 0, 0, (0, 1, []))])), (.inr (some (.inl (ck_one (-1)))), 245, ([], [], [(226, 0, 0, ck_one 0)]))])
set_option maxRecDepth 100000 in
theorem p2_s3124_e : ck_ok p2_O none [] [(298, [p2_s447]), (282, [p2_s268, p2_s269, p2_s270]), (288, [p2_s317]), (285, [p2_s290]), (286, [p2_s3097]), (339, [p2_s3105])] 340 [] 142 p2_s3124 = true := by decide +kernel
theorem p2_s3124_s {X : Int → Int} {LX : Nat} : ck_Ok p2_O X LX 340 p2_s3124 := ck_ok_s ⟨p2_nmu, ck_E1 (ck_S1 p2_s447_s ck_S0) (ck_E1 (ck_S1 p2_s268_s (ck_S1 p2_s269_s (ck_S1 p2_s270_s ck_S0))) (ck_E1 (ck_S1 p2_s317_s ck_S0) (ck_E1 (ck_S1 p2_s290_s ck_S0) (ck_E1 (ck_S1 p2_s3097_s ck_S0) (ck_E1 (ck_S1 p2_s3105_s ck_S0) ck_E0)))))⟩ ck_X0 ck_l0 p2_s3124_e
set_option maxRecDepth 100000 in
/-- GlacierMailModel.answers -/
def p2_s3239 : ck_Sum := ((4, 0, 0), 245, [.inr (.inr (.inl 226)), .inl (0, 7, [])], ([], [], [(227, 2, 2, (0, 8, [(20, 0)])), (227, 3, 3, (0, 8, [(21, 0)])), (227, 5, 5, (0, 8, [(23, 0)])), (227, 9, 9, (0, 299, [(11, 0)]))]), ([(226, 17, 23), (226, 26, 26), (226, 29, 30), (235, 0, 29699), (236, 0, 299), (237, 0, 299), (240, 0, 2407), (241, 0, 2407), (242, 0, 2407)], []), [(.inr none, 245, ([], [], []))])
set_option maxRecDepth 100000 in
theorem p2_s3239_e : ck_ok p2_O none [] [(266, [p2_s207]), (351, [p2_s3237]), (253, [p2_s214]), (299, [p2_s765, p2_s766]), (325, [p2_s2946]), (352, [p2_s3238])] 350 [(2, [some (.inr (.inr (.inl 226))), some (.inl (0, 7, [])), some (.inl (0, 2408, [])), none, none, none, none], ([], [], [(227, 2, 2, (0, 8, [(20, 0)])), (227, 3, 3, (0, 8, [(21, 0)])), (227, 5, 5, (0, 8, [(23, 0)])), (227, 9, 9, (0, 299, [(11, 0)]))]), 100, .inl 2, true), (61, [some (.inr (.inr (.inl 226))), some (.inl (0, 7, [])), some (.inl (0, 300, [])), none, none, none, none], ([], [], [(227, 2, 2, (0, 8, [(20, 0)])), (227, 3, 3, (0, 8, [(21, 0)])), (227, 5, 5, (0, 8, [(23, 0)])), (227, 9, 9, (0, 299, [(11, 0)]))]), 300, .inl 2, true), (70, [some (.inr (.inr (.inl 226))), some (.inl (0, 7, [])), some (.inl (0, 299, [(300, 0)])), some (.inl (0, 8, [])), none, none, none], ([], [], [(227, 2, 2, (0, 8, [(20, 0)])), (227, 3, 3, (0, 8, [(21, 0)])), (227, 5, 5, (0, 8, [(23, 0)])), (227, 9, 9, (0, 299, [(11, 0)]))]), 500, .inl 3, true), (135, [some (.inr (.inr (.inl 226))), some (.inl (0, 7, [])), some (.inl (0, 299, [(300, 0)])), some (.inl (0, 7, [(500, 0)])), some (.inl (0, 999, [])), some (.inl ((-1), 299, [])), some (.inl (0, 8, []))], ([], [], [(226, 29, 29, ((-1), 299, [])), (227, 2, 2, (0, 8, [(20, 0)])), (227, 3, 3, (1, 8, [(21, 0)])), (227, 5, 5, (0, 8, [(23, 0)])), (227, 9, 9, (0, 299, [(11, 0)]))]), 700, .inl 6, true)] 630 p2_s3239 = true := by decide +kernel
theorem p2_s3239_s {X : Int → Int} {LX : Nat} : ck_Ok p2_O X LX 350 p2_s3239 := ck_ok_s ⟨p2_nmu, ck_E1 (ck_S1 p2_s207_s ck_S0) (ck_E1 (ck_S1 p2_s3237_s ck_S0) (ck_E1 (ck_S1 p2_s214_s ck_S0) (ck_E1 (ck_S1 p2_s765_s (ck_S1 p2_s766_s ck_S0)) (ck_E1 (ck_S1 p2_s2946_s ck_S0) (ck_E1 (ck_S1 p2_s3238_s ck_S0) ck_E0)))))⟩ ck_X0 ck_l0 p2_s3239_e
set_option maxRecDepth 100000 in
/-- GlacierMailModel.soonest -/
def p2_s3241 : ck_Sum := ((5, 0, 0), 245, [.inr (.inr (.inl 226)), .inl (0, 7, []), .inl (0, 7, []), .inl (0, 1, [])], ([], [], [(227, 2, 2, (0, 8, [(20, 0)])), (227, 3, 3, (0, 8, [(21, 0)])), (227, 5, 5, (0, 8, [(23, 0)])), (227, 9, 9, (0, 299, [(11, 0)]))]), ([(226, 0, 0), (226, 17, 23), (226, 26, 26), (226, 29, 30), (235, 0, 29699), (236, 0, 299), (237, 0, 299), (240, 0, 2407), (241, 0, 2407), (242, 0, 2407)], []), [(.inr (some (.inl (0, 1000, []))), 245, ([], [], [(226, 0, 0, (0, 2, []))])), (.inr (some (.inl (ck_one (-1)))), 245, ([], [], [(226, 0, 0, ck_one 0)]))])
set_option maxRecDepth 100000 in
theorem p2_s3241_e : ck_ok p2_O none [] [(298, [p2_s447]), (282, [p2_s268, p2_s269, p2_s270, p2_s272]), (350, [p2_s3239]), (353, [p2_s3240]), (351, [p2_s3237])] 349 [] 154 p2_s3241 = true := by decide +kernel
theorem p2_s3241_s {X : Int → Int} {LX : Nat} : ck_Ok p2_O X LX 349 p2_s3241 := ck_ok_s ⟨p2_nmu, ck_E1 (ck_S1 p2_s447_s ck_S0) (ck_E1 (ck_S1 p2_s268_s (ck_S1 p2_s269_s (ck_S1 p2_s270_s (ck_S1 p2_s272_s ck_S0)))) (ck_E1 (ck_S1 p2_s3239_s ck_S0) (ck_E1 (ck_S1 p2_s3240_s ck_S0) (ck_E1 (ck_S1 p2_s3237_s ck_S0) ck_E0))))⟩ ck_X0 ck_l0 p2_s3241_e
set_option maxRecDepth 100000 in
/-- GlacierMailModel.chain -/
def p2_s3271 : ck_Sum := ((5, 0, 0), 245, [.inr (.inr (.inl 226)), .inl (0, 7, []), .inl (0, 7, []), .inl ((-2147483648), 0, [])], ([], [], [(227, 2, 2, (0, 8, [(20, 0)])), (227, 3, 3, (0, 8, [(21, 0)])), (227, 5, 5, (0, 8, [(23, 0)])), (227, 9, 9, (0, 299, [(11, 0)]))]), ([(226, 0, 0), (226, 17, 23), (226, 26, 26), (226, 29, 30), (226, 36, 36), (235, 0, 29699), (236, 0, 299), (237, 0, 299), (240, 0, 2407), (241, 0, 2407), (242, 0, 2407)], []), [(.inr (some (.inl (ck_one 0))), 245, ([], [], [(226, 0, 0, (1, 2, []))])), (.inr (some (.inl ((-1), 7, []))), 245, ([], [], [(226, 0, 0, ck_one 0)]))])
set_option maxRecDepth 100000 in
theorem p2_s3271_e : ck_ok p2_O none [] [(298, [p2_s447]), (282, [p2_s268, p2_s269, p2_s272, p2_s270]), (350, [p2_s3239]), (353, [p2_s3240]), (351, [p2_s3237]), (355, [p2_s3270])] 354 [(108, [some (.inr (.inr (.inl 226))), some (.inl (0, 7, [])), some (.inl (0, 7, [])), some (.inl (ck_one 0)), some (.inl ((-1), 299, [])), some (.inl ((-1), 7, [])), some (.inl (0, 1000, []))], ([], [], [(226, 0, 0, ck_one 0), (227, 2, 2, (0, 8, [(20, 0)])), (227, 3, 3, (0, 8, [(21, 0)])), (227, 5, 5, (0, 8, [(23, 0)])), (227, 9, 9, (0, 299, [(11, 0)]))]), 100, .inl 6, false)] 302 p2_s3271 = true := by decide +kernel
theorem p2_s3271_s {X : Int → Int} {LX : Nat} : ck_Ok p2_O X LX 354 p2_s3271 := ck_ok_s ⟨p2_nmu, ck_E1 (ck_S1 p2_s447_s ck_S0) (ck_E1 (ck_S1 p2_s268_s (ck_S1 p2_s269_s (ck_S1 p2_s272_s (ck_S1 p2_s270_s ck_S0)))) (ck_E1 (ck_S1 p2_s3239_s ck_S0) (ck_E1 (ck_S1 p2_s3240_s ck_S0) (ck_E1 (ck_S1 p2_s3237_s ck_S0) (ck_E1 (ck_S1 p2_s3270_s ck_S0) ck_E0)))))⟩ ck_X0 ck_l0 p2_s3271_e
set_option maxRecDepth 100000 in
/-- GlacierMailModel.chain -/
def p2_s3274 : ck_Sum := ((5, 0, 0), 245, [.inr (.inr (.inl 226)), .inl (0, 7, []), .inl (0, 7, []), .inl (51, 2147483647, [])], ([], [], [(227, 2, 2, (0, 8, [(20, 0)])), (227, 3, 3, (0, 8, [(21, 0)])), (227, 5, 5, (0, 8, [(23, 0)])), (227, 9, 9, (0, 299, [(11, 0)]))]), ([(226, 0, 0), (226, 17, 23), (226, 26, 26), (226, 29, 30), (226, 36, 36), (235, 0, 29699), (236, 0, 299), (237, 0, 299), (240, 0, 2407), (241, 0, 2407), (242, 0, 2407)], []), [(.inr (some (.inl (ck_one 0))), 245, ([], [], [(226, 0, 0, (1, 2, []))])), (.inr (some (.inl ((-1), 7, []))), 245, ([], [], [(226, 0, 0, ck_one 0)]))])
set_option maxRecDepth 100000 in
theorem p2_s3274_e : ck_ok p2_O none [] [(298, [p2_s447]), (282, [p2_s268, p2_s269, p2_s272, p2_s270]), (350, [p2_s3239]), (353, [p2_s3240]), (351, [p2_s3237]), (355, [p2_s3273])] 354 [(108, [some (.inr (.inr (.inl 226))), some (.inl (0, 7, [])), some (.inl (0, 7, [])), some (.inl (51, 1000, [])), some (.inl ((-1), 299, [])), some (.inl ((-1), 7, [])), some (.inl (0, 1000, []))], ([], [], [(226, 0, 0, ck_one 0), (227, 2, 2, (0, 8, [(20, 0)])), (227, 3, 3, (0, 8, [(21, 0)])), (227, 5, 5, (0, 8, [(23, 0)])), (227, 9, 9, (0, 299, [(11, 0)]))]), 100, .inl 6, false)] 302 p2_s3274 = true := by decide +kernel
theorem p2_s3274_s {X : Int → Int} {LX : Nat} : ck_Ok p2_O X LX 354 p2_s3274 := ck_ok_s ⟨p2_nmu, ck_E1 (ck_S1 p2_s447_s ck_S0) (ck_E1 (ck_S1 p2_s268_s (ck_S1 p2_s269_s (ck_S1 p2_s272_s (ck_S1 p2_s270_s ck_S0)))) (ck_E1 (ck_S1 p2_s3239_s ck_S0) (ck_E1 (ck_S1 p2_s3240_s ck_S0) (ck_E1 (ck_S1 p2_s3237_s ck_S0) (ck_E1 (ck_S1 p2_s3273_s ck_S0) ck_E0)))))⟩ ck_X0 ck_l0 p2_s3274_e
set_option maxRecDepth 100000 in
/-- GlacierMailModel.chain -/
def p2_s3278 : ck_Sum := ((5, 0, 0), 245, [.inr (.inr (.inl 226)), .inl (0, 7, []), .inl (0, 7, []), .inl (1, 50, [])], ([], [], [(227, 2, 2, (0, 8, [(20, 0)])), (227, 3, 3, (0, 8, [(21, 0)])), (227, 5, 5, (0, 8, [(23, 0)])), (227, 9, 9, (0, 299, [(11, 0)]))]), ([(226, 0, 0), (226, 17, 23), (226, 26, 26), (226, 29, 30), (226, 36, 36), (235, 0, 29699), (236, 0, 299), (237, 0, 299), (240, 0, 2407), (241, 0, 2407), (242, 0, 2407)], []), [(.inr (some (.inl (ck_one 0))), 245, ([], [], [(226, 0, 0, (1, 2, []))])), (.inr (some (.inl ((-1), 7, []))), 245, ([], [], [(226, 0, 0, ck_one 0)]))])
set_option maxRecDepth 100000 in
theorem p2_s3278_e : ck_ok p2_O none [] [(298, [p2_s447]), (282, [p2_s268, p2_s269, p2_s272, p2_s270]), (350, [p2_s3239]), (353, [p2_s3240]), (351, [p2_s3237]), (355, [p2_s3277])] 354 [(108, [some (.inr (.inr (.inl 226))), some (.inl (0, 7, [])), some (.inl (0, 7, [])), some (.inl (1, 50, [])), some (.inl ((-1), 299, [])), some (.inl ((-1), 7, [])), some (.inl (0, 1000, []))], ([], [], [(226, 0, 0, ck_one 0), (227, 2, 2, (0, 8, [(20, 0)])), (227, 3, 3, (0, 8, [(21, 0)])), (227, 5, 5, (0, 8, [(23, 0)])), (227, 9, 9, (0, 299, [(11, 0)]))]), 100, .inl 6, false)] 302 p2_s3278 = true := by decide +kernel
theorem p2_s3278_s {X : Int → Int} {LX : Nat} : ck_Ok p2_O X LX 354 p2_s3278 := ck_ok_s ⟨p2_nmu, ck_E1 (ck_S1 p2_s447_s ck_S0) (ck_E1 (ck_S1 p2_s268_s (ck_S1 p2_s269_s (ck_S1 p2_s272_s (ck_S1 p2_s270_s ck_S0)))) (ck_E1 (ck_S1 p2_s3239_s ck_S0) (ck_E1 (ck_S1 p2_s3240_s ck_S0) (ck_E1 (ck_S1 p2_s3237_s ck_S0) (ck_E1 (ck_S1 p2_s3277_s ck_S0) ck_E0)))))⟩ ck_X0 ck_l0 p2_s3278_e
set_option maxRecDepth 100000 in
/-- GlacierMailModel.reached -/
def p2_s3310 : ck_Sum := ((5, 0, 0), 245, [.inr (.inr (.inl 226)), .inl (0, 7, []), .inl (0, 299, [])], ([], [], [(227, 2, 2, (0, 8, [(20, 0)])), (227, 3, 3, (0, 8, [(21, 0)])), (227, 5, 5, (0, 8, [(23, 0)])), (227, 9, 9, (0, 299, [(11, 0)]))]), ([(226, 0, 0), (226, 17, 23), (226, 26, 26), (226, 29, 30), (235, 0, 29699), (236, 0, 299), (237, 0, 299), (240, 0, 2407), (241, 0, 2407), (242, 0, 2407)], []), [(.inr (some (.inl (ck_one 0))), 245, ([], [], [(226, 0, 0, ck_one 1)])), (.inr (some (.inl ((-2147483648), 2147483647, []))), 245, ([], [], [(226, 0, 0, ck_one 0)]))])
set_option maxRecDepth 100000 in
theorem p2_s3310_e : ck_ok p2_O none [] [(298, [p2_s447]), (282, [p2_s268, p2_s269, p2_s270]), (285, [p2_s290]), (350, [p2_s3239]), (253, [p2_s214]), (353, [p2_s3240])] 356 [(44, [some (.inr (.inr (.inl 226))), some (.inl (0, 7, [])), some (.inl (0, 299, [])), some (.inl ((-2147483648), 2147483647, [])), some (.inl (0, 8, [])), none], ([], [], [(226, 0, 0, ck_one 0), (227, 2, 2, (0, 8, [(20, 0)])), (227, 3, 3, (0, 8, [(21, 0)])), (227, 5, 5, (0, 8, [(23, 0)])), (227, 9, 9, (0, 299, [(11, 0)]))]), 100, .inl 4, true)] 194 p2_s3310 = true := by decide +kernel
theorem p2_s3310_s {X : Int → Int} {LX : Nat} : ck_Ok p2_O X LX 356 p2_s3310 := ck_ok_s ⟨p2_nmu, ck_E1 (ck_S1 p2_s447_s ck_S0) (ck_E1 (ck_S1 p2_s268_s (ck_S1 p2_s269_s (ck_S1 p2_s270_s ck_S0))) (ck_E1 (ck_S1 p2_s290_s ck_S0) (ck_E1 (ck_S1 p2_s3239_s ck_S0) (ck_E1 (ck_S1 p2_s214_s ck_S0) (ck_E1 (ck_S1 p2_s3240_s ck_S0) ck_E0)))))⟩ ck_X0 ck_l0 p2_s3310_e
set_option maxRecDepth 100000 in
/-- GlacierMailModel.steals -/
def p2_s3357 : ck_Sum := ((6, 0, 0), 245, [.inr (.inr (.inl 226)), .inl (0, 30, [])], ([], [], [(227, 2, 2, (0, 8, [(20, 0)])), (227, 4, 4, (0, 24, [(22, 0)])), (227, 5, 5, (0, 8, [(23, 0)])), (227, 9, 9, (0, 299, [(11, 0)]))]), ([(226, 17, 23), (226, 26, 26), (226, 29, 30), (235, 0, 29699), (236, 0, 299), (237, 0, 299), (238, 0, 23), (243, 0, 5), (244, 0, 5)], []), [(.inr none, 245, ([], [], []))])
set_option maxRecDepth 100000 in
theorem p2_s3357_e : ck_ok p2_O none [] [(332, [p2_s2982]), (266, [p2_s207]), (261, [p2_s184]), (333, [p2_s3354, p2_s3355, p2_s3352, p2_s3344, p2_s3356, p2_s3353])] 358 [(6, [some (.inr (.inr (.inl 226))), some (.inl (0, 30, [])), some (.inl (0, 6, [])), none, none], ([], [], [(227, 2, 2, (0, 8, [(20, 0)])), (227, 4, 4, (0, 24, [(22, 0)])), (227, 5, 5, (0, 8, [(23, 0)])), (227, 9, 9, (0, 299, [(11, 0)]))]), 100, .inl 2, true), (34, [some (.inr (.inr (.inl 226))), some (.inl (0, 30, [])), some (.inl ((-1), 328, [])), none, none], ([], [], [(227, 2, 2, (0, 8, [(20, 0)])), (227, 4, 4, (0, 24, [(22, 0)])), (227, 5, 5, (0, 8, [(23, 0)])), (227, 9, 9, (0, 299, [(11, 0)]))]), 300, .inl 2, false), (44, [some (.inr (.inr (.inl 226))), some (.inl (0, 30, [])), some (.inl (0, 328, [(300, 0)])), some (.inl (0, 6, [])), none], ([], [], [(227, 2, 2, (0, 8, [(20, 0)])), (227, 4, 4, (0, 24, [(22, 0)])), (227, 5, 5, (0, 8, [(23, 0)])), (227, 9, 9, (0, 299, [(11, 0)]))]), 500, .inl 3, true), (152, [some (.inr (.inr (.inl 226))), some (.inl (0, 30, [])), some (.inl (0, 328, [(300, 0)])), some (.inl (0, 6, [])), none], ([], [], [(227, 2, 2, (0, 8, [(20, 0)])), (227, 4, 4, (0, 24, [(22, 0)])), (227, 5, 5, (0, 8, [(23, 0)])), (227, 9, 9, (0, 299, [(11, 0)]))]), 700, .inl 3, true)] 800 p2_s3357 = true := by decide +kernel
theorem p2_s3357_s {X : Int → Int} {LX : Nat} : ck_Ok p2_O X LX 358 p2_s3357 := ck_ok_s ⟨p2_nmu, ck_E1 (ck_S1 p2_s2982_s ck_S0) (ck_E1 (ck_S1 p2_s207_s ck_S0) (ck_E1 (ck_S1 p2_s184_s ck_S0) (ck_E1 (ck_S1 p2_s3354_s (ck_S1 p2_s3355_s (ck_S1 p2_s3352_s (ck_S1 p2_s3344_s (ck_S1 p2_s3356_s (ck_S1 p2_s3353_s ck_S0)))))) ck_E0)))⟩ ck_X0 ck_l0 p2_s3357_e
set_option maxRecDepth 100000 in
/-- GlacierMailModel.thieves -/
def p2_s3358 : ck_Sum := ((7, 0, 0), 245, [.inr (.inr (.inl 226)), .inl (0, 30, []), .inl (0, 1, [])], ([], [], [(227, 2, 2, (0, 8, [(20, 0)])), (227, 4, 4, (0, 24, [(22, 0)])), (227, 5, 5, (0, 8, [(23, 0)])), (227, 9, 9, (0, 299, [(11, 0)]))]), ([(226, 0, 0), (226, 17, 23), (226, 26, 26), (226, 29, 30), (235, 0, 29699), (236, 0, 299), (237, 0, 299), (238, 0, 23), (243, 0, 5), (244, 0, 5)], []), [(.inr (some (.inl (0, 5, []))), 245, ([], [], [(226, 0, 0, (0, 1, []))])), (.inr (some (.inl ((-2147483648), 2147483647, []))), 245, ([], [], [(226, 0, 0, ck_one 0)]))])
set_option maxRecDepth 100000 in
theorem p2_s3358_e : ck_ok p2_O none [] [(286, [p2_s3342]), (282, [p2_s268, p2_s269]), (358, [p2_s3357]), (261, [p2_s184])] 357 [(40, [some (.inr (.inr (.inl 226))), some (.inl (0, 30, [])), some (.inl (0, 1, [])), some (.inl (0, 5, [])), some (.inl (1, 6, []))], ([], [], [(226, 0, 0, ck_one 0), (227, 2, 2, (0, 8, [(20, 0)])), (227, 4, 4, (0, 24, [(22, 0)])), (227, 5, 5, (0, 8, [(23, 0)])), (227, 9, 9, (0, 299, [(11, 0)]))]), 100, .inl 4, true)] 174 p2_s3358 = true := by decide +kernel
theorem p2_s3358_s {X : Int → Int} {LX : Nat} : ck_Ok p2_O X LX 357 p2_s3358 := ck_ok_s ⟨p2_nmu, ck_E1 (ck_S1 p2_s3342_s ck_S0) (ck_E1 (ck_S1 p2_s268_s (ck_S1 p2_s269_s ck_S0)) (ck_E1 (ck_S1 p2_s3357_s ck_S0) (ck_E1 (ck_S1 p2_s184_s ck_S0) ck_E0)))⟩ ck_X0 ck_l0 p2_s3358_e
set_option maxRecDepth 100000 in
/-- GlacierMailModel.watchman -/
def p2_s3376 : ck_Sum := ((6, 0, 0), 245, [.inr (.inr (.inl 226)), .inl (0, 30, []), .inl (0, 1, [])], ([], [], [(227, 2, 2, (0, 8, [(20, 0)])), (227, 4, 4, (0, 24, [(22, 0)])), (227, 5, 5, (0, 8, [(23, 0)])), (227, 9, 9, (0, 299, [(11, 0)]))]), ([(226, 0, 0), (226, 17, 23), (226, 26, 26), (226, 29, 30), (235, 0, 29699), (236, 0, 299), (237, 0, 299), (238, 0, 23), (243, 0, 5)], []), [(.inr (some (.inl (0, 2147483647, []))), 245, ([], [], [(226, 0, 0, (0, 1, []))])), (.inr (some (.inl ((-1), 5, []))), 245, ([], [], [(226, 0, 0, ck_one 0)]))])
set_option maxRecDepth 100000 in
theorem p2_s3376_e : ck_ok p2_O none [] [(286, [p2_s3342]), (282, [p2_s268, p2_s269]), (332, [p2_s2982]), (261, [p2_s184]), (266, [p2_s207]), (333, [p2_s3354])] 359 [(36, [some (.inr (.inr (.inl 226))), some (.inl (0, 30, [])), some (.inl (0, 1, [])), some (.inl (0, 6, [])), none, none, none, none], ([], [], [(226, 0, 0, ck_one 0), (227, 2, 2, (0, 8, [(20, 0)])), (227, 4, 4, (0, 24, [(22, 0)])), (227, 5, 5, (0, 8, [(23, 0)])), (227, 9, 9, (0, 299, [(11, 0)]))]), 100, .inl 3, true), (57, [some (.inr (.inr (.inl 226))), some (.inl (0, 30, [])), some (.inl (0, 1, [])), some (.inl (0, 5, [(100, 0)])), some (.inl (0, 399, [(1000011, 0)])), none, none, none], ([], [], [(226, 0, 0, ck_one 0), (227, 2, 2, (0, 8, [(20, 0)])), (227, 4, 4, (0, 24, [(22, 0)])), (227, 5, 5, (0, 8, [(23, 0)])), (227, 9, 9, (0, 299, [(11, 0)]))]), 300, .inl 4, true), (105, [some (.inr (.inr (.inl 226))), some (.inl (0, 30, [])), some (.inl (0, 1, [])), some (.inl ((-1), 5, [])), some (.inl (0, 2147483647, [])), some (.inl (0, 6, [])), none, none], ([], [], [(226, 0, 0, ck_one 0), (227, 2, 2, (0, 8, [(20, 0)])), (227, 4, 4, (0, 24, [(22, 0)])), (227, 5, 5, (0, 8, [(23, 0)])), (227, 9, 9, (0, 299, [(11, 0)]))]), 500, .inl 5, true), (120, [some (.inr (.inr (.inl 226))), some (.inl (0, 30, [])), some (.inl (0, 1, [])), some (.inl ((-1), 5, [])), some (.inl (0, 2147483647, [])), some (.inl (0, 5, [(500, 0)])), some (.inl (0, 2147483647, [])), some (.inl (0, 6, []))], ([], [], [(226, 0, 0, ck_one 0), (227, 2, 2, (0, 8, [(20, 0)])), (227, 4, 4, (0, 24, [(22, 0)])), (227, 5, 5, (0, 8, [(23, 0)])), (227, 9, 9, (0, 299, [(11, 0)]))]), 700, .inl 7, true)] 360 p2_s3376 = true := by decide +kernel
theorem p2_s3376_s {X : Int → Int} {LX : Nat} : ck_Ok p2_O X LX 359 p2_s3376 := ck_ok_s ⟨p2_nmu, ck_E1 (ck_S1 p2_s3342_s ck_S0) (ck_E1 (ck_S1 p2_s268_s (ck_S1 p2_s269_s ck_S0)) (ck_E1 (ck_S1 p2_s2982_s ck_S0) (ck_E1 (ck_S1 p2_s184_s ck_S0) (ck_E1 (ck_S1 p2_s207_s ck_S0) (ck_E1 (ck_S1 p2_s3354_s ck_S0) ck_E0)))))⟩ ck_X0 ck_l0 p2_s3376_e
set_option maxRecDepth 100000 in
/-- GlacierMailModel.meeting -/
def p2_s3388 : ck_Sum := ((4, 0, 0), 245, [.inr (.inr (.inl 226)), .inl (0, 23, []), .inl (0, 23, [])], ([], [], [(227, 2, 2, (0, 8, [(20, 0)])), (227, 4, 4, (0, 24, [(22, 0)])), (227, 5, 5, (0, 8, [(23, 0)])), (227, 9, 9, (0, 299, [(11, 0)]))]), ([(226, 0, 0), (226, 17, 23), (226, 26, 26), (226, 29, 30), (235, 0, 29699), (236, 0, 299), (237, 0, 299), (239, 0, 299)], []), [(.inr (some (.inl (0, 299, []))), 245, ([], [], [(226, 0, 0, (0, 2, []))])), (.inr (some (.inl (ck_one (-1)))), 245, ([], [], [(226, 0, 0, ck_one 0)]))])
set_option maxRecDepth 100000 in
theorem p2_s3388_e : ck_ok p2_O none [] [(309, [p2_s618]), (282, [p2_s268, p2_s269, p2_s270, p2_s272]), (301, [p2_s457]), (305, [p2_s550]), (335, [p2_s3060]), (266, [p2_s207]), (312, [p2_s624]), (337, [p2_s3063])] 360 [(92, [some (.inr (.inr (.inl 226))), some (.inl (0, 23, [])), some (.inl (0, 23, [])), some (.inl (0, 300, [(1000011, 0)]))], ([], [], [(226, 0, 0, ck_one 0), (227, 2, 2, (0, 8, [(20, 0)])), (227, 4, 4, (0, 24, [(22, 0)])), (227, 5, 5, (0, 8, [(23, 0)])), (227, 9, 9, (0, 299, [(11, 0)]))]), 100, .inl 3, true)] 278 p2_s3388 = true := by decide +kernel
theorem p2_s3388_s {X : Int → Int} {LX : Nat} : ck_Ok p2_O X LX 360 p2_s3388 := ck_ok_s ⟨p2_nmu, ck_E1 (ck_S1 p2_s618_s ck_S0) (ck_E1 (ck_S1 p2_s268_s (ck_S1 p2_s269_s (ck_S1 p2_s270_s (ck_S1 p2_s272_s ck_S0)))) (ck_E1 (ck_S1 p2_s457_s ck_S0) (ck_E1 (ck_S1 p2_s550_s ck_S0) (ck_E1 (ck_S1 p2_s3060_s ck_S0) (ck_E1 (ck_S1 p2_s207_s ck_S0) (ck_E1 (ck_S1 p2_s624_s ck_S0) (ck_E1 (ck_S1 p2_s3063_s ck_S0) ck_E0)))))))⟩ ck_X0 ck_l0 p2_s3388_e
set_option maxRecDepth 100000 in
/-- GlacierMailModel.outs -/
def p2_s3395 : ck_Sum := ((6, 0, 0), 245, [.inr (.inr (.inl 226)), .inl (0, 299, [])], ([], [], [(227, 2, 2, (0, 8, [(20, 0)])), (227, 4, 4, (0, 24, [(22, 0)])), (227, 5, 5, (0, 8, [(23, 0)]))]), ([(226, 0, 0), (226, 17, 23), (226, 26, 26), (226, 29, 30), (235, 0, 29699), (236, 0, 299), (237, 0, 299), (238, 0, 23)], []), [(.inr (some (.inl ((-2147483648), 2147483647, []))), 245, ([], [], [(226, 0, 0, ck_one 0)]))])
set_option maxRecDepth 100000 in
theorem p2_s3395_e : ck_ok p2_O none [] [(285, [p2_s290]), (282, [p2_s269]), (332, [p2_s2982]), (333, [p2_s2998])] 361 [] 104 p2_s3395 = true := by decide +kernel
theorem p2_s3395_s {X : Int → Int} {LX : Nat} : ck_Ok p2_O X LX 361 p2_s3395 := ck_ok_s ⟨p2_nmu, ck_E1 (ck_S1 p2_s290_s ck_S0) (ck_E1 (ck_S1 p2_s269_s ck_S0) (ck_E1 (ck_S1 p2_s2982_s ck_S0) (ck_E1 (ck_S1 p2_s2998_s ck_S0) ck_E0)))⟩ ck_X0 ck_l0 p2_s3395_e
set_option maxRecDepth 100000 in
/-- GlacierMailModel.order -/
def p2_s3411 : ck_Sum := ((6, 0, 0), 245, [.inr (.inr (.inl 226)), .inl ((-2147483648), 2147483647, [])], ([], [], [(227, 2, 2, (0, 8, [(20, 0)])), (227, 4, 4, (0, 24, [(22, 0)])), (227, 5, 5, (0, 8, [(23, 0)]))]), ([(226, 0, 0), (226, 17, 23), (226, 26, 26), (226, 29, 30), (235, 0, 29699), (236, 0, 299), (237, 0, 299), (238, 0, 23)], []), [(.inr (some (.inl (ck_one (-1)))), 245, ([], [], [(226, 0, 0, ck_one 0)])), (.inr (some (.inl (0, 23, []))), 245, ([], [], [(226, 0, 0, ck_one 0), (227, 4, 4, (1, 24, [(22, 0)]))]))])
set_option maxRecDepth 100000 in
theorem p2_s3411_e : ck_ok p2_O none [] [(332, [p2_s2982]), (254, [p2_s196])] 362 [(13, [some (.inr (.inr (.inl 226))), some (.inl ((-2147483648), 2147483647, [])), some (.inl ((-2147483648), 2147483647, [])), some (.inl (0, 300, [])), none], ([], [], [(226, 0, 0, ck_one 0), (227, 2, 2, (0, 8, [(20, 0)])), (227, 4, 4, (0, 24, [(22, 0)])), (227, 5, 5, (0, 8, [(23, 0)]))]), 100, .inl 3, true), (27, [some (.inr (.inr (.inl 226))), some (.inl (0, 2147483647, [])), some (.inl ((-2147483648), 2147483647, [])), some (.inl (0, 299, [(100, 0)])), some (.inl (0, 24, []))], ([], [], [(226, 0, 0, ck_one 0), (227, 2, 2, (0, 8, [(20, 0)])), (227, 4, 4, (0, 24, [(22, 0)])), (227, 5, 5, (0, 8, [(23, 0)]))]), 300, .inl 4, true)] 206 p2_s3411 = true := by decide +kernel
theorem p2_s3411_s {X : Int → Int} {LX : Nat} : ck_Ok p2_O X LX 362 p2_s3411 := ck_ok_s ⟨p2_nmu, ck_E1 (ck_S1 p2_s2982_s ck_S0) (ck_E1 (ck_S1 p2_s196_s ck_S0) ck_E0)⟩ ck_X0 ck_l0 p2_s3411_e
set_option maxRecDepth 100000 in
/-- GlacierMailModel.streams -/
def p2_s3417 : ck_Sum := ((6, 0, 0), 245, [.inr (.inr (.inl 226)), .inl (0, 299, []), .inl (0, 1, [])], ([], [], [(227, 2, 2, (0, 8, [(20, 0)])), (227, 4, 4, (0, 24, [(22, 0)])), (227, 5, 5, (0, 8, [(23, 0)]))]), ([(226, 0, 0), (226, 17, 23), (226, 26, 26), (226, 29, 30), (235, 0, 29699), (236, 0, 299), (237, 0, 299), (238, 0, 23)], []), [(.inr (some (.inl ((-2147483648), 2147483647, []))), 245, ([], [], [(226, 0, 0, ck_one 0)]))])
set_option maxRecDepth 100000 in
theorem p2_s3417_e : ck_ok p2_O none [] [(285, [p2_s290]), (282, [p2_s269]), (332, [p2_s2982]), (254, [p2_s196]), (301, [p2_s457])] 363 [(28, [some (.inr (.inr (.inl 226))), some (.inl (0, 299, [])), some (.inl (0, 1, [])), some (.inl ((-2147483648), 2147483647, [])), some (.inl (0, 24, []))], ([], [], [(226, 0, 0, ck_one 0), (227, 2, 2, (0, 8, [(20, 0)])), (227, 4, 4, (0, 24, [(22, 0)])), (227, 5, 5, (0, 8, [(23, 0)]))]), 100, .inl 4, true)] 234 p2_s3417 = true := by decide +kernel
theorem p2_s3417_s {X : Int → Int} {LX : Nat} : ck_Ok p2_O X LX 363 p2_s3417 := ck_ok_s ⟨p2_nmu, ck_E1 (ck_S1 p2_s290_s ck_S0) (ck_E1 (ck_S1 p2_s269_s ck_S0) (ck_E1 (ck_S1 p2_s2982_s ck_S0) (ck_E1 (ck_S1 p2_s196_s ck_S0) (ck_E1 (ck_S1 p2_s457_s ck_S0) ck_E0))))⟩ ck_X0 ck_l0 p2_s3417_e
set_option maxRecDepth 100000 in
/-- GlacierMailModel.range -/
def p2_s3427 : ck_Sum := ((4, 0, 0), 245, [.inr (.inr (.inl 226)), .inl (0, 5, []), .inl (0, 299, [])], ([], [], [(227, 2, 2, (0, 8, [(20, 0)])), (227, 5, 5, (0, 8, [(23, 0)]))]), ([(226, 0, 0), (226, 17, 23), (226, 26, 26), (226, 29, 30), (235, 0, 29699), (236, 0, 299), (237, 0, 299)], []), [(.inr (some (.inl (ck_one 0))), 245, ([], [], [(226, 0, 0, ck_one 1)])), (.inr (some (.inl ((-299), 299, []))), 245, ([], [], [(226, 0, 0, ck_one 0)]))])
set_option maxRecDepth 100000 in
theorem p2_s3427_e : ck_ok p2_O none [] [(288, [p2_s317]), (282, [p2_s268, p2_s269, p2_s270]), (285, [p2_s290]), (325, [p2_s1127])] 364 [] 126 p2_s3427 = true := by decide +kernel
theorem p2_s3427_s {X : Int → Int} {LX : Nat} : ck_Ok p2_O X LX 364 p2_s3427 := ck_ok_s ⟨p2_nmu, ck_E1 (ck_S1 p2_s317_s ck_S0) (ck_E1 (ck_S1 p2_s268_s (ck_S1 p2_s269_s (ck_S1 p2_s270_s ck_S0))) (ck_E1 (ck_S1 p2_s290_s ck_S0) (ck_E1 (ck_S1 p2_s1127_s ck_S0) ck_E0)))⟩ ck_X0 ck_l0 p2_s3427_e
set_option maxRecDepth 100000 in
/-- GlacierMailModel.swiftest -/
def p2_s3437 : ck_Sum := ((4, 0, 0), 245, [.inr (.inr (.inl 226)), .inl (0, 98, []), .inl (0, 299, [])], ([], [], [(227, 2, 2, (0, 8, [(20, 0)])), (227, 5, 5, (0, 8, [(23, 0)]))]), ([(226, 0, 0), (226, 17, 23), (226, 26, 26), (226, 29, 30), (235, 0, 29699), (236, 0, 299), (237, 0, 299)], []), [(.inr (some (.inl (ck_one 0))), 245, ([], [], [(226, 0, 0, ck_one 1)])), (.inr (some (.inl ((-1), 5, []))), 245, ([], [], [(226, 0, 0, ck_one 0)]))])
set_option maxRecDepth 100000 in
theorem p2_s3437_e : ck_ok p2_O none [] [(289, [p2_s325]), (282, [p2_s268, p2_s269, p2_s270]), (285, [p2_s290]), (261, [p2_s184]), (325, [p2_s1127])] 365 [(42, [some (.inr (.inr (.inl 226))), some (.inl (0, 98, [])), some (.inl (0, 299, [])), some (.inl ((-1), 5, [])), some (.inl (0, 1000, [])), some (.inl (0, 6, [])), none], ([], [], [(226, 0, 0, ck_one 0), (227, 2, 2, (0, 8, [(20, 0)])), (227, 5, 5, (0, 8, [(23, 0)]))]), 100, .inl 5, true)] 182 p2_s3437 = true := by decide +kernel
theorem p2_s3437_s {X : Int → Int} {LX : Nat} : ck_Ok p2_O X LX 365 p2_s3437 := ck_ok_s ⟨p2_nmu, ck_E1 (ck_S1 p2_s325_s ck_S0) (ck_E1 (ck_S1 p2_s268_s (ck_S1 p2_s269_s (ck_S1 p2_s270_s ck_S0))) (ck_E1 (ck_S1 p2_s290_s ck_S0) (ck_E1 (ck_S1 p2_s184_s ck_S0) (ck_E1 (ck_S1 p2_s1127_s ck_S0) ck_E0))))⟩ ck_X0 ck_l0 p2_s3437_e
set_option maxRecDepth 100000 in
/-- GlacierMailModel.bare -/
def p2_s3443 : ck_Sum := ((4, 0, 0), 245, [.inr (.inr (.inl 226)), .inl (0, 299, [])], ([], [], [(227, 2, 2, (0, 8, [(20, 0)])), (227, 4, 4, (0, 24, [(22, 0)])), (227, 5, 5, (0, 8, [(23, 0)]))]), ([(226, 0, 0), (226, 17, 23), (226, 26, 26), (226, 29, 30), (235, 0, 29699), (236, 0, 299), (237, 0, 299)], []), [(.inr (some (.inl ((-2147483648), 2147483647, []))), 245, ([], [], [(226, 0, 0, ck_one 0)]))])
set_option maxRecDepth 100000 in
theorem p2_s3443_e : ck_ok p2_O none [] [(285, [p2_s290]), (282, [p2_s269]), (254, [p2_s196]), (305, [p2_s550]), (311, [p2_s625])] 366 [(23, [some (.inr (.inr (.inl 226))), some (.inl (0, 299, [])), some (.inl ((-2147483648), 2147483647, [])), some (.inl (0, 24, []))], ([], [], [(226, 0, 0, ck_one 0), (227, 2, 2, (0, 8, [(20, 0)])), (227, 4, 4, (0, 24, [(22, 0)])), (227, 5, 5, (0, 8, [(23, 0)]))]), 100, .inl 3, true)] 182 p2_s3443 = true := by decide +kernel
theorem p2_s3443_s {X : Int → Int} {LX : Nat} : ck_Ok p2_O X LX 366 p2_s3443 := ck_ok_s ⟨p2_nmu, ck_E1 (ck_S1 p2_s290_s ck_S0) (ck_E1 (ck_S1 p2_s269_s ck_S0) (ck_E1 (ck_S1 p2_s196_s ck_S0) (ck_E1 (ck_S1 p2_s550_s ck_S0) (ck_E1 (ck_S1 p2_s625_s ck_S0) ck_E0))))⟩ ck_X0 ck_l0 p2_s3443_e
set_option maxRecDepth 100000 in
/-- GlacierMailModel.count -/
def p2_s3577 : ck_Sum := ((6, 0, 0), 245, [.inr (.inr (.inl 226)), .inl (10, 2147483647, [])], ([], [], [(227, 2, 2, (0, 8, [(20, 0)])), (227, 4, 4, (0, 24, [(22, 0)])), (227, 5, 5, (0, 8, [(23, 0)])), (227, 14, 14, (0, 24, [(26, 0)])), (226, 6, 6, (0, 12, [(27, 0)])), (227, 9, 9, (0, 299, [(11, 0)]))]), ([(226, 0, 0), (226, 17, 23), (226, 26, 26), (226, 29, 30), (235, 0, 29699), (236, 0, 299), (237, 0, 299)], []), [(.inr (some (.inl ((-2147483648), 2147483647, []))), 245, ([], [], [(226, 0, 0, ck_one 0)])), (.inr (some (.inl (0, 9999, []))), 245, ([], [], [(226, 0, 0, ck_one 0)]))])
set_option maxRecDepth 100000 in
theorem p2_s3577_e : ck_ok p2_O none [] [(286, [p2_s3572, p2_s3573, p2_s3574, p2_s3575, p2_s3576]), (254, [p2_s196]), (304, [p2_s551]), (266, [p2_s207]), (302, [p2_s552])] 368 [(132, [some (.inr (.inr (.inl 226))), some (.inl (ck_one 16)), some (.inl ((-2147483648), 2147483647, [])), some (.inl (0, 24, [])), none], ([], [], [(226, 0, 0, ck_one 0), (227, 2, 2, (0, 8, [(20, 0)])), (227, 4, 4, (0, 24, [(22, 0)])), (227, 5, 5, (0, 8, [(23, 0)])), (227, 14, 14, (0, 24, [(26, 0)])), (226, 6, 6, (0, 12, [(27, 0)])), (227, 9, 9, (0, 299, [(11, 0)]))]), 100, .inl 3, true), (98, [some (.inr (.inr (.inl 226))), some (.inl (ck_one 15)), some (.inl ((-2147483648), 2147483647, [])), some (.inl (0, 24, [])), none], ([], [], [(226, 0, 0, ck_one 0), (227, 2, 2, (0, 8, [(20, 0)])), (227, 4, 4, (0, 24, [(22, 0)])), (227, 5, 5, (0, 8, [(23, 0)])), (227, 14, 14, (0, 24, [(26, 0)])), (226, 6, 6, (0, 12, [(27, 0)])), (227, 9, 9, (0, 299, [(11, 0)]))]), 300, .inl 3, true)] 242 p2_s3577 = true := by decide +kernel
theorem p2_s3577_s {X : Int → Int} {LX : Nat} : ck_Ok p2_O X LX 368 p2_s3577 := ck_ok_s ⟨p2_nmu, ck_E1 (ck_S1 p2_s3572_s (ck_S1 p2_s3573_s (ck_S1 p2_s3574_s (ck_S1 p2_s3575_s (ck_S1 p2_s3576_s ck_S0))))) (ck_E1 (ck_S1 p2_s196_s ck_S0) (ck_E1 (ck_S1 p2_s551_s ck_S0) (ck_E1 (ck_S1 p2_s207_s ck_S0) (ck_E1 (ck_S1 p2_s552_s ck_S0) ck_E0))))⟩ ck_X0 ck_l0 p2_s3577_e
