/-! EVERY CALL ENDS: what looks at flows of the reference (laid by wip/am/p2g.py). -/
set_option maxRecDepth 100000 in
def p2_s346 : ck_Sum := ((1, 0, 0), 245, [.inr (.inr (.inl 226)), .inl (0, 6, []), .inl (0, 98, []), .inl (0, 299, [])], ([], [], [(227, 2, 2, (0, 8, [(20, 0)]))]), ([(226, 17, 23), (226, 26, 26), (235, 0, 29699)], []), [(.inr (some (.inl (0, 30, []))), 245, ([], [], [(226, 26, 26, (0, 6, []))]))])
def p2_s346_E : List (Nat × List ck_Sum) := [(293, [p2_s343]), (290, [p2_s326]), (294, [p2_s344, p2_s345])]
def p2_s346_L : ck_AL := [some (.inr (.inr (.inl 226))), some (.inl (0, 6, [])), some (.inl (0, 98, [])), some (.inl (0, 299, [])), some (.inl (0, 29699, [])), none]
set_option maxRecDepth 100000 in
def p2_s346_F : ck_F := ([], [], [(226, 26, 26, (0, 6, [])), (227, 2, 2, (0, 8, [(20, 0)]))])
def p2_s346_C : ck_C := (p2_s346_L, p2_s346_F, 0, .inl 4, true)
set_option maxRecDepth 100000 in
theorem p2_s346_a : (decide (p2_s346.2.2.1.length ≤ gm_ml 292) && ck_go p2_O none [] p2_s346_E 292 p2_s346.1.1 p2_s346.2.1 p2_s346.2.2.2.2.1 p2_s346.2.2.2.2.2 [(14, p2_s346_C)] 900 false [(14, p2_s346_C, 0, 0, 245)] p2_s346.1.2.1 p2_s346.1.2.2 0 (p2_s346.2.2.1.map some ++ List.replicate (gm_ml 292 - p2_s346.2.2.1.length) none) [] p2_s346.2.1 p2_s346.2.2.2.1) = true := by decide +kernel
set_option maxRecDepth 100000 in
theorem p2_s346_b : ck_go p2_O none [] p2_s346_E 292 p2_s346.1.1 p2_s346.2.1 p2_s346.2.2.2.2.1 p2_s346.2.2.2.2.2 [] 900 true [] 0 0 34 p2_s346_L [] 245 p2_s346_F = true := by decide +kernel
set_option maxRecDepth 100000 in
theorem p2_s346_f : gm_tyr p2_O 235 0 29699 = some (0, 31) := by decide +kernel
set_option maxRecDepth 100000 in
theorem p2_s346_g : ck_leF p2_O p2_s346_F (([], [], [(226, 26, 26, (0, 6, []))])) = true := by decide +kernel
theorem p2_s346_h {X : Int → Int} {LX : Nat} : ck_nmu p2_O ∧ ck_OkE p2_O X LX p2_s346_E := ⟨p2_nmu, ck_E1 (ck_S1 p2_s343_s ck_S0) (ck_E1 (ck_S1 p2_s326_s ck_S0) (ck_E1 (ck_S1 p2_s344_s (ck_S1 p2_s345_s ck_S0)) ck_E0))⟩
theorem p2_s346_s {X : Int → Int} {LX : Nat} : ck_Ok p2_O X LX 292 p2_s346 := by
  refine ck_ok_st (cuts := [(14, p2_s346_C)]) (by decide) p2_s346_h p2_s346_a (fun h hm => ?_)
  rw [List.mem_singleton.mp hm]
  refine ⟨List.mem_singleton.mpr rfl, fun σ K0 R0 M0 v _ bc bs L K R M hb1 hb2 hS _ => ?_⟩
  obtain ⟨hF, hl, hs, hf, hfr⟩ := hS
  obtain ⟨u0, e0, g0⟩ := hl.2 0 (.inr (.inr (.inl 226))) rfl
  cases g0
  obtain ⟨u4, e4, t, rfl, ht1, ht2, ht3, -⟩ := hl.2 4 (.inl (0, 29699, [])) rfl
  have ht2 : (0 : Int) ≤ t := ht2
  have ht3 : t ≤ (29699 : Int) := ht3
  obtain ⟨-, hM1, hM2⟩ := (gm_tyr_s hF p2_s346_f).2 t (by omega) (by omega)
  have hM1 : (0 : Int) ≤ M 235 t := hM1
  have hM2 : M 235 t ≤ (31 : Int) := hM2
  refine ck_flow (O := p2_O) hF (k := 226) (fl := 235) (by decide +kernel) (by decide +kernel) (by decide +kernel) e0 e4 ⟨by omega, by omega⟩ ⟨by omega, by omega⟩ (fun hp => ?_) ?_
  · exact ⟨hF, hfr, _, List.mem_cons_self, ⟨_, rfl, ⟨by omega, by omega⟩, by show (0 : Int) ≤ M 235 t - 1; omega, by show M 235 t - 1 ≤ (30 : Int); omega, fun _ h => nomatch h⟩, rfl, ck_leF_s hF hf p2_s346_g⟩
  · exact gm_Wp_wk (Nat.le_refl _) hb1 hb2 (ck_go_s (σ0 := σ) (cuts := []) (by decide) p2_s346_h ck_X0 ck_l0 900 true [] _ _ 34 _ [] _ _ σ L [] K R M (fun _ _ => rfl) (fun _ h => nomatch h) ⟨hF, hl, rfl, hf, hfr⟩ p2_s346_b)
set_option maxRecDepth 100000 in
/-- GlacierMailModel.flow -/
def p2_s347 : ck_Sum := ((2, 0, 0), 245, [.inr (.inr (.inl 226)), .inl (0, 5, []), .inl (0, 98, []), .inl (0, 299, [])], ([], [], [(227, 2, 2, (0, 8, [(20, 0)]))]), ([(226, 0, 0), (226, 17, 23), (226, 26, 26), (235, 0, 29699)], []), [(.inr (some (.inl (0, 30, []))), 245, ([], [], [(226, 0, 0, (0, 1, []))]))])
set_option maxRecDepth 100000 in
theorem p2_s347_e : ck_ok p2_O none [] [(288, [p2_s317]), (282, [p2_s268, p2_s269, p2_s270]), (289, [p2_s325]), (285, [p2_s290]), (292, [p2_s346])] 291 [] 126 p2_s347 = true := by decide +kernel
theorem p2_s347_s {X : Int → Int} {LX : Nat} : ck_Ok p2_O X LX 291 p2_s347 := ck_ok_s ⟨p2_nmu, ck_E1 (ck_S1 p2_s317_s ck_S0) (ck_E1 (ck_S1 p2_s268_s (ck_S1 p2_s269_s (ck_S1 p2_s270_s ck_S0))) (ck_E1 (ck_S1 p2_s325_s ck_S0) (ck_E1 (ck_S1 p2_s290_s ck_S0) (ck_E1 (ck_S1 p2_s346_s ck_S0) ck_E0))))⟩ ck_X0 ck_l0 p2_s347_e
set_option maxRecDepth 100000 in
/-- GlacierMailModel.runs -/
def p2_s463 : ck_Sum := ((2, 0, 0), 245, [.inr (.inr (.inl 226)), .inl (0, 6, []), .inl (0, 98, []), .inl (0, 299, []), .inl (0, 1, []), .inl ((-1), 7, [])], ([], [], [(227, 2, 2, (0, 8, [(20, 0)])), (227, 5, 5, (0, 8, [(23, 0)]))]), ([(226, 17, 23), (226, 26, 26), (226, 29, 30), (235, 0, 29699), (236, 0, 299), (237, 0, 299)], []), [(.inr none, 245, ([], [], []))])
set_option maxRecDepth 100000 in
theorem p2_s463_e : ck_ok p2_O none [] [(259, [p2_s200]), (292, [p2_s346]), (307, [p2_s462])] 306 [(3, [some (.inr (.inr (.inl 226))), some (.inl (0, 6, [])), some (.inl (0, 98, [])), some (.inl (0, 299, [])), some (.inl (0, 1, [])), some (.inl ((-1), 7, [])), some (.inl (0, 299, [])), none, none], ([], [], [(227, 2, 2, (0, 8, [(20, 0)])), (227, 5, 5, (0, 8, [(23, 0)]))]), 100, .inl 6, true), (50, [some (.inr (.inr (.inl 226))), some (.inl (0, 6, [])), some (.inl (0, 98, [])), some (.inl (0, 299, [])), some (.inl (0, 1, [])), some (.inl ((-1), 7, [])), some (.inl (0, 288, [])), some (.inl (0, 99, [])), some (.inl (0, 300, []))], ([], [], [(226, 29, 29, ((-1), 299, [])), (227, 2, 2, (0, 8, [(20, 0)])), (227, 5, 5, (0, 8, [(23, 0)]))]), 300, .inl 8, true)] 506 p2_s463 = true := by decide +kernel
theorem p2_s463_s {X : Int → Int} {LX : Nat} : ck_Ok p2_O X LX 306 p2_s463 := ck_ok_s ⟨p2_nmu, ck_E1 (ck_S1 p2_s200_s ck_S0) (ck_E1 (ck_S1 p2_s346_s ck_S0) (ck_E1 (ck_S1 p2_s462_s ck_S0) ck_E0))⟩ ck_X0 ck_l0 p2_s463_e
set_option maxRecDepth 100000 in
/-- GlacierMailModel.runsLetter -/
def p2_s464 : ck_Sum := ((3, 0, 0), 245, [.inr (.inr (.inl 226)), .inl (0, 23, []), .inl ((-1), 7, [])], ([], [], [(227, 2, 2, (0, 8, [(20, 0)])), (227, 5, 5, (0, 8, [(23, 0)]))]), ([(226, 17, 23), (226, 26, 26), (226, 29, 30), (235, 0, 29699), (236, 0, 299), (237, 0, 299)], []), [(.inr none, 245, ([], [], []))])
set_option maxRecDepth 100000 in
theorem p2_s464_e : ck_ok p2_O none [] [(301, [p2_s457, p2_s458, p2_s459]), (303, [p2_s461]), (306, [p2_s463])] 305 [] 108 p2_s464 = true := by decide +kernel
theorem p2_s464_s {X : Int → Int} {LX : Nat} : ck_Ok p2_O X LX 305 p2_s464 := ck_ok_s ⟨p2_nmu, ck_E1 (ck_S1 p2_s457_s (ck_S1 p2_s458_s (ck_S1 p2_s459_s ck_S0))) (ck_E1 (ck_S1 p2_s461_s ck_S0) (ck_E1 (ck_S1 p2_s463_s ck_S0) ck_E0))⟩ ck_X0 ck_l0 p2_s464_e
set_option maxRecDepth 100000 in
/-- GlacierMailModel.outOf -/
def p2_s465 : ck_Sum := ((4, 0, 0), 245, [.inr (.inr (.inl 226)), .inl (0, 23, [])], ([], [], [(227, 2, 2, (0, 8, [(20, 0)])), (227, 5, 5, (0, 8, [(23, 0)]))]), ([(226, 17, 23), (226, 26, 26), (226, 29, 30), (235, 0, 29699), (236, 0, 299), (237, 0, 299)], []), [(.inr (some (.inl (ck_one (-1)))), 245, ([], [], [(226, 29, 29, ck_one (-1))])), (.inr (some (.inl (0, 299, []))), 245, ([], [], [(226, 29, 29, (0, 299, []))]))])
set_option maxRecDepth 100000 in
theorem p2_s465_e : ck_ok p2_O none [] [(305, [p2_s464])] 304 [] 84 p2_s465 = true := by decide +kernel
theorem p2_s465_s {X : Int → Int} {LX : Nat} : ck_Ok p2_O X LX 304 p2_s465 := ck_ok_s ⟨p2_nmu, ck_E1 (ck_S1 p2_s464_s ck_S0) ck_E0⟩ ck_X0 ck_l0 p2_s465_e
set_option maxRecDepth 100000 in
/-- GlacierMailModel.isWaiting -/
def p2_s469 : ck_Sum := ((5, 0, 0), 245, [.inr (.inr (.inl 226)), .inl (0, 23, [])], ([], [], [(227, 2, 2, (0, 8, [(20, 0)])), (227, 5, 5, (0, 8, [(23, 0)])), (227, 9, 9, (0, 299, [(11, 0)]))]), ([(226, 17, 23), (226, 26, 26), (226, 29, 30), (235, 0, 29699), (236, 0, 299), (237, 0, 299)], []), [(.inr (some (.inl (ck_one 0))), 245, ([], [], [])), (.inr (some (.inl (ck_one 1))), 245, ([], [], [(226, 29, 29, (0, 299, []))]))])
set_option maxRecDepth 100000 in
theorem p2_s469_e : ck_ok p2_O none [] [(303, [p2_s461]), (301, [p2_s468]), (304, [p2_s465]), (266, [p2_s207])] 302 [] 114 p2_s469 = true := by decide +kernel
theorem p2_s469_s {X : Int → Int} {LX : Nat} : ck_Ok p2_O X LX 302 p2_s469 := ck_ok_s ⟨p2_nmu, ck_E1 (ck_S1 p2_s461_s ck_S0) (ck_E1 (ck_S1 p2_s468_s ck_S0) (ck_E1 (ck_S1 p2_s465_s ck_S0) (ck_E1 (ck_S1 p2_s207_s ck_S0) ck_E0)))⟩ ck_X0 ck_l0 p2_s469_e
set_option maxRecDepth 100000 in
/-- GlacierMailModel.countOf -/
def p2_s509 : ck_Sum := ((6, 0, 0), 245, [.inr (.inr (.inl 226)), .inl (0, 7, []), .inl (3, 9, [])], ([], [], [(227, 2, 2, (0, 8, [(20, 0)])), (227, 4, 4, (0, 24, [(22, 0)])), (227, 5, 5, (0, 8, [(23, 0)])), (227, 9, 9, (0, 299, [(11, 0)]))]), ([(226, 17, 23), (226, 26, 26), (226, 29, 30), (235, 0, 29699), (236, 0, 299), (237, 0, 299)], []), [(.inr (some (.inl ((-2147483648), 2147483647, []))), 245, ([], [], []))])
set_option maxRecDepth 100000 in
theorem p2_s509_e : ck_ok p2_O none [] [(254, [p2_s196]), (301, [p2_s508, p2_s468, p2_s460]), (302, [p2_s469])] 300 [(5, [some (.inr (.inr (.inl 226))), some (.inl (0, 7, [])), some (.inl (3, 9, [])), some (.inl ((-2147483648), 2147483647, [])), some (.inl (0, 24, [])), none], ([], [], [(227, 2, 2, (0, 8, [(20, 0)])), (227, 4, 4, (0, 24, [(22, 0)])), (227, 5, 5, (0, 8, [(23, 0)])), (227, 9, 9, (0, 299, [(11, 0)]))]), 100, .inl 4, true)] 222 p2_s509 = true := by decide +kernel
theorem p2_s509_s {X : Int → Int} {LX : Nat} : ck_Ok p2_O X LX 300 p2_s509 := ck_ok_s ⟨p2_nmu, ck_E1 (ck_S1 p2_s196_s ck_S0) (ck_E1 (ck_S1 p2_s508_s (ck_S1 p2_s468_s (ck_S1 p2_s460_s ck_S0))) (ck_E1 (ck_S1 p2_s469_s ck_S0) ck_E0))⟩ ck_X0 ck_l0 p2_s509_e
set_option maxRecDepth 100000 in
/-- GlacierMailModel.person -/
def p2_s511 : ck_Sum := ((7, 0, 0), 245, [.inr (.inr (.inl 226)), .inl (0, 7, []), .inl (0, 9, [])], ([], [], [(227, 2, 2, (0, 8, [(20, 0)])), (227, 3, 3, (0, 8, [(21, 0)])), (227, 4, 4, (0, 24, [(22, 0)])), (227, 5, 5, (0, 8, [(23, 0)])), (227, 9, 9, (0, 299, [(11, 0)]))]), ([(226, 0, 0), (226, 17, 23), (226, 26, 26), (226, 29, 30), (235, 0, 29699), (236, 0, 299), (237, 0, 299)], []), [(.inr (some (.inl (ck_one 0))), 245, ([], [], [(226, 0, 0, (1, 2, []))])), (.inr (some (.inl ((-2147483648), 2147483647, []))), 245, ([], [], [(226, 0, 0, ck_one 0)]))])
set_option maxRecDepth 100000 in
theorem p2_s511_e : ck_ok p2_O none [] [(298, [p2_s447]), (282, [p2_s268, p2_s269, p2_s272, p2_s270]), (286, [p2_s452]), (300, [p2_s509]), (299, [p2_s510])] 297 [] 128 p2_s511 = true := by decide +kernel
theorem p2_s511_s {X : Int → Int} {LX : Nat} : ck_Ok p2_O X LX 297 p2_s511 := ck_ok_s ⟨p2_nmu, ck_E1 (ck_S1 p2_s447_s ck_S0) (ck_E1 (ck_S1 p2_s268_s (ck_S1 p2_s269_s (ck_S1 p2_s272_s (ck_S1 p2_s270_s ck_S0)))) (ck_E1 (ck_S1 p2_s452_s ck_S0) (ck_E1 (ck_S1 p2_s509_s ck_S0) (ck_E1 (ck_S1 p2_s510_s ck_S0) ck_E0))))⟩ ck_X0 ck_l0 p2_s511_e
set_option maxRecDepth 100000 in
/-- GlacierMailModel.letter -/
def p2_s542 : ck_Sum := ((5, 0, 0), 245, [.inr (.inr (.inl 226)), .inl (0, 23, []), .inl (0, 9, [])], ([], [], [(227, 2, 2, (0, 8, [(20, 0)])), (227, 4, 4, (0, 24, [(22, 0)])), (227, 5, 5, (0, 8, [(23, 0)]))]), ([(226, 0, 0), (226, 17, 23), (226, 26, 26), (226, 29, 30), (235, 0, 29699), (236, 0, 299), (237, 0, 299)], []), [(.inr (some (.inl (0, 299, []))), 245, ([], [], [(226, 0, 0, (0, 1, []))])), (.inr (some (.inl ((-1), 299, []))), 245, ([], [], [(226, 0, 0, ck_one 0)]))])
set_option maxRecDepth 100000 in
theorem p2_s542_e : ck_ok p2_O none [] [(309, [p2_s532]), (282, [p2_s268, p2_s269, p2_s270]), (286, [p2_s537]), (304, [p2_s465]), (310, [p2_s540]), (301, [p2_s541])] 308 [] 152 p2_s542 = true := by decide +kernel
theorem p2_s542_s {X : Int → Int} {LX : Nat} : ck_Ok p2_O X LX 308 p2_s542 := ck_ok_s ⟨p2_nmu, ck_E1 (ck_S1 p2_s532_s ck_S0) (ck_E1 (ck_S1 p2_s268_s (ck_S1 p2_s269_s (ck_S1 p2_s270_s ck_S0))) (ck_E1 (ck_S1 p2_s537_s ck_S0) (ck_E1 (ck_S1 p2_s465_s ck_S0) (ck_E1 (ck_S1 p2_s540_s ck_S0) (ck_E1 (ck_S1 p2_s541_s ck_S0) ck_E0)))))⟩ ck_X0 ck_l0 p2_s542_e
set_option maxRecDepth 100000 in
/-- GlacierMailModel.where -/
def p2_s553 : ck_Sum := ((4, 0, 0), 245, [.inr (.inr (.inl 226)), .inl (0, 23, []), .inl (0, 299, [])], ([], [], [(227, 2, 2, (0, 8, [(20, 0)])), (227, 4, 4, (0, 24, [(22, 0)])), (227, 5, 5, (0, 8, [(23, 0)]))]), ([(226, 0, 0), (226, 17, 23), (226, 26, 26), (226, 29, 30), (235, 0, 29699), (236, 0, 299), (237, 0, 299)], []), [(.inr (some (.inl (ck_one 0))), 245, ([], [], [(226, 0, 0, ck_one 1)])), (.inr (some (.inl ((-1), 99, []))), 245, ([], [], [(226, 0, 0, ck_one 0)]))])
set_option maxRecDepth 100000 in
theorem p2_s553_e : ck_ok p2_O none [] [(309, [p2_s532]), (282, [p2_s268, p2_s269, p2_s270]), (285, [p2_s290]), (305, [p2_s464])] 313 [] 120 p2_s553 = true := by decide +kernel
theorem p2_s553_s {X : Int → Int} {LX : Nat} : ck_Ok p2_O X LX 313 p2_s553 := ck_ok_s ⟨p2_nmu, ck_E1 (ck_S1 p2_s532_s ck_S0) (ck_E1 (ck_S1 p2_s268_s (ck_S1 p2_s269_s (ck_S1 p2_s270_s ck_S0))) (ck_E1 (ck_S1 p2_s290_s ck_S0) (ck_E1 (ck_S1 p2_s464_s ck_S0) ck_E0)))⟩ ck_X0 ck_l0 p2_s553_e
set_option maxRecDepth 100000 in
/-- GlacierMailModel.deep -/
def p2_s563 : ck_Sum := ((4, 0, 0), 245, [.inr (.inr (.inl 226)), .inl (0, 23, []), .inl (0, 299, [])], ([], [], [(227, 2, 2, (0, 8, [(20, 0)])), (227, 4, 4, (0, 24, [(22, 0)])), (227, 5, 5, (0, 8, [(23, 0)]))]), ([(226, 0, 0), (226, 17, 23), (226, 26, 26), (226, 29, 30), (235, 0, 29699), (236, 0, 299), (237, 0, 299)], []), [(.inr (some (.inl (ck_one 0))), 245, ([], [], [(226, 0, 0, ck_one 1)])), (.inr (some (.inl ((-1), 99, []))), 245, ([], [], [(226, 0, 0, ck_one 0)]))])
set_option maxRecDepth 100000 in
theorem p2_s563_e : ck_ok p2_O none [] [(309, [p2_s532]), (282, [p2_s268, p2_s269, p2_s270]), (285, [p2_s290]), (305, [p2_s464])] 314 [] 120 p2_s563 = true := by decide +kernel
theorem p2_s563_s {X : Int → Int} {LX : Nat} : ck_Ok p2_O X LX 314 p2_s563 := ck_ok_s ⟨p2_nmu, ck_E1 (ck_S1 p2_s532_s ck_S0) (ck_E1 (ck_S1 p2_s268_s (ck_S1 p2_s269_s (ck_S1 p2_s270_s ck_S0))) (ck_E1 (ck_S1 p2_s290_s ck_S0) (ck_E1 (ck_S1 p2_s464_s ck_S0) ck_E0)))⟩ ck_X0 ck_l0 p2_s563_e
set_option maxRecDepth 100000 in
/-- GlacierMailModel.isWaiting -/
def p2_s466 : ck_Sum := ((5, 0, 0), 245, [.inr (.inr (.inl 226)), .inl (ck_one 0)], ([], [], [(227, 2, 2, (0, 8, [(20, 0)])), (227, 5, 5, (0, 8, [(23, 0)])), (227, 9, 9, (0, 299, [(11, 0)]))]), ([(226, 17, 23), (226, 26, 26), (226, 29, 30), (235, 0, 29699), (236, 0, 299), (237, 0, 299)], []), [(.inr (some (.inl (ck_one 0))), 245, ([], [], [])), (.inr (some (.inl (ck_one 1))), 245, ([], [], [(226, 29, 29, (0, 299, [])), (227, 124, 124, ck_one (-1)), (227, 119, 119, (0, 7, []))]))])
set_option maxRecDepth 100000 in
theorem p2_s466_e : ck_ok p2_O none [] [(303, [p2_s455]), (301, [p2_s456]), (304, [p2_s465]), (266, [p2_s207])] 302 [] 114 p2_s466 = true := by decide +kernel
theorem p2_s466_s {X : Int → Int} {LX : Nat} : ck_Ok p2_O X LX 302 p2_s466 := ck_ok_s ⟨p2_nmu, ck_E1 (ck_S1 p2_s455_s ck_S0) (ck_E1 (ck_S1 p2_s456_s ck_S0) (ck_E1 (ck_S1 p2_s465_s ck_S0) (ck_E1 (ck_S1 p2_s207_s ck_S0) ck_E0)))⟩ ck_X0 ck_l0 p2_s466_e
set_option maxRecDepth 100000 in
/-- GlacierMailModel.isWaiting -/
def p2_s962 : ck_Sum := ((5, 0, 0), 245, [.inr (.inr (.inl 226)), .inl (ck_one 1)], ([], [], [(227, 2, 2, (0, 8, [(20, 0)])), (227, 5, 5, (0, 8, [(23, 0)])), (227, 9, 9, (0, 299, [(11, 0)]))]), ([(226, 17, 23), (226, 26, 26), (226, 29, 30), (235, 0, 29699), (236, 0, 299), (237, 0, 299)], []), [(.inr (some (.inl (ck_one 0))), 245, ([], [], [])), (.inr (some (.inl (ck_one 1))), 245, ([], [], [(226, 29, 29, (0, 299, [])), (227, 131, 131, ck_one (-1)), (227, 126, 126, (0, 7, []))]))])
set_option maxRecDepth 100000 in
theorem p2_s962_e : ck_ok p2_O none [] [(303, [p2_s960]), (301, [p2_s961]), (304, [p2_s465]), (266, [p2_s207])] 302 [] 114 p2_s962 = true := by decide +kernel
theorem p2_s962_s {X : Int → Int} {LX : Nat} : ck_Ok p2_O X LX 302 p2_s962 := ck_ok_s ⟨p2_nmu, ck_E1 (ck_S1 p2_s960_s ck_S0) (ck_E1 (ck_S1 p2_s961_s ck_S0) (ck_E1 (ck_S1 p2_s465_s ck_S0) (ck_E1 (ck_S1 p2_s207_s ck_S0) ck_E0)))⟩ ck_X0 ck_l0 p2_s962_e
set_option maxRecDepth 100000 in
/-- GlacierMailModel.isWaiting -/
def p2_s973 : ck_Sum := ((5, 0, 0), 245, [.inr (.inr (.inl 226)), .inl (ck_one 2)], ([], [], [(227, 2, 2, (0, 8, [(20, 0)])), (227, 5, 5, (0, 8, [(23, 0)])), (227, 9, 9, (0, 299, [(11, 0)]))]), ([(226, 17, 23), (226, 26, 26), (226, 29, 30), (235, 0, 29699), (236, 0, 299), (237, 0, 299)], []), [(.inr (some (.inl (ck_one 0))), 245, ([], [], [])), (.inr (some (.inl (ck_one 1))), 245, ([], [], [(226, 29, 29, (0, 299, [])), (227, 138, 138, ck_one (-1)), (227, 133, 133, (0, 7, []))]))])
set_option maxRecDepth 100000 in
theorem p2_s973_e : ck_ok p2_O none [] [(303, [p2_s971]), (301, [p2_s972]), (304, [p2_s465]), (266, [p2_s207])] 302 [] 114 p2_s973 = true := by decide +kernel
theorem p2_s973_s {X : Int → Int} {LX : Nat} : ck_Ok p2_O X LX 302 p2_s973 := ck_ok_s ⟨p2_nmu, ck_E1 (ck_S1 p2_s971_s ck_S0) (ck_E1 (ck_S1 p2_s972_s ck_S0) (ck_E1 (ck_S1 p2_s465_s ck_S0) (ck_E1 (ck_S1 p2_s207_s ck_S0) ck_E0)))⟩ ck_X0 ck_l0 p2_s973_e
set_option maxRecDepth 100000 in
/-- GlacierMailModel.isWaiting -/
def p2_s984 : ck_Sum := ((5, 0, 0), 245, [.inr (.inr (.inl 226)), .inl (ck_one 3)], ([], [], [(227, 2, 2, (0, 8, [(20, 0)])), (227, 5, 5, (0, 8, [(23, 0)])), (227, 9, 9, (0, 299, [(11, 0)]))]), ([(226, 17, 23), (226, 26, 26), (226, 29, 30), (235, 0, 29699), (236, 0, 299), (237, 0, 299)], []), [(.inr (some (.inl (ck_one 0))), 245, ([], [], [])), (.inr (some (.inl (ck_one 1))), 245, ([], [], [(226, 29, 29, (0, 299, [])), (227, 145, 145, ck_one (-1)), (227, 140, 140, (0, 7, []))]))])
set_option maxRecDepth 100000 in
theorem p2_s984_e : ck_ok p2_O none [] [(303, [p2_s982]), (301, [p2_s983]), (304, [p2_s465]), (266, [p2_s207])] 302 [] 114 p2_s984 = true := by decide +kernel
theorem p2_s984_s {X : Int → Int} {LX : Nat} : ck_Ok p2_O X LX 302 p2_s984 := ck_ok_s ⟨p2_nmu, ck_E1 (ck_S1 p2_s982_s ck_S0) (ck_E1 (ck_S1 p2_s983_s ck_S0) (ck_E1 (ck_S1 p2_s465_s ck_S0) (ck_E1 (ck_S1 p2_s207_s ck_S0) ck_E0)))⟩ ck_X0 ck_l0 p2_s984_e
set_option maxRecDepth 100000 in
/-- GlacierMailModel.isWaiting -/
def p2_s995 : ck_Sum := ((5, 0, 0), 245, [.inr (.inr (.inl 226)), .inl (ck_one 4)], ([], [], [(227, 2, 2, (0, 8, [(20, 0)])), (227, 5, 5, (0, 8, [(23, 0)])), (227, 9, 9, (0, 299, [(11, 0)]))]), ([(226, 17, 23), (226, 26, 26), (226, 29, 30), (235, 0, 29699), (236, 0, 299), (237, 0, 299)], []), [(.inr (some (.inl (ck_one 0))), 245, ([], [], [])), (.inr (some (.inl (ck_one 1))), 245, ([], [], [(226, 29, 29, (0, 299, [])), (227, 152, 152, ck_one (-1)), (227, 147, 147, (0, 7, []))]))])
set_option maxRecDepth 100000 in
theorem p2_s995_e : ck_ok p2_O none [] [(303, [p2_s993]), (301, [p2_s994]), (304, [p2_s465]), (266, [p2_s207])] 302 [] 114 p2_s995 = true := by decide +kernel
theorem p2_s995_s {X : Int → Int} {LX : Nat} : ck_Ok p2_O X LX 302 p2_s995 := ck_ok_s ⟨p2_nmu, ck_E1 (ck_S1 p2_s993_s ck_S0) (ck_E1 (ck_S1 p2_s994_s ck_S0) (ck_E1 (ck_S1 p2_s465_s ck_S0) (ck_E1 (ck_S1 p2_s207_s ck_S0) ck_E0)))⟩ ck_X0 ck_l0 p2_s995_e
set_option maxRecDepth 100000 in
/-- GlacierMailModel.isWaiting -/
def p2_s1006 : ck_Sum := ((5, 0, 0), 245, [.inr (.inr (.inl 226)), .inl (ck_one 5)], ([], [], [(227, 2, 2, (0, 8, [(20, 0)])), (227, 5, 5, (0, 8, [(23, 0)])), (227, 9, 9, (0, 299, [(11, 0)]))]), ([(226, 17, 23), (226, 26, 26), (226, 29, 30), (235, 0, 29699), (236, 0, 299), (237, 0, 299)], []), [(.inr (some (.inl (ck_one 0))), 245, ([], [], [])), (.inr (some (.inl (ck_one 1))), 245, ([], [], [(226, 29, 29, (0, 299, [])), (227, 159, 159, ck_one (-1)), (227, 154, 154, (0, 7, []))]))])
set_option maxRecDepth 100000 in
theorem p2_s1006_e : ck_ok p2_O none [] [(303, [p2_s1004]), (301, [p2_s1005]), (304, [p2_s465]), (266, [p2_s207])] 302 [] 114 p2_s1006 = true := by decide +kernel
theorem p2_s1006_s {X : Int → Int} {LX : Nat} : ck_Ok p2_O X LX 302 p2_s1006 := ck_ok_s ⟨p2_nmu, ck_E1 (ck_S1 p2_s1004_s ck_S0) (ck_E1 (ck_S1 p2_s1005_s ck_S0) (ck_E1 (ck_S1 p2_s465_s ck_S0) (ck_E1 (ck_S1 p2_s207_s ck_S0) ck_E0)))⟩ ck_X0 ck_l0 p2_s1006_e
set_option maxRecDepth 100000 in
/-- GlacierMailModel.isWaiting -/
def p2_s1017 : ck_Sum := ((5, 0, 0), 245, [.inr (.inr (.inl 226)), .inl (ck_one 6)], ([], [], [(227, 2, 2, (0, 8, [(20, 0)])), (227, 5, 5, (0, 8, [(23, 0)])), (227, 9, 9, (0, 299, [(11, 0)]))]), ([(226, 17, 23), (226, 26, 26), (226, 29, 30), (235, 0, 29699), (236, 0, 299), (237, 0, 299)], []), [(.inr (some (.inl (ck_one 0))), 245, ([], [], [])), (.inr (some (.inl (ck_one 1))), 245, ([], [], [(226, 29, 29, (0, 299, [])), (227, 166, 166, ck_one (-1)), (227, 161, 161, (0, 7, []))]))])
set_option maxRecDepth 100000 in
theorem p2_s1017_e : ck_ok p2_O none [] [(303, [p2_s1015]), (301, [p2_s1016]), (304, [p2_s465]), (266, [p2_s207])] 302 [] 114 p2_s1017 = true := by decide +kernel
theorem p2_s1017_s {X : Int → Int} {LX : Nat} : ck_Ok p2_O X LX 302 p2_s1017 := ck_ok_s ⟨p2_nmu, ck_E1 (ck_S1 p2_s1015_s ck_S0) (ck_E1 (ck_S1 p2_s1016_s ck_S0) (ck_E1 (ck_S1 p2_s465_s ck_S0) (ck_E1 (ck_S1 p2_s207_s ck_S0) ck_E0)))⟩ ck_X0 ck_l0 p2_s1017_e
set_option maxRecDepth 100000 in
/-- GlacierMailModel.isWaiting -/
def p2_s1028 : ck_Sum := ((5, 0, 0), 245, [.inr (.inr (.inl 226)), .inl (ck_one 7)], ([], [], [(227, 2, 2, (0, 8, [(20, 0)])), (227, 5, 5, (0, 8, [(23, 0)])), (227, 9, 9, (0, 299, [(11, 0)]))]), ([(226, 17, 23), (226, 26, 26), (226, 29, 30), (235, 0, 29699), (236, 0, 299), (237, 0, 299)], []), [(.inr (some (.inl (ck_one 0))), 245, ([], [], [])), (.inr (some (.inl (ck_one 1))), 245, ([], [], [(226, 29, 29, (0, 299, [])), (227, 173, 173, ck_one (-1)), (227, 168, 168, (0, 7, []))]))])
set_option maxRecDepth 100000 in
theorem p2_s1028_e : ck_ok p2_O none [] [(303, [p2_s1026]), (301, [p2_s1027]), (304, [p2_s465]), (266, [p2_s207])] 302 [] 114 p2_s1028 = true := by decide +kernel
theorem p2_s1028_s {X : Int → Int} {LX : Nat} : ck_Ok p2_O X LX 302 p2_s1028 := ck_ok_s ⟨p2_nmu, ck_E1 (ck_S1 p2_s1026_s ck_S0) (ck_E1 (ck_S1 p2_s1027_s ck_S0) (ck_E1 (ck_S1 p2_s465_s ck_S0) (ck_E1 (ck_S1 p2_s207_s ck_S0) ck_E0)))⟩ ck_X0 ck_l0 p2_s1028_e
set_option maxRecDepth 100000 in
/-- GlacierMailModel.isWaiting -/
def p2_s1039 : ck_Sum := ((5, 0, 0), 245, [.inr (.inr (.inl 226)), .inl (ck_one 8)], ([], [], [(227, 2, 2, (0, 8, [(20, 0)])), (227, 5, 5, (0, 8, [(23, 0)])), (227, 9, 9, (0, 299, [(11, 0)]))]), ([(226, 17, 23), (226, 26, 26), (226, 29, 30), (235, 0, 29699), (236, 0, 299), (237, 0, 299)], []), [(.inr (some (.inl (ck_one 0))), 245, ([], [], [])), (.inr (some (.inl (ck_one 1))), 245, ([], [], [(226, 29, 29, (0, 299, [])), (227, 180, 180, ck_one (-1)), (227, 175, 175, (0, 7, []))]))])
set_option maxRecDepth 100000 in
theorem p2_s1039_e : ck_ok p2_O none [] [(303, [p2_s1037]), (301, [p2_s1038]), (304, [p2_s465]), (266, [p2_s207])] 302 [] 114 p2_s1039 = true := by decide +kernel
theorem p2_s1039_s {X : Int → Int} {LX : Nat} : ck_Ok p2_O X LX 302 p2_s1039 := ck_ok_s ⟨p2_nmu, ck_E1 (ck_S1 p2_s1037_s ck_S0) (ck_E1 (ck_S1 p2_s1038_s ck_S0) (ck_E1 (ck_S1 p2_s465_s ck_S0) (ck_E1 (ck_S1 p2_s207_s ck_S0) ck_E0)))⟩ ck_X0 ck_l0 p2_s1039_e
set_option maxRecDepth 100000 in
/-- GlacierMailModel.isWaiting -/
def p2_s1050 : ck_Sum := ((5, 0, 0), 245, [.inr (.inr (.inl 226)), .inl (ck_one 9)], ([], [], [(227, 2, 2, (0, 8, [(20, 0)])), (227, 5, 5, (0, 8, [(23, 0)])), (227, 9, 9, (0, 299, [(11, 0)]))]), ([(226, 17, 23), (226, 26, 26), (226, 29, 30), (235, 0, 29699), (236, 0, 299), (237, 0, 299)], []), [(.inr (some (.inl (ck_one 0))), 245, ([], [], [])), (.inr (some (.inl (ck_one 1))), 245, ([], [], [(226, 29, 29, (0, 299, [])), (227, 187, 187, ck_one (-1)), (227, 182, 182, (0, 7, []))]))])
set_option maxRecDepth 100000 in
theorem p2_s1050_e : ck_ok p2_O none [] [(303, [p2_s1048]), (301, [p2_s1049]), (304, [p2_s465]), (266, [p2_s207])] 302 [] 114 p2_s1050 = true := by decide +kernel
theorem p2_s1050_s {X : Int → Int} {LX : Nat} : ck_Ok p2_O X LX 302 p2_s1050 := ck_ok_s ⟨p2_nmu, ck_E1 (ck_S1 p2_s1048_s ck_S0) (ck_E1 (ck_S1 p2_s1049_s ck_S0) (ck_E1 (ck_S1 p2_s465_s ck_S0) (ck_E1 (ck_S1 p2_s207_s ck_S0) ck_E0)))⟩ ck_X0 ck_l0 p2_s1050_e
set_option maxRecDepth 100000 in
/-- GlacierMailModel.isWaiting -/
def p2_s1061 : ck_Sum := ((5, 0, 0), 245, [.inr (.inr (.inl 226)), .inl (ck_one 10)], ([], [], [(227, 2, 2, (0, 8, [(20, 0)])), (227, 5, 5, (0, 8, [(23, 0)])), (227, 9, 9, (0, 299, [(11, 0)]))]), ([(226, 17, 23), (226, 26, 26), (226, 29, 30), (235, 0, 29699), (236, 0, 299), (237, 0, 299)], []), [(.inr (some (.inl (ck_one 0))), 245, ([], [], [])), (.inr (some (.inl (ck_one 1))), 245, ([], [], [(226, 29, 29, (0, 299, [])), (227, 194, 194, ck_one (-1)), (227, 189, 189, (0, 7, []))]))])
set_option maxRecDepth 100000 in
theorem p2_s1061_e : ck_ok p2_O none [] [(303, [p2_s1059]), (301, [p2_s1060]), (304, [p2_s465]), (266, [p2_s207])] 302 [] 114 p2_s1061 = true := by decide +kernel
theorem p2_s1061_s {X : Int → Int} {LX : Nat} : ck_Ok p2_O X LX 302 p2_s1061 := ck_ok_s ⟨p2_nmu, ck_E1 (ck_S1 p2_s1059_s ck_S0) (ck_E1 (ck_S1 p2_s1060_s ck_S0) (ck_E1 (ck_S1 p2_s465_s ck_S0) (ck_E1 (ck_S1 p2_s207_s ck_S0) ck_E0)))⟩ ck_X0 ck_l0 p2_s1061_e
set_option maxRecDepth 100000 in
/-- GlacierMailModel.isWaiting -/
def p2_s1072 : ck_Sum := ((5, 0, 0), 245, [.inr (.inr (.inl 226)), .inl (ck_one 11)], ([], [], [(227, 2, 2, (0, 8, [(20, 0)])), (227, 5, 5, (0, 8, [(23, 0)])), (227, 9, 9, (0, 299, [(11, 0)]))]), ([(226, 17, 23), (226, 26, 26), (226, 29, 30), (235, 0, 29699), (236, 0, 299), (237, 0, 299)], []), [(.inr (some (.inl (ck_one 0))), 245, ([], [], [])), (.inr (some (.inl (ck_one 1))), 245, ([], [], [(226, 29, 29, (0, 299, [])), (227, 201, 201, ck_one (-1)), (227, 196, 196, (0, 7, []))]))])
set_option maxRecDepth 100000 in
theorem p2_s1072_e : ck_ok p2_O none [] [(303, [p2_s1070]), (301, [p2_s1071]), (304, [p2_s465]), (266, [p2_s207])] 302 [] 114 p2_s1072 = true := by decide +kernel
theorem p2_s1072_s {X : Int → Int} {LX : Nat} : ck_Ok p2_O X LX 302 p2_s1072 := ck_ok_s ⟨p2_nmu, ck_E1 (ck_S1 p2_s1070_s ck_S0) (ck_E1 (ck_S1 p2_s1071_s ck_S0) (ck_E1 (ck_S1 p2_s465_s ck_S0) (ck_E1 (ck_S1 p2_s207_s ck_S0) ck_E0)))⟩ ck_X0 ck_l0 p2_s1072_e
set_option maxRecDepth 100000 in
/-- GlacierMailModel.isWaiting -/
def p2_s1083 : ck_Sum := ((5, 0, 0), 245, [.inr (.inr (.inl 226)), .inl (ck_one 12)], ([], [], [(227, 2, 2, (0, 8, [(20, 0)])), (227, 5, 5, (0, 8, [(23, 0)])), (227, 9, 9, (0, 299, [(11, 0)]))]), ([(226, 17, 23), (226, 26, 26), (226, 29, 30), (235, 0, 29699), (236, 0, 299), (237, 0, 299)], []), [(.inr (some (.inl (ck_one 0))), 245, ([], [], [])), (.inr (some (.inl (ck_one 1))), 245, ([], [], [(226, 29, 29, (0, 299, [])), (227, 208, 208, ck_one (-1)), (227, 203, 203, (0, 7, []))]))])
set_option maxRecDepth 100000 in
theorem p2_s1083_e : ck_ok p2_O none [] [(303, [p2_s1081]), (301, [p2_s1082]), (304, [p2_s465]), (266, [p2_s207])] 302 [] 114 p2_s1083 = true := by decide +kernel
theorem p2_s1083_s {X : Int → Int} {LX : Nat} : ck_Ok p2_O X LX 302 p2_s1083 := ck_ok_s ⟨p2_nmu, ck_E1 (ck_S1 p2_s1081_s ck_S0) (ck_E1 (ck_S1 p2_s1082_s ck_S0) (ck_E1 (ck_S1 p2_s465_s ck_S0) (ck_E1 (ck_S1 p2_s207_s ck_S0) ck_E0)))⟩ ck_X0 ck_l0 p2_s1083_e
set_option maxRecDepth 100000 in
/-- GlacierMailModel.isWaiting -/
def p2_s1094 : ck_Sum := ((5, 0, 0), 245, [.inr (.inr (.inl 226)), .inl (ck_one 13)], ([], [], [(227, 2, 2, (0, 8, [(20, 0)])), (227, 5, 5, (0, 8, [(23, 0)])), (227, 9, 9, (0, 299, [(11, 0)]))]), ([(226, 17, 23), (226, 26, 26), (226, 29, 30), (235, 0, 29699), (236, 0, 299), (237, 0, 299)], []), [(.inr (some (.inl (ck_one 0))), 245, ([], [], [])), (.inr (some (.inl (ck_one 1))), 245, ([], [], [(226, 29, 29, (0, 299, [])), (227, 215, 215, ck_one (-1)), (227, 210, 210, (0, 7, []))]))])
set_option maxRecDepth 100000 in
theorem p2_s1094_e : ck_ok p2_O none [] [(303, [p2_s1092]), (301, [p2_s1093]), (304, [p2_s465]), (266, [p2_s207])] 302 [] 114 p2_s1094 = true := by decide +kernel
theorem p2_s1094_s {X : Int → Int} {LX : Nat} : ck_Ok p2_O X LX 302 p2_s1094 := ck_ok_s ⟨p2_nmu, ck_E1 (ck_S1 p2_s1092_s ck_S0) (ck_E1 (ck_S1 p2_s1093_s ck_S0) (ck_E1 (ck_S1 p2_s465_s ck_S0) (ck_E1 (ck_S1 p2_s207_s ck_S0) ck_E0)))⟩ ck_X0 ck_l0 p2_s1094_e
set_option maxRecDepth 100000 in
/-- GlacierMailModel.isWaiting -/
def p2_s1105 : ck_Sum := ((5, 0, 0), 245, [.inr (.inr (.inl 226)), .inl (ck_one 14)], ([], [], [(227, 2, 2, (0, 8, [(20, 0)])), (227, 5, 5, (0, 8, [(23, 0)])), (227, 9, 9, (0, 299, [(11, 0)]))]), ([(226, 17, 23), (226, 26, 26), (226, 29, 30), (235, 0, 29699), (236, 0, 299), (237, 0, 299)], []), [(.inr (some (.inl (ck_one 0))), 245, ([], [], [])), (.inr (some (.inl (ck_one 1))), 245, ([], [], [(226, 29, 29, (0, 299, [])), (227, 222, 222, ck_one (-1)), (227, 217, 217, (0, 7, []))]))])
set_option maxRecDepth 100000 in
theorem p2_s1105_e : ck_ok p2_O none [] [(303, [p2_s1103]), (301, [p2_s1104]), (304, [p2_s465]), (266, [p2_s207])] 302 [] 114 p2_s1105 = true := by decide +kernel
theorem p2_s1105_s {X : Int → Int} {LX : Nat} : ck_Ok p2_O X LX 302 p2_s1105 := ck_ok_s ⟨p2_nmu, ck_E1 (ck_S1 p2_s1103_s ck_S0) (ck_E1 (ck_S1 p2_s1104_s ck_S0) (ck_E1 (ck_S1 p2_s465_s ck_S0) (ck_E1 (ck_S1 p2_s207_s ck_S0) ck_E0)))⟩ ck_X0 ck_l0 p2_s1105_e
set_option maxRecDepth 100000 in
/-- GlacierMailModel.isWaiting -/
def p2_s1116 : ck_Sum := ((5, 0, 0), 245, [.inr (.inr (.inl 226)), .inl (ck_one 15)], ([], [], [(227, 2, 2, (0, 8, [(20, 0)])), (227, 5, 5, (0, 8, [(23, 0)])), (227, 9, 9, (0, 299, [(11, 0)]))]), ([(226, 17, 23), (226, 26, 26), (226, 29, 30), (235, 0, 29699), (236, 0, 299), (237, 0, 299)], []), [(.inr (some (.inl (ck_one 0))), 245, ([], [], [])), (.inr (some (.inl (ck_one 1))), 245, ([], [], [(226, 29, 29, (0, 299, [])), (227, 229, 229, ck_one (-1)), (227, 224, 224, (0, 7, []))]))])
set_option maxRecDepth 100000 in
theorem p2_s1116_e : ck_ok p2_O none [] [(303, [p2_s1114]), (301, [p2_s1115]), (304, [p2_s465]), (266, [p2_s207])] 302 [] 114 p2_s1116 = true := by decide +kernel
theorem p2_s1116_s {X : Int → Int} {LX : Nat} : ck_Ok p2_O X LX 302 p2_s1116 := ck_ok_s ⟨p2_nmu, ck_E1 (ck_S1 p2_s1114_s ck_S0) (ck_E1 (ck_S1 p2_s1115_s ck_S0) (ck_E1 (ck_S1 p2_s465_s ck_S0) (ck_E1 (ck_S1 p2_s207_s ck_S0) ck_E0)))⟩ ck_X0 ck_l0 p2_s1116_e
set_option maxRecDepth 100000 in
/-- GlacierMailModel.isWaiting -/
def p2_s1127 : ck_Sum := ((5, 0, 0), 245, [.inr (.inr (.inl 226)), .inl (ck_one 16)], ([], [], [(227, 2, 2, (0, 8, [(20, 0)])), (227, 5, 5, (0, 8, [(23, 0)])), (227, 9, 9, (0, 299, [(11, 0)]))]), ([(226, 17, 23), (226, 26, 26), (226, 29, 30), (235, 0, 29699), (236, 0, 299), (237, 0, 299)], []), [(.inr (some (.inl (ck_one 0))), 245, ([], [], [])), (.inr (some (.inl (ck_one 1))), 245, ([], [], [(226, 29, 29, (0, 299, [])), (227, 236, 236, ck_one (-1)), (227, 231, 231, (0, 7, []))]))])
set_option maxRecDepth 100000 in
theorem p2_s1127_e : ck_ok p2_O none [] [(303, [p2_s1125]), (301, [p2_s1126]), (304, [p2_s465]), (266, [p2_s207])] 302 [] 114 p2_s1127 = true := by decide +kernel
theorem p2_s1127_s {X : Int → Int} {LX : Nat} : ck_Ok p2_O X LX 302 p2_s1127 := ck_ok_s ⟨p2_nmu, ck_E1 (ck_S1 p2_s1125_s ck_S0) (ck_E1 (ck_S1 p2_s1126_s ck_S0) (ck_E1 (ck_S1 p2_s465_s ck_S0) (ck_E1 (ck_S1 p2_s207_s ck_S0) ck_E0)))⟩ ck_X0 ck_l0 p2_s1127_e
set_option maxRecDepth 100000 in
/-- GlacierMailModel.isWaiting -/
def p2_s1138 : ck_Sum := ((5, 0, 0), 245, [.inr (.inr (.inl 226)), .inl (ck_one 17)], ([], [], [(227, 2, 2, (0, 8, [(20, 0)])), (227, 5, 5, (0, 8, [(23, 0)])), (227, 9, 9, (0, 299, [(11, 0)]))]), ([(226, 17, 23), (226, 26, 26), (226, 29, 30), (235, 0, 29699), (236, 0, 299), (237, 0, 299)], []), [(.inr (some (.inl (ck_one 0))), 245, ([], [], [])), (.inr (some (.inl (ck_one 1))), 245, ([], [], [(226, 29, 29, (0, 299, [])), (227, 243, 243, ck_one (-1)), (227, 238, 238, (0, 7, []))]))])
set_option maxRecDepth 100000 in
theorem p2_s1138_e : ck_ok p2_O none [] [(303, [p2_s1136]), (301, [p2_s1137]), (304, [p2_s465]), (266, [p2_s207])] 302 [] 114 p2_s1138 = true := by decide +kernel
theorem p2_s1138_s {X : Int → Int} {LX : Nat} : ck_Ok p2_O X LX 302 p2_s1138 := ck_ok_s ⟨p2_nmu, ck_E1 (ck_S1 p2_s1136_s ck_S0) (ck_E1 (ck_S1 p2_s1137_s ck_S0) (ck_E1 (ck_S1 p2_s465_s ck_S0) (ck_E1 (ck_S1 p2_s207_s ck_S0) ck_E0)))⟩ ck_X0 ck_l0 p2_s1138_e
set_option maxRecDepth 100000 in
/-- GlacierMailModel.isWaiting -/
def p2_s1149 : ck_Sum := ((5, 0, 0), 245, [.inr (.inr (.inl 226)), .inl (ck_one 18)], ([], [], [(227, 2, 2, (0, 8, [(20, 0)])), (227, 5, 5, (0, 8, [(23, 0)])), (227, 9, 9, (0, 299, [(11, 0)]))]), ([(226, 17, 23), (226, 26, 26), (226, 29, 30), (235, 0, 29699), (236, 0, 299), (237, 0, 299)], []), [(.inr (some (.inl (ck_one 0))), 245, ([], [], [])), (.inr (some (.inl (ck_one 1))), 245, ([], [], [(226, 29, 29, (0, 299, [])), (227, 250, 250, ck_one (-1)), (227, 245, 245, (0, 7, []))]))])
set_option maxRecDepth 100000 in
theorem p2_s1149_e : ck_ok p2_O none [] [(303, [p2_s1147]), (301, [p2_s1148]), (304, [p2_s465]), (266, [p2_s207])] 302 [] 114 p2_s1149 = true := by decide +kernel
theorem p2_s1149_s {X : Int → Int} {LX : Nat} : ck_Ok p2_O X LX 302 p2_s1149 := ck_ok_s ⟨p2_nmu, ck_E1 (ck_S1 p2_s1147_s ck_S0) (ck_E1 (ck_S1 p2_s1148_s ck_S0) (ck_E1 (ck_S1 p2_s465_s ck_S0) (ck_E1 (ck_S1 p2_s207_s ck_S0) ck_E0)))⟩ ck_X0 ck_l0 p2_s1149_e
set_option maxRecDepth 100000 in
/-- GlacierMailModel.isWaiting -/
def p2_s1160 : ck_Sum := ((5, 0, 0), 245, [.inr (.inr (.inl 226)), .inl (ck_one 19)], ([], [], [(227, 2, 2, (0, 8, [(20, 0)])), (227, 5, 5, (0, 8, [(23, 0)])), (227, 9, 9, (0, 299, [(11, 0)]))]), ([(226, 17, 23), (226, 26, 26), (226, 29, 30), (235, 0, 29699), (236, 0, 299), (237, 0, 299)], []), [(.inr (some (.inl (ck_one 0))), 245, ([], [], [])), (.inr (some (.inl (ck_one 1))), 245, ([], [], [(226, 29, 29, (0, 299, [])), (227, 257, 257, ck_one (-1)), (227, 252, 252, (0, 7, []))]))])
set_option maxRecDepth 100000 in
theorem p2_s1160_e : ck_ok p2_O none [] [(303, [p2_s1158]), (301, [p2_s1159]), (304, [p2_s465]), (266, [p2_s207])] 302 [] 114 p2_s1160 = true := by decide +kernel
theorem p2_s1160_s {X : Int → Int} {LX : Nat} : ck_Ok p2_O X LX 302 p2_s1160 := ck_ok_s ⟨p2_nmu, ck_E1 (ck_S1 p2_s1158_s ck_S0) (ck_E1 (ck_S1 p2_s1159_s ck_S0) (ck_E1 (ck_S1 p2_s465_s ck_S0) (ck_E1 (ck_S1 p2_s207_s ck_S0) ck_E0)))⟩ ck_X0 ck_l0 p2_s1160_e
set_option maxRecDepth 100000 in
/-- GlacierMailModel.isWaiting -/
def p2_s1171 : ck_Sum := ((5, 0, 0), 245, [.inr (.inr (.inl 226)), .inl (ck_one 20)], ([], [], [(227, 2, 2, (0, 8, [(20, 0)])), (227, 5, 5, (0, 8, [(23, 0)])), (227, 9, 9, (0, 299, [(11, 0)]))]), ([(226, 17, 23), (226, 26, 26), (226, 29, 30), (235, 0, 29699), (236, 0, 299), (237, 0, 299)], []), [(.inr (some (.inl (ck_one 0))), 245, ([], [], [])), (.inr (some (.inl (ck_one 1))), 245, ([], [], [(226, 29, 29, (0, 299, [])), (227, 264, 264, ck_one (-1)), (227, 259, 259, (0, 7, []))]))])
set_option maxRecDepth 100000 in
theorem p2_s1171_e : ck_ok p2_O none [] [(303, [p2_s1169]), (301, [p2_s1170]), (304, [p2_s465]), (266, [p2_s207])] 302 [] 114 p2_s1171 = true := by decide +kernel
theorem p2_s1171_s {X : Int → Int} {LX : Nat} : ck_Ok p2_O X LX 302 p2_s1171 := ck_ok_s ⟨p2_nmu, ck_E1 (ck_S1 p2_s1169_s ck_S0) (ck_E1 (ck_S1 p2_s1170_s ck_S0) (ck_E1 (ck_S1 p2_s465_s ck_S0) (ck_E1 (ck_S1 p2_s207_s ck_S0) ck_E0)))⟩ ck_X0 ck_l0 p2_s1171_e
set_option maxRecDepth 100000 in
/-- GlacierMailModel.isWaiting -/
def p2_s1182 : ck_Sum := ((5, 0, 0), 245, [.inr (.inr (.inl 226)), .inl (ck_one 21)], ([], [], [(227, 2, 2, (0, 8, [(20, 0)])), (227, 5, 5, (0, 8, [(23, 0)])), (227, 9, 9, (0, 299, [(11, 0)]))]), ([(226, 17, 23), (226, 26, 26), (226, 29, 30), (235, 0, 29699), (236, 0, 299), (237, 0, 299)], []), [(.inr (some (.inl (ck_one 0))), 245, ([], [], [])), (.inr (some (.inl (ck_one 1))), 245, ([], [], [(226, 29, 29, (0, 299, [])), (227, 271, 271, ck_one (-1)), (227, 266, 266, (0, 7, []))]))])
set_option maxRecDepth 100000 in
theorem p2_s1182_e : ck_ok p2_O none [] [(303, [p2_s1180]), (301, [p2_s1181]), (304, [p2_s465]), (266, [p2_s207])] 302 [] 114 p2_s1182 = true := by decide +kernel
theorem p2_s1182_s {X : Int → Int} {LX : Nat} : ck_Ok p2_O X LX 302 p2_s1182 := ck_ok_s ⟨p2_nmu, ck_E1 (ck_S1 p2_s1180_s ck_S0) (ck_E1 (ck_S1 p2_s1181_s ck_S0) (ck_E1 (ck_S1 p2_s465_s ck_S0) (ck_E1 (ck_S1 p2_s207_s ck_S0) ck_E0)))⟩ ck_X0 ck_l0 p2_s1182_e
set_option maxRecDepth 100000 in
/-- GlacierMailModel.isWaiting -/
def p2_s1193 : ck_Sum := ((5, 0, 0), 245, [.inr (.inr (.inl 226)), .inl (ck_one 22)], ([], [], [(227, 2, 2, (0, 8, [(20, 0)])), (227, 5, 5, (0, 8, [(23, 0)])), (227, 9, 9, (0, 299, [(11, 0)]))]), ([(226, 17, 23), (226, 26, 26), (226, 29, 30), (235, 0, 29699), (236, 0, 299), (237, 0, 299)], []), [(.inr (some (.inl (ck_one 0))), 245, ([], [], [])), (.inr (some (.inl (ck_one 1))), 245, ([], [], [(226, 29, 29, (0, 299, [])), (227, 278, 278, ck_one (-1)), (227, 273, 273, (0, 7, []))]))])
set_option maxRecDepth 100000 in
theorem p2_s1193_e : ck_ok p2_O none [] [(303, [p2_s1191]), (301, [p2_s1192]), (304, [p2_s465]), (266, [p2_s207])] 302 [] 114 p2_s1193 = true := by decide +kernel
theorem p2_s1193_s {X : Int → Int} {LX : Nat} : ck_Ok p2_O X LX 302 p2_s1193 := ck_ok_s ⟨p2_nmu, ck_E1 (ck_S1 p2_s1191_s ck_S0) (ck_E1 (ck_S1 p2_s1192_s ck_S0) (ck_E1 (ck_S1 p2_s465_s ck_S0) (ck_E1 (ck_S1 p2_s207_s ck_S0) ck_E0)))⟩ ck_X0 ck_l0 p2_s1193_e
set_option maxRecDepth 100000 in
/-- GlacierMailModel.isWaiting -/
def p2_s1204 : ck_Sum := ((5, 0, 0), 245, [.inr (.inr (.inl 226)), .inl (ck_one 23)], ([], [], [(227, 2, 2, (0, 8, [(20, 0)])), (227, 5, 5, (0, 8, [(23, 0)])), (227, 9, 9, (0, 299, [(11, 0)]))]), ([(226, 17, 23), (226, 26, 26), (226, 29, 30), (235, 0, 29699), (236, 0, 299), (237, 0, 299)], []), [(.inr (some (.inl (ck_one 0))), 245, ([], [], [])), (.inr (some (.inl (ck_one 1))), 245, ([], [], [(226, 29, 29, (0, 299, [])), (227, 285, 285, ck_one (-1)), (227, 280, 280, (0, 7, []))]))])
set_option maxRecDepth 100000 in
theorem p2_s1204_e : ck_ok p2_O none [] [(303, [p2_s1202]), (301, [p2_s1203]), (304, [p2_s465]), (266, [p2_s207])] 302 [] 114 p2_s1204 = true := by decide +kernel
theorem p2_s1204_s {X : Int → Int} {LX : Nat} : ck_Ok p2_O X LX 302 p2_s1204 := ck_ok_s ⟨p2_nmu, ck_E1 (ck_S1 p2_s1202_s ck_S0) (ck_E1 (ck_S1 p2_s1203_s ck_S0) (ck_E1 (ck_S1 p2_s465_s ck_S0) (ck_E1 (ck_S1 p2_s207_s ck_S0) ck_E0)))⟩ ck_X0 ck_l0 p2_s1204_e
set_option maxRecDepth 100000 in
/-- GlacierMailModel.outFrom -/
def p2_s1531 : ck_Sum := ((3, 0, 0), 245, [.inr (.inr (.inl 226)), .inl (0, 6, []), .inl (0, 98, []), .inl (0, 299, [])], ([], [], [(227, 2, 2, (0, 8, [(20, 0)])), (227, 5, 5, (0, 8, [(23, 0)]))]), ([(226, 17, 23), (226, 26, 26), (226, 29, 30), (235, 0, 29699), (236, 0, 299), (237, 0, 299)], []), [(.inr (some (.inl (ck_one (-1)))), 245, ([], [], [(226, 29, 29, ck_one (-1))])), (.inr (some (.inl (0, 299, []))), 245, ([], [], [(226, 29, 29, (0, 299, []))]))])
set_option maxRecDepth 100000 in
theorem p2_s1531_e : ck_ok p2_O none [] [(306, [p2_s463])] 325 [] 90 p2_s1531 = true := by decide +kernel
theorem p2_s1531_s {X : Int → Int} {LX : Nat} : ck_Ok p2_O X LX 325 p2_s1531 := ck_ok_s ⟨p2_nmu, ck_E1 (ck_S1 p2_s463_s ck_S0) ck_E0⟩ ck_X0 ck_l0 p2_s1531_e
set_option maxRecDepth 100000 in
/-- GlacierMailModel.throwsFor -/
def p2_s1532 : ck_Sum := ((4, 0, 0), 245, [.inr (.inr (.inl 226)), .inl (0, 5, []), .inl (0, 299, []), .inl (0, 299, []), .inl (0, 9, [])], ([], [], [(227, 2, 2, (0, 8, [(20, 0)])), (227, 5, 5, (0, 8, [(23, 0)])), (227, 9, 9, (0, 299, [(11, 0)]))]), ([(226, 0, 0), (226, 17, 23), (226, 26, 26), (226, 29, 30), (235, 0, 29699), (236, 0, 299), (237, 0, 299)], []), [(.inr (some (.inl (ck_one 0))), 245, ([], [], [(226, 0, 0, (1, 3, []))])), (.inr (some (.inl ((-2147483648), 2147483647, []))), 245, ([], [], [(226, 0, 0, ck_one 0)]))])
set_option maxRecDepth 100000 in
theorem p2_s1532_e : ck_ok p2_O none [] [(288, [p2_s317]), (282, [p2_s268, p2_s269, p2_s270, p2_s685, p2_s677, p2_s272]), (285, [p2_s290]), (266, [p2_s207]), (286, [p2_s1530]), (259, [p2_s200]), (325, [p2_s1531])] 324 [(90, [some (.inr (.inr (.inl 226))), some (.inl (0, 5, [])), some (.inl (0, 299, [])), some (.inl (0, 299, [])), some (.inl (0, 9, [])), some (.inl ((-2147483648), 2147483647, [])), some (.inl ((-1), 167, [])), some (.inl ((-1), 167, [])), some (.inl (0, 167, []))], ([], [], [(226, 0, 0, ck_one 0), (227, 2, 2, (0, 8, [(20, 0)])), (227, 5, 5, (0, 8, [(23, 0)])), (227, 9, 9, (0, 299, [(11, 0)]))]), 100, .inl 8, true)] 266 p2_s1532 = true := by decide +kernel
theorem p2_s1532_s {X : Int → Int} {LX : Nat} : ck_Ok p2_O X LX 324 p2_s1532 := ck_ok_s ⟨p2_nmu, ck_E1 (ck_S1 p2_s317_s ck_S0) (ck_E1 (ck_S1 p2_s268_s (ck_S1 p2_s269_s (ck_S1 p2_s270_s (ck_S1 p2_s685_s (ck_S1 p2_s677_s (ck_S1 p2_s272_s ck_S0)))))) (ck_E1 (ck_S1 p2_s290_s ck_S0) (ck_E1 (ck_S1 p2_s207_s ck_S0) (ck_E1 (ck_S1 p2_s1530_s ck_S0) (ck_E1 (ck_S1 p2_s200_s ck_S0) (ck_E1 (ck_S1 p2_s1531_s ck_S0) ck_E0))))))⟩ ck_X0 ck_l0 p2_s1532_e
set_option maxRecDepth 100000 in
/-- GlacierMailModel.latest -/
def p2_s1543 : ck_Sum := ((4, 0, 0), 245, [.inr (.inr (.inl 226)), .inl (0, 7, []), .inl (0, 299, [])], ([], [], [(227, 2, 2, (0, 8, [(20, 0)])), (227, 3, 3, (0, 8, [(21, 0)])), (227, 5, 5, (0, 8, [(23, 0)])), (227, 9, 9, (0, 299, [(11, 0)]))]), ([(226, 0, 0), (226, 17, 23), (226, 26, 26), (226, 29, 30), (235, 0, 29699), (236, 0, 299), (237, 0, 299)], []), [(.inr (some (.inl (0, 299, []))), 245, ([], [], [(226, 0, 0, (0, 1, []))])), (.inr (some (.inl (ck_one (-1)))), 245, ([], [], [(226, 0, 0, ck_one 0)]))])
set_option maxRecDepth 100000 in
theorem p2_s1543_e : ck_ok p2_O none [] [(298, [p2_s447]), (282, [p2_s268, p2_s269, p2_s270]), (285, [p2_s290]), (266, [p2_s207]), (299, [p2_s679, p2_s680]), (325, [p2_s1531])] 326 [(36, [some (.inr (.inr (.inl 226))), some (.inl (0, 7, [])), some (.inl (0, 299, [])), some (.inl ((-1), 299, [])), none], ([], [], [(226, 0, 0, ck_one 0), (227, 2, 2, (0, 8, [(20, 0)])), (227, 3, 3, (0, 8, [(21, 0)])), (227, 5, 5, (0, 8, [(23, 0)])), (227, 9, 9, (0, 299, [(11, 0)]))]), 100, .inl 3, false)] 186 p2_s1543 = true := by decide +kernel
theorem p2_s1543_s {X : Int → Int} {LX : Nat} : ck_Ok p2_O X LX 326 p2_s1543 := ck_ok_s ⟨p2_nmu, ck_E1 (ck_S1 p2_s447_s ck_S0) (ck_E1 (ck_S1 p2_s268_s (ck_S1 p2_s269_s (ck_S1 p2_s270_s ck_S0))) (ck_E1 (ck_S1 p2_s290_s ck_S0) (ck_E1 (ck_S1 p2_s207_s ck_S0) (ck_E1 (ck_S1 p2_s679_s (ck_S1 p2_s680_s ck_S0)) (ck_E1 (ck_S1 p2_s1531_s ck_S0) ck_E0)))))⟩ ck_X0 ck_l0 p2_s1543_e
set_option maxRecDepth 100000 in
/-- GlacierMailModel.hut -/
def p2_s1556 : ck_Sum := ((4, 0, 0), 245, [.inr (.inr (.inl 226)), .inl (0, 5, []), .inl (0, 299, [])], ([], [], [(227, 2, 2, (0, 8, [(20, 0)])), (227, 5, 5, (0, 8, [(23, 0)])), (227, 9, 9, (0, 299, [(11, 0)]))]), ([(226, 0, 0), (226, 17, 23), (226, 26, 26), (226, 29, 30), (235, 0, 29699), (236, 0, 299), (237, 0, 299)], []), [(.inr (some (.inl (0, 98, []))), 245, ([], [], [(226, 0, 0, (0, 2, []))])), (.inr (some (.inl (ck_one (-1)))), 245, ([], [], [(226, 0, 0, ck_one 0)]))])
set_option maxRecDepth 100000 in
theorem p2_s1556_e : ck_ok p2_O none [] [(288, [p2_s317]), (282, [p2_s268, p2_s269, p2_s272, p2_s270]), (286, [p2_s1555]), (259, [p2_s200]), (266, [p2_s207]), (325, [p2_s1531])] 327 [(46, [some (.inr (.inr (.inl 226))), some (.inl (0, 5, [])), some (.inl (0, 299, [])), some (.inl (0, 167, [])), none], ([], [], [(226, 0, 0, ck_one 0), (227, 2, 2, (0, 8, [(20, 0)])), (227, 5, 5, (0, 8, [(23, 0)])), (227, 9, 9, (0, 299, [(11, 0)]))]), 100, .inl 3, true)] 182 p2_s1556 = true := by decide +kernel
theorem p2_s1556_s {X : Int → Int} {LX : Nat} : ck_Ok p2_O X LX 327 p2_s1556 := ck_ok_s ⟨p2_nmu, ck_E1 (ck_S1 p2_s317_s ck_S0) (ck_E1 (ck_S1 p2_s268_s (ck_S1 p2_s269_s (ck_S1 p2_s272_s (ck_S1 p2_s270_s ck_S0)))) (ck_E1 (ck_S1 p2_s1555_s ck_S0) (ck_E1 (ck_S1 p2_s200_s ck_S0) (ck_E1 (ck_S1 p2_s207_s ck_S0) (ck_E1 (ck_S1 p2_s1531_s ck_S0) ck_E0)))))⟩ ck_X0 ck_l0 p2_s1556_e
set_option maxRecDepth 100000 in
/-- GlacierMailModel.without -/
def p2_s1567 : ck_Sum := ((4, 0, 0), 245, [.inr (.inr (.inl 226)), .inl (0, 23, []), .inl (0, 7, [])], ([], [], [(227, 2, 2, (0, 8, [(20, 0)])), (227, 4, 4, (0, 24, [(22, 0)])), (227, 5, 5, (0, 8, [(23, 0)]))]), ([(226, 0, 0), (226, 17, 23), (226, 26, 26), (226, 29, 30), (235, 0, 29699), (236, 0, 299), (237, 0, 299)], []), [(.inr (some (.inl (0, 299, []))), 245, ([], [], [(226, 0, 0, (0, 1, []))])), (.inr (some (.inl (ck_one (-1)))), 245, ([], [], [(226, 29, 29, ck_one (-1)), (226, 0, 0, ck_one 0)]))])
set_option maxRecDepth 100000 in
theorem p2_s1567_e : ck_ok p2_O none [] [(309, [p2_s532]), (282, [p2_s268, p2_s269]), (286, [p2_s446]), (305, [p2_s464])] 328 [] 128 p2_s1567 = true := by decide +kernel
theorem p2_s1567_s {X : Int → Int} {LX : Nat} : ck_Ok p2_O X LX 328 p2_s1567 := ck_ok_s ⟨p2_nmu, ck_E1 (ck_S1 p2_s532_s ck_S0) (ck_E1 (ck_S1 p2_s268_s (ck_S1 p2_s269_s ck_S0)) (ck_E1 (ck_S1 p2_s446_s ck_S0) (ck_E1 (ck_S1 p2_s464_s ck_S0) ck_E0)))⟩ ck_X0 ck_l0 p2_s1567_e
set_option maxRecDepth 100000 in
/-- GlacierMailModel.moved -/
def p2_s1573 : ck_Sum := ((4, 0, 0), 245, [.inr (.inr (.inl 226)), .inl (0, 23, [])], ([], [], [(227, 2, 2, (0, 8, [(20, 0)])), (227, 4, 4, (0, 24, [(22, 0)])), (227, 5, 5, (0, 8, [(23, 0)]))]), ([(226, 0, 0), (226, 17, 23), (226, 26, 26), (226, 29, 30), (235, 0, 29699), (236, 0, 299), (237, 0, 299)], []), [(.inr (some (.inl (0, 2147483647, []))), 245, ([], [], [(226, 0, 0, (0, 1, []))])), (.inr (some (.inl ((-2147483648), (-1), []))), 245, ([], [], [(226, 30, 30, ((-2147483648), (-1), [])), (226, 0, 0, ck_one 0)]))])
set_option maxRecDepth 100000 in
theorem p2_s1573_e : ck_ok p2_O none [] [(309, [p2_s532]), (282, [p2_s268, p2_s269]), (305, [p2_s464])] 329 [] 104 p2_s1573 = true := by decide +kernel
theorem p2_s1573_s {X : Int → Int} {LX : Nat} : ck_Ok p2_O X LX 329 p2_s1573 := ck_ok_s ⟨p2_nmu, ck_E1 (ck_S1 p2_s532_s ck_S0) (ck_E1 (ck_S1 p2_s268_s (ck_S1 p2_s269_s ck_S0)) (ck_E1 (ck_S1 p2_s464_s ck_S0) ck_E0))⟩ ck_X0 ck_l0 p2_s1573_e
set_option maxRecDepth 100000 in
/-- GlacierMailModel.lost -/
def p2_s1575 : ck_Sum := ((5, 0, 0), 245, [.inr (.inr (.inl 226))], ([], [], [(227, 2, 2, (0, 8, [(20, 0)])), (227, 4, 4, (0, 24, [(22, 0)])), (227, 5, 5, (0, 8, [(23, 0)]))]), ([(226, 0, 0), (226, 17, 23), (226, 26, 26), (226, 29, 30), (235, 0, 29699), (236, 0, 299), (237, 0, 299)], []), [(.inr (some (.inl ((-2147483648), 2147483647, []))), 245, ([], [], [(226, 0, 0, ck_one 0)]))])
set_option maxRecDepth 100000 in
theorem p2_s1575_e : ck_ok p2_O none [] [(254, [p2_s196]), (304, [p2_s465])] 330 [(9, [some (.inr (.inr (.inl 226))), some (.inl ((-2147483648), 2147483647, [])), some (.inl (0, 24, []))], ([], [], [(226, 0, 0, ck_one 0), (227, 2, 2, (0, 8, [(20, 0)])), (227, 4, 4, (0, 24, [(22, 0)])), (227, 5, 5, (0, 8, [(23, 0)]))]), 100, .inl 2, true)] 162 p2_s1575 = true := by decide +kernel
theorem p2_s1575_s {X : Int → Int} {LX : Nat} : ck_Ok p2_O X LX 330 p2_s1575 := ck_ok_s ⟨p2_nmu, ck_E1 (ck_S1 p2_s196_s ck_S0) (ck_E1 (ck_S1 p2_s465_s ck_S0) ck_E0)⟩ ck_X0 ck_l0 p2_s1575_e
set_option maxRecDepth 100000 in
/-- GlacierMailModel.outsAll -/
def p2_s1578 : ck_Sum := ((5, 0, 0), 245, [.inr (.inr (.inl 226))], ([], [], [(227, 2, 2, (0, 8, [(20, 0)])), (227, 4, 4, (0, 24, [(22, 0)])), (227, 5, 5, (0, 8, [(23, 0)]))]), ([(226, 17, 23), (226, 26, 26), (226, 29, 30), (235, 0, 29699), (236, 0, 299), (237, 0, 299), (238, 0, 23)], []), [(.inr none, 245, ([], [], []))])
set_option maxRecDepth 100000 in
theorem p2_s1578_e : ck_ok p2_O none [] [(254, [p2_s196]), (304, [p2_s465])] 332 [(2, [some (.inr (.inr (.inl 226))), some (.inl (0, 24, []))], ([], [], [(227, 2, 2, (0, 8, [(20, 0)])), (227, 4, 4, (0, 24, [(22, 0)])), (227, 5, 5, (0, 8, [(23, 0)]))]), 100, .inl 1, true)] 146 p2_s1578 = true := by decide +kernel
theorem p2_s1578_s {X : Int → Int} {LX : Nat} : ck_Ok p2_O X LX 332 p2_s1578 := ck_ok_s ⟨p2_nmu, ck_E1 (ck_S1 p2_s196_s ck_S0) (ck_E1 (ck_S1 p2_s465_s ck_S0) ck_E0)⟩ ck_X0 ck_l0 p2_s1578_e
set_option maxRecDepth 100000 in
/-- GlacierMailModel.market -/
def p2_s1606 : ck_Sum := ((6, 0, 0), 245, [.inr (.inr (.inl 226)), .inl (0, 1, [])], ([], [], [(227, 2, 2, (0, 8, [(20, 0)])), (227, 4, 4, (0, 24, [(22, 0)])), (227, 5, 5, (0, 8, [(23, 0)]))]), ([(226, 0, 0), (226, 17, 23), (226, 26, 26), (226, 29, 30), (235, 0, 29699), (236, 0, 299), (237, 0, 299), (238, 0, 23)], []), [(.inr (some (.inl ((-1), 299, []))), 245, ([], [], [(226, 0, 0, ck_one 0)])), (.inr (some (.inl (0, 2147483647, []))), 245, ([], [], [(226, 0, 0, ck_one 0)]))])
set_option maxRecDepth 100000 in
theorem p2_s1606_e : ck_ok p2_O none [] [(332, [p2_s1578]), (333, [p2_s1605])] 331 [(16, [some (.inr (.inr (.inl 226))), some (.inl (0, 1, [])), some (.inl ((-1), 299, [])), some (.inl (0, 2147483647, [])), some (.inl (0, 300, [])), none], ([], [], [(226, 0, 0, ck_one 0), (227, 2, 2, (0, 8, [(20, 0)])), (227, 4, 4, (0, 24, [(22, 0)])), (227, 5, 5, (0, 8, [(23, 0)]))]), 100, .inl 4, true)] 166 p2_s1606 = true := by decide +kernel
theorem p2_s1606_s {X : Int → Int} {LX : Nat} : ck_Ok p2_O X LX 331 p2_s1606 := ck_ok_s ⟨p2_nmu, ck_E1 (ck_S1 p2_s1578_s ck_S0) (ck_E1 (ck_S1 p2_s1605_s ck_S0) ck_E0)⟩ ck_X0 ck_l0 p2_s1606_e
set_option maxRecDepth 100000 in
/-- GlacierMailModel.passes -/
def p2_s1688 : ck_Sum := ((4, 0, 0), 245, [.inr (.inr (.inl 226)), .inl (0, 23, [])], ([], [], [(227, 2, 2, (0, 8, [(20, 0)])), (227, 4, 4, (0, 24, [(22, 0)])), (227, 5, 5, (0, 8, [(23, 0)]))]), ([(226, 0, 0), (226, 17, 23), (226, 26, 26), (226, 29, 30), (235, 0, 29699), (236, 0, 299), (237, 0, 299), (239, 0, 299)], []), [(.inr (some (.inl (ck_one 0))), 245, ([], [], [(226, 0, 0, ck_one 1)])), (.inr (some (.inl ((-2147483648), 2147483647, []))), 245, ([], [], [(226, 0, 0, ck_one 0)]))])
set_option maxRecDepth 100000 in
theorem p2_s1688_e : ck_ok p2_O none [] [(309, [p2_s532]), (282, [p2_s268, p2_s269]), (305, [p2_s464]), (335, [p2_s1667]), (254, [p2_s196]), (301, [p2_s457, p2_s459]), (336, [p2_s1672])] 334 [(34, [some (.inr (.inr (.inl 226))), some (.inl (0, 23, [])), some (.inl ((-2147483648), 2147483647, [])), some (.inl (0, 24, []))], ([], [], [(226, 0, 0, ck_one 0), (227, 2, 2, (0, 8, [(20, 0)])), (227, 4, 4, (0, 24, [(22, 0)])), (227, 5, 5, (0, 8, [(23, 0)]))]), 100, .inl 3, true)] 250 p2_s1688 = true := by decide +kernel
theorem p2_s1688_s {X : Int → Int} {LX : Nat} : ck_Ok p2_O X LX 334 p2_s1688 := ck_ok_s ⟨p2_nmu, ck_E1 (ck_S1 p2_s532_s ck_S0) (ck_E1 (ck_S1 p2_s268_s (ck_S1 p2_s269_s ck_S0)) (ck_E1 (ck_S1 p2_s464_s ck_S0) (ck_E1 (ck_S1 p2_s1667_s ck_S0) (ck_E1 (ck_S1 p2_s196_s ck_S0) (ck_E1 (ck_S1 p2_s457_s (ck_S1 p2_s459_s ck_S0)) (ck_E1 (ck_S1 p2_s1672_s ck_S0) ck_E0))))))⟩ ck_X0 ck_l0 p2_s1688_e
set_option maxRecDepth 100000 in
/-- GlacierMailModel.wroteIn -/
def p2_s1724 : ck_Sum := ((4, 0, 0), 245, [.inr (.inr (.inl 226)), .inl (0, 7, []), .inl (0, 5, []), .inl (0, 299, []), .inl (0, 99, [])], ([], [], [(227, 2, 2, (0, 8, [(20, 0)])), (227, 5, 5, (0, 8, [(23, 0)]))]), ([(226, 17, 23), (226, 26, 26), (226, 29, 30), (235, 0, 29699), (236, 0, 299), (237, 0, 299)], []), [(.inr (some (.inl (ck_one (-1)))), 245, ([], [], [])), (.inr (some (.inl (0, 298, []))), 245, ([], [], [(226, 29, 29, (0, 299, []))]))])
set_option maxRecDepth 100000 in
theorem p2_s1724_e : ck_ok p2_O none [] [(299, [p2_s679, p2_s680]), (325, [p2_s1531])] 339 [(5, [some (.inr (.inr (.inl 226))), some (.inl (0, 7, [])), some (.inl (0, 5, [])), some (.inl (0, 299, [])), some (.inl (0, 99, [])), some (.inl ((-1), 298, []))], ([], [], [(227, 2, 2, (0, 8, [(20, 0)])), (227, 5, 5, (0, 8, [(23, 0)]))]), 100, .inl 5, false)] 198 p2_s1724 = true := by decide +kernel
theorem p2_s1724_s {X : Int → Int} {LX : Nat} : ck_Ok p2_O X LX 339 p2_s1724 := ck_ok_s ⟨p2_nmu, ck_E1 (ck_S1 p2_s679_s (ck_S1 p2_s680_s ck_S0)) (ck_E1 (ck_S1 p2_s1531_s ck_S0) ck_E0)⟩ ck_X0 ck_l0 p2_s1724_e
set_option maxRecDepth 100000 in
/-- GlacierMailModel.writers -/
def p2_s1725 : ck_Sum := ((5, 0, 0), 245, [.inr (.inr (.inl 226)), .inl (0, 5, []), .inl (0, 299, []), .inl (0, 99, [])], ([], [], [(227, 2, 2, (0, 8, [(20, 0)])), (227, 3, 3, (0, 8, [(21, 0)])), (227, 5, 5, (0, 8, [(23, 0)]))]), ([(226, 0, 0), (226, 17, 23), (226, 26, 26), (226, 29, 30), (235, 0, 29699), (236, 0, 299), (237, 0, 299)], []), [(.inr (some (.inl (ck_one 0))), 245, ([], [], [(226, 0, 0, ck_one 1)])), (.inr (some (.inl ((-2147483648), 2147483647, []))), 245, ([], [], [(226, 0, 0, ck_one 0)]))])
set_option maxRecDepth 100000 in
theorem p2_s1725_e : ck_ok p2_O none [] [(288, [p2_s317]), (282, [p2_s268, p2_s269, p2_s270]), (285, [p2_s290]), (286, [p2_s1716]), (253, [p2_s214]), (339, [p2_s1724])] 338 [(56, [some (.inr (.inr (.inl 226))), some (.inl (0, 5, [])), some (.inl (0, 299, [])), some (.inl (0, 99, [])), some (.inl ((-2147483648), 2147483647, [])), some (.inl (0, 8, []))], ([], [], [(226, 0, 0, ck_one 0), (227, 2, 2, (0, 8, [(20, 0)])), (227, 3, 3, (0, 8, [(21, 0)])), (227, 5, 5, (0, 8, [(23, 0)]))]), 100, .inl 5, true)] 202 p2_s1725 = true := by decide +kernel
theorem p2_s1725_s {X : Int → Int} {LX : Nat} : ck_Ok p2_O X LX 338 p2_s1725 := ck_ok_s ⟨p2_nmu, ck_E1 (ck_S1 p2_s317_s ck_S0) (ck_E1 (ck_S1 p2_s268_s (ck_S1 p2_s269_s (ck_S1 p2_s270_s ck_S0))) (ck_E1 (ck_S1 p2_s290_s ck_S0) (ck_E1 (ck_S1 p2_s1716_s ck_S0) (ck_E1 (ck_S1 p2_s214_s ck_S0) (ck_E1 (ck_S1 p2_s1724_s ck_S0) ck_E0)))))⟩ ck_X0 ck_l0 p2_s1725_e
set_option maxRecDepth 100000 in
/-- GlacierMailModel.wrote -/
def p2_s1743 : ck_Sum := ((5, 0, 0), 245, [.inr (.inr (.inl 226)), .inl (0, 7, []), .inl (0, 5, []), .inl (0, 299, []), .inl (0, 99, [])], ([], [], [(227, 2, 2, (0, 8, [(20, 0)])), (227, 3, 3, (0, 8, [(21, 0)])), (227, 5, 5, (0, 8, [(23, 0)]))]), ([(226, 0, 0), (226, 17, 23), (226, 26, 26), (226, 29, 30), (235, 0, 29699), (236, 0, 299), (237, 0, 299)], []), [(.inr (some (.inl (0, 298, []))), 245, ([], [], [(226, 0, 0, (0, 1, []))])), (.inr (some (.inl (ck_one (-1)))), 245, ([], [], [(226, 0, 0, ck_one 0)]))])
set_option maxRecDepth 100000 in
theorem p2_s1743_e : ck_ok p2_O none [] [(298, [p2_s447]), (282, [p2_s268, p2_s269, p2_s270]), (288, [p2_s317]), (285, [p2_s290]), (286, [p2_s1716]), (339, [p2_s1724])] 340 [] 142 p2_s1743 = true := by decide +kernel
theorem p2_s1743_s {X : Int → Int} {LX : Nat} : ck_Ok p2_O X LX 340 p2_s1743 := ck_ok_s ⟨p2_nmu, ck_E1 (ck_S1 p2_s447_s ck_S0) (ck_E1 (ck_S1 p2_s268_s (ck_S1 p2_s269_s (ck_S1 p2_s270_s ck_S0))) (ck_E1 (ck_S1 p2_s317_s ck_S0) (ck_E1 (ck_S1 p2_s290_s ck_S0) (ck_E1 (ck_S1 p2_s1716_s ck_S0) (ck_E1 (ck_S1 p2_s1724_s ck_S0) ck_E0)))))⟩ ck_X0 ck_l0 p2_s1743_e
set_option maxRecDepth 100000 in
/-- GlacierMailModel.answers -/
def p2_s1858 : ck_Sum := ((4, 0, 0), 245, [.inr (.inr (.inl 226)), .inl (0, 7, [])], ([], [], [(227, 2, 2, (0, 8, [(20, 0)])), (227, 3, 3, (0, 8, [(21, 0)])), (227, 5, 5, (0, 8, [(23, 0)])), (227, 9, 9, (0, 299, [(11, 0)]))]), ([(226, 17, 23), (226, 26, 26), (226, 29, 30), (235, 0, 29699), (236, 0, 299), (237, 0, 299), (240, 0, 2407), (241, 0, 2407), (242, 0, 2407)], []), [(.inr none, 245, ([], [], []))])
set_option maxRecDepth 100000 in
theorem p2_s1858_e : ck_ok p2_O none [] [(266, [p2_s207]), (351, [p2_s1856]), (253, [p2_s214]), (299, [p2_s679, p2_s680]), (325, [p2_s1531]), (352, [p2_s1857])] 350 [(2, [some (.inr (.inr (.inl 226))), some (.inl (0, 7, [])), some (.inl (0, 2408, [])), none, none, none, none], ([], [], [(227, 2, 2, (0, 8, [(20, 0)])), (227, 3, 3, (0, 8, [(21, 0)])), (227, 5, 5, (0, 8, [(23, 0)])), (227, 9, 9, (0, 299, [(11, 0)]))]), 100, .inl 2, true), (61, [some (.inr (.inr (.inl 226))), some (.inl (0, 7, [])), some (.inl (0, 300, [])), none, none, none, none], ([], [], [(227, 2, 2, (0, 8, [(20, 0)])), (227, 3, 3, (0, 8, [(21, 0)])), (227, 5, 5, (0, 8, [(23, 0)])), (227, 9, 9, (0, 299, [(11, 0)]))]), 300, .inl 2, true), (70, [some (.inr (.inr (.inl 226))), some (.inl (0, 7, [])), some (.inl (0, 299, [(300, 0)])), some (.inl (0, 8, [])), none, none, none], ([], [], [(227, 2, 2, (0, 8, [(20, 0)])), (227, 3, 3, (0, 8, [(21, 0)])), (227, 5, 5, (0, 8, [(23, 0)])), (227, 9, 9, (0, 299, [(11, 0)]))]), 500, .inl 3, true), (135, [some (.inr (.inr (.inl 226))), some (.inl (0, 7, [])), some (.inl (0, 299, [(300, 0)])), some (.inl (0, 7, [(500, 0)])), some (.inl (0, 999, [])), some (.inl ((-1), 299, [])), some (.inl (0, 8, []))], ([], [], [(226, 29, 29, ((-1), 299, [])), (227, 2, 2, (0, 8, [(20, 0)])), (227, 3, 3, (1, 8, [(21, 0)])), (227, 5, 5, (0, 8, [(23, 0)])), (227, 9, 9, (0, 299, [(11, 0)]))]), 700, .inl 6, true)] 630 p2_s1858 = true := by decide +kernel
theorem p2_s1858_s {X : Int → Int} {LX : Nat} : ck_Ok p2_O X LX 350 p2_s1858 := ck_ok_s ⟨p2_nmu, ck_E1 (ck_S1 p2_s207_s ck_S0) (ck_E1 (ck_S1 p2_s1856_s ck_S0) (ck_E1 (ck_S1 p2_s214_s ck_S0) (ck_E1 (ck_S1 p2_s679_s (ck_S1 p2_s680_s ck_S0)) (ck_E1 (ck_S1 p2_s1531_s ck_S0) (ck_E1 (ck_S1 p2_s1857_s ck_S0) ck_E0)))))⟩ ck_X0 ck_l0 p2_s1858_e
set_option maxRecDepth 100000 in
/-- GlacierMailModel.soonest -/
def p2_s1860 : ck_Sum := ((5, 0, 0), 245, [.inr (.inr (.inl 226)), .inl (0, 7, []), .inl (0, 7, []), .inl (0, 1, [])], ([], [], [(227, 2, 2, (0, 8, [(20, 0)])), (227, 3, 3, (0, 8, [(21, 0)])), (227, 5, 5, (0, 8, [(23, 0)])), (227, 9, 9, (0, 299, [(11, 0)]))]), ([(226, 0, 0), (226, 17, 23), (226, 26, 26), (226, 29, 30), (235, 0, 29699), (236, 0, 299), (237, 0, 299), (240, 0, 2407), (241, 0, 2407), (242, 0, 2407)], []), [(.inr (some (.inl (0, 1000, []))), 245, ([], [], [(226, 0, 0, (0, 2, []))])), (.inr (some (.inl (ck_one (-1)))), 245, ([], [], [(226, 0, 0, ck_one 0)]))])
set_option maxRecDepth 100000 in
theorem p2_s1860_e : ck_ok p2_O none [] [(298, [p2_s447]), (282, [p2_s268, p2_s269, p2_s270, p2_s272]), (350, [p2_s1858]), (353, [p2_s1859]), (351, [p2_s1856])] 349 [] 154 p2_s1860 = true := by decide +kernel
theorem p2_s1860_s {X : Int → Int} {LX : Nat} : ck_Ok p2_O X LX 349 p2_s1860 := ck_ok_s ⟨p2_nmu, ck_E1 (ck_S1 p2_s447_s ck_S0) (ck_E1 (ck_S1 p2_s268_s (ck_S1 p2_s269_s (ck_S1 p2_s270_s (ck_S1 p2_s272_s ck_S0)))) (ck_E1 (ck_S1 p2_s1858_s ck_S0) (ck_E1 (ck_S1 p2_s1859_s ck_S0) (ck_E1 (ck_S1 p2_s1856_s ck_S0) ck_E0))))⟩ ck_X0 ck_l0 p2_s1860_e
set_option maxRecDepth 100000 in
/-- GlacierMailModel.chain -/
def p2_s1890 : ck_Sum := ((5, 0, 0), 245, [.inr (.inr (.inl 226)), .inl (0, 7, []), .inl (0, 7, []), .inl ((-2147483648), 0, [])], ([], [], [(227, 2, 2, (0, 8, [(20, 0)])), (227, 3, 3, (0, 8, [(21, 0)])), (227, 5, 5, (0, 8, [(23, 0)])), (227, 9, 9, (0, 299, [(11, 0)]))]), ([(226, 0, 0), (226, 17, 23), (226, 26, 26), (226, 29, 30), (226, 36, 36), (235, 0, 29699), (236, 0, 299), (237, 0, 299), (240, 0, 2407), (241, 0, 2407), (242, 0, 2407)], []), [(.inr (some (.inl (ck_one 0))), 245, ([], [], [(226, 0, 0, (1, 2, []))])), (.inr (some (.inl ((-1), 7, []))), 245, ([], [], [(226, 0, 0, ck_one 0)]))])
set_option maxRecDepth 100000 in
theorem p2_s1890_e : ck_ok p2_O none [] [(298, [p2_s447]), (282, [p2_s268, p2_s269, p2_s272, p2_s270]), (350, [p2_s1858]), (353, [p2_s1859]), (351, [p2_s1856]), (355, [p2_s1889])] 354 [(108, [some (.inr (.inr (.inl 226))), some (.inl (0, 7, [])), some (.inl (0, 7, [])), some (.inl (ck_one 0)), some (.inl ((-1), 299, [])), some (.inl ((-1), 7, [])), some (.inl (0, 1000, []))], ([], [], [(226, 0, 0, ck_one 0), (227, 2, 2, (0, 8, [(20, 0)])), (227, 3, 3, (0, 8, [(21, 0)])), (227, 5, 5, (0, 8, [(23, 0)])), (227, 9, 9, (0, 299, [(11, 0)]))]), 100, .inl 6, false)] 302 p2_s1890 = true := by decide +kernel
theorem p2_s1890_s {X : Int → Int} {LX : Nat} : ck_Ok p2_O X LX 354 p2_s1890 := ck_ok_s ⟨p2_nmu, ck_E1 (ck_S1 p2_s447_s ck_S0) (ck_E1 (ck_S1 p2_s268_s (ck_S1 p2_s269_s (ck_S1 p2_s272_s (ck_S1 p2_s270_s ck_S0)))) (ck_E1 (ck_S1 p2_s1858_s ck_S0) (ck_E1 (ck_S1 p2_s1859_s ck_S0) (ck_E1 (ck_S1 p2_s1856_s ck_S0) (ck_E1 (ck_S1 p2_s1889_s ck_S0) ck_E0)))))⟩ ck_X0 ck_l0 p2_s1890_e
set_option maxRecDepth 100000 in
/-- GlacierMailModel.chain -/
def p2_s1893 : ck_Sum := ((5, 0, 0), 245, [.inr (.inr (.inl 226)), .inl (0, 7, []), .inl (0, 7, []), .inl (51, 2147483647, [])], ([], [], [(227, 2, 2, (0, 8, [(20, 0)])), (227, 3, 3, (0, 8, [(21, 0)])), (227, 5, 5, (0, 8, [(23, 0)])), (227, 9, 9, (0, 299, [(11, 0)]))]), ([(226, 0, 0), (226, 17, 23), (226, 26, 26), (226, 29, 30), (226, 36, 36), (235, 0, 29699), (236, 0, 299), (237, 0, 299), (240, 0, 2407), (241, 0, 2407), (242, 0, 2407)], []), [(.inr (some (.inl (ck_one 0))), 245, ([], [], [(226, 0, 0, (1, 2, []))])), (.inr (some (.inl ((-1), 7, []))), 245, ([], [], [(226, 0, 0, ck_one 0)]))])
set_option maxRecDepth 100000 in
theorem p2_s1893_e : ck_ok p2_O none [] [(298, [p2_s447]), (282, [p2_s268, p2_s269, p2_s272, p2_s270]), (350, [p2_s1858]), (353, [p2_s1859]), (351, [p2_s1856]), (355, [p2_s1892])] 354 [(108, [some (.inr (.inr (.inl 226))), some (.inl (0, 7, [])), some (.inl (0, 7, [])), some (.inl (51, 1000, [])), some (.inl ((-1), 299, [])), some (.inl ((-1), 7, [])), some (.inl (0, 1000, []))], ([], [], [(226, 0, 0, ck_one 0), (227, 2, 2, (0, 8, [(20, 0)])), (227, 3, 3, (0, 8, [(21, 0)])), (227, 5, 5, (0, 8, [(23, 0)])), (227, 9, 9, (0, 299, [(11, 0)]))]), 100, .inl 6, false)] 302 p2_s1893 = true := by decide +kernel
theorem p2_s1893_s {X : Int → Int} {LX : Nat} : ck_Ok p2_O X LX 354 p2_s1893 := ck_ok_s ⟨p2_nmu, ck_E1 (ck_S1 p2_s447_s ck_S0) (ck_E1 (ck_S1 p2_s268_s (ck_S1 p2_s269_s (ck_S1 p2_s272_s (ck_S1 p2_s270_s ck_S0)))) (ck_E1 (ck_S1 p2_s1858_s ck_S0) (ck_E1 (ck_S1 p2_s1859_s ck_S0) (ck_E1 (ck_S1 p2_s1856_s ck_S0) (ck_E1 (ck_S1 p2_s1892_s ck_S0) ck_E0)))))⟩ ck_X0 ck_l0 p2_s1893_e
set_option maxRecDepth 100000 in
/-- GlacierMailModel.chain -/
def p2_s1897 : ck_Sum := ((5, 0, 0), 245, [.inr (.inr (.inl 226)), .inl (0, 7, []), .inl (0, 7, []), .inl (1, 50, [])], ([], [], [(227, 2, 2, (0, 8, [(20, 0)])), (227, 3, 3, (0, 8, [(21, 0)])), (227, 5, 5, (0, 8, [(23, 0)])), (227, 9, 9, (0, 299, [(11, 0)]))]), ([(226, 0, 0), (226, 17, 23), (226, 26, 26), (226, 29, 30), (226, 36, 36), (235, 0, 29699), (236, 0, 299), (237, 0, 299), (240, 0, 2407), (241, 0, 2407), (242, 0, 2407)], []), [(.inr (some (.inl (ck_one 0))), 245, ([], [], [(226, 0, 0, (1, 2, []))])), (.inr (some (.inl ((-1), 7, []))), 245, ([], [], [(226, 0, 0, ck_one 0)]))])
set_option maxRecDepth 100000 in
theorem p2_s1897_e : ck_ok p2_O none [] [(298, [p2_s447]), (282, [p2_s268, p2_s269, p2_s272, p2_s270]), (350, [p2_s1858]), (353, [p2_s1859]), (351, [p2_s1856]), (355, [p2_s1896])] 354 [(108, [some (.inr (.inr (.inl 226))), some (.inl (0, 7, [])), some (.inl (0, 7, [])), some (.inl (1, 50, [])), some (.inl ((-1), 299, [])), some (.inl ((-1), 7, [])), some (.inl (0, 1000, []))], ([], [], [(226, 0, 0, ck_one 0), (227, 2, 2, (0, 8, [(20, 0)])), (227, 3, 3, (0, 8, [(21, 0)])), (227, 5, 5, (0, 8, [(23, 0)])), (227, 9, 9, (0, 299, [(11, 0)]))]), 100, .inl 6, false)] 302 p2_s1897 = true := by decide +kernel
theorem p2_s1897_s {X : Int → Int} {LX : Nat} : ck_Ok p2_O X LX 354 p2_s1897 := ck_ok_s ⟨p2_nmu, ck_E1 (ck_S1 p2_s447_s ck_S0) (ck_E1 (ck_S1 p2_s268_s (ck_S1 p2_s269_s (ck_S1 p2_s272_s (ck_S1 p2_s270_s ck_S0)))) (ck_E1 (ck_S1 p2_s1858_s ck_S0) (ck_E1 (ck_S1 p2_s1859_s ck_S0) (ck_E1 (ck_S1 p2_s1856_s ck_S0) (ck_E1 (ck_S1 p2_s1896_s ck_S0) ck_E0)))))⟩ ck_X0 ck_l0 p2_s1897_e
set_option maxRecDepth 100000 in
/-- GlacierMailModel.reached -/
def p2_s1929 : ck_Sum := ((5, 0, 0), 245, [.inr (.inr (.inl 226)), .inl (0, 7, []), .inl (0, 299, [])], ([], [], [(227, 2, 2, (0, 8, [(20, 0)])), (227, 3, 3, (0, 8, [(21, 0)])), (227, 5, 5, (0, 8, [(23, 0)])), (227, 9, 9, (0, 299, [(11, 0)]))]), ([(226, 0, 0), (226, 17, 23), (226, 26, 26), (226, 29, 30), (235, 0, 29699), (236, 0, 299), (237, 0, 299), (240, 0, 2407), (241, 0, 2407), (242, 0, 2407)], []), [(.inr (some (.inl (ck_one 0))), 245, ([], [], [(226, 0, 0, ck_one 1)])), (.inr (some (.inl ((-2147483648), 2147483647, []))), 245, ([], [], [(226, 0, 0, ck_one 0)]))])
set_option maxRecDepth 100000 in
theorem p2_s1929_e : ck_ok p2_O none [] [(298, [p2_s447]), (282, [p2_s268, p2_s269, p2_s270]), (285, [p2_s290]), (350, [p2_s1858]), (253, [p2_s214]), (353, [p2_s1859])] 356 [(44, [some (.inr (.inr (.inl 226))), some (.inl (0, 7, [])), some (.inl (0, 299, [])), some (.inl ((-2147483648), 2147483647, [])), some (.inl (0, 8, [])), none], ([], [], [(226, 0, 0, ck_one 0), (227, 2, 2, (0, 8, [(20, 0)])), (227, 3, 3, (0, 8, [(21, 0)])), (227, 5, 5, (0, 8, [(23, 0)])), (227, 9, 9, (0, 299, [(11, 0)]))]), 100, .inl 4, true)] 194 p2_s1929 = true := by decide +kernel
theorem p2_s1929_s {X : Int → Int} {LX : Nat} : ck_Ok p2_O X LX 356 p2_s1929 := ck_ok_s ⟨p2_nmu, ck_E1 (ck_S1 p2_s447_s ck_S0) (ck_E1 (ck_S1 p2_s268_s (ck_S1 p2_s269_s (ck_S1 p2_s270_s ck_S0))) (ck_E1 (ck_S1 p2_s290_s ck_S0) (ck_E1 (ck_S1 p2_s1858_s ck_S0) (ck_E1 (ck_S1 p2_s214_s ck_S0) (ck_E1 (ck_S1 p2_s1859_s ck_S0) ck_E0)))))⟩ ck_X0 ck_l0 p2_s1929_e
set_option maxRecDepth 100000 in
/-- GlacierMailModel.steals -/
def p2_s1976 : ck_Sum := ((6, 0, 0), 245, [.inr (.inr (.inl 226)), .inl (0, 30, [])], ([], [], [(227, 2, 2, (0, 8, [(20, 0)])), (227, 4, 4, (0, 24, [(22, 0)])), (227, 5, 5, (0, 8, [(23, 0)])), (227, 9, 9, (0, 299, [(11, 0)]))]), ([(226, 17, 23), (226, 26, 26), (226, 29, 30), (235, 0, 29699), (236, 0, 299), (237, 0, 299), (238, 0, 23), (243, 0, 5), (244, 0, 5)], []), [(.inr none, 245, ([], [], []))])
set_option maxRecDepth 100000 in
theorem p2_s1976_e : ck_ok p2_O none [] [(332, [p2_s1578]), (266, [p2_s207]), (261, [p2_s184]), (333, [p2_s1973, p2_s1974, p2_s1971, p2_s1963, p2_s1975, p2_s1972])] 358 [(6, [some (.inr (.inr (.inl 226))), some (.inl (0, 30, [])), some (.inl (0, 6, [])), none, none], ([], [], [(227, 2, 2, (0, 8, [(20, 0)])), (227, 4, 4, (0, 24, [(22, 0)])), (227, 5, 5, (0, 8, [(23, 0)])), (227, 9, 9, (0, 299, [(11, 0)]))]), 100, .inl 2, true), (34, [some (.inr (.inr (.inl 226))), some (.inl (0, 30, [])), some (.inl ((-1), 328, [])), none, none], ([], [], [(227, 2, 2, (0, 8, [(20, 0)])), (227, 4, 4, (0, 24, [(22, 0)])), (227, 5, 5, (0, 8, [(23, 0)])), (227, 9, 9, (0, 299, [(11, 0)]))]), 300, .inl 2, false), (44, [some (.inr (.inr (.inl 226))), some (.inl (0, 30, [])), some (.inl (0, 328, [(300, 0)])), some (.inl (0, 6, [])), none], ([], [], [(227, 2, 2, (0, 8, [(20, 0)])), (227, 4, 4, (0, 24, [(22, 0)])), (227, 5, 5, (0, 8, [(23, 0)])), (227, 9, 9, (0, 299, [(11, 0)]))]), 500, .inl 3, true), (152, [some (.inr (.inr (.inl 226))), some (.inl (0, 30, [])), some (.inl (0, 328, [(300, 0)])), some (.inl (0, 6, [])), none], ([], [], [(227, 2, 2, (0, 8, [(20, 0)])), (227, 4, 4, (0, 24, [(22, 0)])), (227, 5, 5, (0, 8, [(23, 0)])), (227, 9, 9, (0, 299, [(11, 0)]))]), 700, .inl 3, true)] 800 p2_s1976 = true := by decide +kernel
theorem p2_s1976_s {X : Int → Int} {LX : Nat} : ck_Ok p2_O X LX 358 p2_s1976 := ck_ok_s ⟨p2_nmu, ck_E1 (ck_S1 p2_s1578_s ck_S0) (ck_E1 (ck_S1 p2_s207_s ck_S0) (ck_E1 (ck_S1 p2_s184_s ck_S0) (ck_E1 (ck_S1 p2_s1973_s (ck_S1 p2_s1974_s (ck_S1 p2_s1971_s (ck_S1 p2_s1963_s (ck_S1 p2_s1975_s (ck_S1 p2_s1972_s ck_S0)))))) ck_E0)))⟩ ck_X0 ck_l0 p2_s1976_e
set_option maxRecDepth 100000 in
/-- GlacierMailModel.thieves -/
def p2_s1977 : ck_Sum := ((7, 0, 0), 245, [.inr (.inr (.inl 226)), .inl (0, 30, []), .inl (0, 1, [])], ([], [], [(227, 2, 2, (0, 8, [(20, 0)])), (227, 4, 4, (0, 24, [(22, 0)])), (227, 5, 5, (0, 8, [(23, 0)])), (227, 9, 9, (0, 299, [(11, 0)]))]), ([(226, 0, 0), (226, 17, 23), (226, 26, 26), (226, 29, 30), (235, 0, 29699), (236, 0, 299), (237, 0, 299), (238, 0, 23), (243, 0, 5), (244, 0, 5)], []), [(.inr (some (.inl (0, 5, []))), 245, ([], [], [(226, 0, 0, (0, 1, []))])), (.inr (some (.inl ((-2147483648), 2147483647, []))), 245, ([], [], [(226, 0, 0, ck_one 0)]))])
set_option maxRecDepth 100000 in
theorem p2_s1977_e : ck_ok p2_O none [] [(286, [p2_s1961]), (282, [p2_s268, p2_s269]), (358, [p2_s1976]), (261, [p2_s184])] 357 [(40, [some (.inr (.inr (.inl 226))), some (.inl (0, 30, [])), some (.inl (0, 1, [])), some (.inl (0, 5, [])), some (.inl (1, 6, []))], ([], [], [(226, 0, 0, ck_one 0), (227, 2, 2, (0, 8, [(20, 0)])), (227, 4, 4, (0, 24, [(22, 0)])), (227, 5, 5, (0, 8, [(23, 0)])), (227, 9, 9, (0, 299, [(11, 0)]))]), 100, .inl 4, true)] 174 p2_s1977 = true := by decide +kernel
theorem p2_s1977_s {X : Int → Int} {LX : Nat} : ck_Ok p2_O X LX 357 p2_s1977 := ck_ok_s ⟨p2_nmu, ck_E1 (ck_S1 p2_s1961_s ck_S0) (ck_E1 (ck_S1 p2_s268_s (ck_S1 p2_s269_s ck_S0)) (ck_E1 (ck_S1 p2_s1976_s ck_S0) (ck_E1 (ck_S1 p2_s184_s ck_S0) ck_E0)))⟩ ck_X0 ck_l0 p2_s1977_e
set_option maxRecDepth 100000 in
/-- GlacierMailModel.watchman -/
def p2_s1995 : ck_Sum := ((6, 0, 0), 245, [.inr (.inr (.inl 226)), .inl (0, 30, []), .inl (0, 1, [])], ([], [], [(227, 2, 2, (0, 8, [(20, 0)])), (227, 4, 4, (0, 24, [(22, 0)])), (227, 5, 5, (0, 8, [(23, 0)])), (227, 9, 9, (0, 299, [(11, 0)]))]), ([(226, 0, 0), (226, 17, 23), (226, 26, 26), (226, 29, 30), (235, 0, 29699), (236, 0, 299), (237, 0, 299), (238, 0, 23), (243, 0, 5)], []), [(.inr (some (.inl (0, 2147483647, []))), 245, ([], [], [(226, 0, 0, (0, 1, []))])), (.inr (some (.inl ((-1), 5, []))), 245, ([], [], [(226, 0, 0, ck_one 0)]))])
set_option maxRecDepth 100000 in
theorem p2_s1995_e : ck_ok p2_O none [] [(286, [p2_s1961]), (282, [p2_s268, p2_s269]), (332, [p2_s1578]), (261, [p2_s184]), (266, [p2_s207]), (333, [p2_s1973])] 359 [(36, [some (.inr (.inr (.inl 226))), some (.inl (0, 30, [])), some (.inl (0, 1, [])), some (.inl (0, 6, [])), none, none, none, none], ([], [], [(226, 0, 0, ck_one 0), (227, 2, 2, (0, 8, [(20, 0)])), (227, 4, 4, (0, 24, [(22, 0)])), (227, 5, 5, (0, 8, [(23, 0)])), (227, 9, 9, (0, 299, [(11, 0)]))]), 100, .inl 3, true), (57, [some (.inr (.inr (.inl 226))), some (.inl (0, 30, [])), some (.inl (0, 1, [])), some (.inl (0, 5, [(100, 0)])), some (.inl (0, 399, [(1000011, 0)])), none, none, none], ([], [], [(226, 0, 0, ck_one 0), (227, 2, 2, (0, 8, [(20, 0)])), (227, 4, 4, (0, 24, [(22, 0)])), (227, 5, 5, (0, 8, [(23, 0)])), (227, 9, 9, (0, 299, [(11, 0)]))]), 300, .inl 4, true), (105, [some (.inr (.inr (.inl 226))), some (.inl (0, 30, [])), some (.inl (0, 1, [])), some (.inl ((-1), 5, [])), some (.inl (0, 2147483647, [])), some (.inl (0, 6, [])), none, none], ([], [], [(226, 0, 0, ck_one 0), (227, 2, 2, (0, 8, [(20, 0)])), (227, 4, 4, (0, 24, [(22, 0)])), (227, 5, 5, (0, 8, [(23, 0)])), (227, 9, 9, (0, 299, [(11, 0)]))]), 500, .inl 5, true), (120, [some (.inr (.inr (.inl 226))), some (.inl (0, 30, [])), some (.inl (0, 1, [])), some (.inl ((-1), 5, [])), some (.inl (0, 2147483647, [])), some (.inl (0, 5, [(500, 0)])), some (.inl (0, 2147483647, [])), some (.inl (0, 6, []))], ([], [], [(226, 0, 0, ck_one 0), (227, 2, 2, (0, 8, [(20, 0)])), (227, 4, 4, (0, 24, [(22, 0)])), (227, 5, 5, (0, 8, [(23, 0)])), (227, 9, 9, (0, 299, [(11, 0)]))]), 700, .inl 7, true)] 360 p2_s1995 = true := by decide +kernel
theorem p2_s1995_s {X : Int → Int} {LX : Nat} : ck_Ok p2_O X LX 359 p2_s1995 := ck_ok_s ⟨p2_nmu, ck_E1 (ck_S1 p2_s1961_s ck_S0) (ck_E1 (ck_S1 p2_s268_s (ck_S1 p2_s269_s ck_S0)) (ck_E1 (ck_S1 p2_s1578_s ck_S0) (ck_E1 (ck_S1 p2_s184_s ck_S0) (ck_E1 (ck_S1 p2_s207_s ck_S0) (ck_E1 (ck_S1 p2_s1973_s ck_S0) ck_E0)))))⟩ ck_X0 ck_l0 p2_s1995_e
set_option maxRecDepth 100000 in
/-- GlacierMailModel.meeting -/
def p2_s2007 : ck_Sum := ((4, 0, 0), 245, [.inr (.inr (.inl 226)), .inl (0, 23, []), .inl (0, 23, [])], ([], [], [(227, 2, 2, (0, 8, [(20, 0)])), (227, 4, 4, (0, 24, [(22, 0)])), (227, 5, 5, (0, 8, [(23, 0)])), (227, 9, 9, (0, 299, [(11, 0)]))]), ([(226, 0, 0), (226, 17, 23), (226, 26, 26), (226, 29, 30), (235, 0, 29699), (236, 0, 299), (237, 0, 299), (239, 0, 299)], []), [(.inr (some (.inl (0, 299, []))), 245, ([], [], [(226, 0, 0, (0, 2, []))])), (.inr (some (.inl (ck_one (-1)))), 245, ([], [], [(226, 0, 0, ck_one 0)]))])
set_option maxRecDepth 100000 in
theorem p2_s2007_e : ck_ok p2_O none [] [(309, [p2_s532]), (282, [p2_s268, p2_s269, p2_s270, p2_s272]), (301, [p2_s457]), (305, [p2_s464]), (335, [p2_s1667]), (266, [p2_s207]), (312, [p2_s538]), (337, [p2_s1670])] 360 [(92, [some (.inr (.inr (.inl 226))), some (.inl (0, 23, [])), some (.inl (0, 23, [])), some (.inl (0, 300, [(1000011, 0)]))], ([], [], [(226, 0, 0, ck_one 0), (227, 2, 2, (0, 8, [(20, 0)])), (227, 4, 4, (0, 24, [(22, 0)])), (227, 5, 5, (0, 8, [(23, 0)])), (227, 9, 9, (0, 299, [(11, 0)]))]), 100, .inl 3, true)] 278 p2_s2007 = true := by decide +kernel
theorem p2_s2007_s {X : Int → Int} {LX : Nat} : ck_Ok p2_O X LX 360 p2_s2007 := ck_ok_s ⟨p2_nmu, ck_E1 (ck_S1 p2_s532_s ck_S0) (ck_E1 (ck_S1 p2_s268_s (ck_S1 p2_s269_s (ck_S1 p2_s270_s (ck_S1 p2_s272_s ck_S0)))) (ck_E1 (ck_S1 p2_s457_s ck_S0) (ck_E1 (ck_S1 p2_s464_s ck_S0) (ck_E1 (ck_S1 p2_s1667_s ck_S0) (ck_E1 (ck_S1 p2_s207_s ck_S0) (ck_E1 (ck_S1 p2_s538_s ck_S0) (ck_E1 (ck_S1 p2_s1670_s ck_S0) ck_E0)))))))⟩ ck_X0 ck_l0 p2_s2007_e
set_option maxRecDepth 100000 in
/-- GlacierMailModel.outs -/
def p2_s2014 : ck_Sum := ((6, 0, 0), 245, [.inr (.inr (.inl 226)), .inl (0, 299, [])], ([], [], [(227, 2, 2, (0, 8, [(20, 0)])), (227, 4, 4, (0, 24, [(22, 0)])), (227, 5, 5, (0, 8, [(23, 0)]))]), ([(226, 0, 0), (226, 17, 23), (226, 26, 26), (226, 29, 30), (235, 0, 29699), (236, 0, 299), (237, 0, 299), (238, 0, 23)], []), [(.inr (some (.inl ((-2147483648), 2147483647, []))), 245, ([], [], [(226, 0, 0, ck_one 0)]))])
set_option maxRecDepth 100000 in
theorem p2_s2014_e : ck_ok p2_O none [] [(285, [p2_s290]), (282, [p2_s269]), (332, [p2_s1578]), (333, [p2_s1605])] 361 [] 104 p2_s2014 = true := by decide +kernel
theorem p2_s2014_s {X : Int → Int} {LX : Nat} : ck_Ok p2_O X LX 361 p2_s2014 := ck_ok_s ⟨p2_nmu, ck_E1 (ck_S1 p2_s290_s ck_S0) (ck_E1 (ck_S1 p2_s269_s ck_S0) (ck_E1 (ck_S1 p2_s1578_s ck_S0) (ck_E1 (ck_S1 p2_s1605_s ck_S0) ck_E0)))⟩ ck_X0 ck_l0 p2_s2014_e
set_option maxRecDepth 100000 in
/-- GlacierMailModel.order -/
def p2_s2030 : ck_Sum := ((6, 0, 0), 245, [.inr (.inr (.inl 226)), .inl ((-2147483648), 2147483647, [])], ([], [], [(227, 2, 2, (0, 8, [(20, 0)])), (227, 4, 4, (0, 24, [(22, 0)])), (227, 5, 5, (0, 8, [(23, 0)]))]), ([(226, 0, 0), (226, 17, 23), (226, 26, 26), (226, 29, 30), (235, 0, 29699), (236, 0, 299), (237, 0, 299), (238, 0, 23)], []), [(.inr (some (.inl (ck_one (-1)))), 245, ([], [], [(226, 0, 0, ck_one 0)])), (.inr (some (.inl (0, 23, []))), 245, ([], [], [(226, 0, 0, ck_one 0), (227, 4, 4, (1, 24, [(22, 0)]))]))])
set_option maxRecDepth 100000 in
theorem p2_s2030_e : ck_ok p2_O none [] [(332, [p2_s1578]), (254, [p2_s196])] 362 [(13, [some (.inr (.inr (.inl 226))), some (.inl ((-2147483648), 2147483647, [])), some (.inl ((-2147483648), 2147483647, [])), some (.inl (0, 300, [])), none], ([], [], [(226, 0, 0, ck_one 0), (227, 2, 2, (0, 8, [(20, 0)])), (227, 4, 4, (0, 24, [(22, 0)])), (227, 5, 5, (0, 8, [(23, 0)]))]), 100, .inl 3, true), (27, [some (.inr (.inr (.inl 226))), some (.inl (0, 2147483647, [])), some (.inl ((-2147483648), 2147483647, [])), some (.inl (0, 299, [(100, 0)])), some (.inl (0, 24, []))], ([], [], [(226, 0, 0, ck_one 0), (227, 2, 2, (0, 8, [(20, 0)])), (227, 4, 4, (0, 24, [(22, 0)])), (227, 5, 5, (0, 8, [(23, 0)]))]), 300, .inl 4, true)] 206 p2_s2030 = true := by decide +kernel
theorem p2_s2030_s {X : Int → Int} {LX : Nat} : ck_Ok p2_O X LX 362 p2_s2030 := ck_ok_s ⟨p2_nmu, ck_E1 (ck_S1 p2_s1578_s ck_S0) (ck_E1 (ck_S1 p2_s196_s ck_S0) ck_E0)⟩ ck_X0 ck_l0 p2_s2030_e
set_option maxRecDepth 100000 in
/-- GlacierMailModel.streams -/
def p2_s2036 : ck_Sum := ((6, 0, 0), 245, [.inr (.inr (.inl 226)), .inl (0, 299, []), .inl (0, 1, [])], ([], [], [(227, 2, 2, (0, 8, [(20, 0)])), (227, 4, 4, (0, 24, [(22, 0)])), (227, 5, 5, (0, 8, [(23, 0)]))]), ([(226, 0, 0), (226, 17, 23), (226, 26, 26), (226, 29, 30), (235, 0, 29699), (236, 0, 299), (237, 0, 299), (238, 0, 23)], []), [(.inr (some (.inl ((-2147483648), 2147483647, []))), 245, ([], [], [(226, 0, 0, ck_one 0)]))])
set_option maxRecDepth 100000 in
theorem p2_s2036_e : ck_ok p2_O none [] [(285, [p2_s290]), (282, [p2_s269]), (332, [p2_s1578]), (254, [p2_s196]), (301, [p2_s457])] 363 [(28, [some (.inr (.inr (.inl 226))), some (.inl (0, 299, [])), some (.inl (0, 1, [])), some (.inl ((-2147483648), 2147483647, [])), some (.inl (0, 24, []))], ([], [], [(226, 0, 0, ck_one 0), (227, 2, 2, (0, 8, [(20, 0)])), (227, 4, 4, (0, 24, [(22, 0)])), (227, 5, 5, (0, 8, [(23, 0)]))]), 100, .inl 4, true)] 234 p2_s2036 = true := by decide +kernel
theorem p2_s2036_s {X : Int → Int} {LX : Nat} : ck_Ok p2_O X LX 363 p2_s2036 := ck_ok_s ⟨p2_nmu, ck_E1 (ck_S1 p2_s290_s ck_S0) (ck_E1 (ck_S1 p2_s269_s ck_S0) (ck_E1 (ck_S1 p2_s1578_s ck_S0) (ck_E1 (ck_S1 p2_s196_s ck_S0) (ck_E1 (ck_S1 p2_s457_s ck_S0) ck_E0))))⟩ ck_X0 ck_l0 p2_s2036_e
set_option maxRecDepth 100000 in
/-- GlacierMailModel.range -/
def p2_s2046 : ck_Sum := ((4, 0, 0), 245, [.inr (.inr (.inl 226)), .inl (0, 5, []), .inl (0, 299, [])], ([], [], [(227, 2, 2, (0, 8, [(20, 0)])), (227, 5, 5, (0, 8, [(23, 0)]))]), ([(226, 0, 0), (226, 17, 23), (226, 26, 26), (226, 29, 30), (235, 0, 29699), (236, 0, 299), (237, 0, 299)], []), [(.inr (some (.inl (ck_one 0))), 245, ([], [], [(226, 0, 0, ck_one 1)])), (.inr (some (.inl ((-299), 299, []))), 245, ([], [], [(226, 0, 0, ck_one 0)]))])
set_option maxRecDepth 100000 in
theorem p2_s2046_e : ck_ok p2_O none [] [(288, [p2_s317]), (282, [p2_s268, p2_s269, p2_s270]), (285, [p2_s290]), (325, [p2_s1531])] 364 [] 126 p2_s2046 = true := by decide +kernel
theorem p2_s2046_s {X : Int → Int} {LX : Nat} : ck_Ok p2_O X LX 364 p2_s2046 := ck_ok_s ⟨p2_nmu, ck_E1 (ck_S1 p2_s317_s ck_S0) (ck_E1 (ck_S1 p2_s268_s (ck_S1 p2_s269_s (ck_S1 p2_s270_s ck_S0))) (ck_E1 (ck_S1 p2_s290_s ck_S0) (ck_E1 (ck_S1 p2_s1531_s ck_S0) ck_E0)))⟩ ck_X0 ck_l0 p2_s2046_e
set_option maxRecDepth 100000 in
/-- GlacierMailModel.swiftest -/
def p2_s2056 : ck_Sum := ((4, 0, 0), 245, [.inr (.inr (.inl 226)), .inl (0, 98, []), .inl (0, 299, [])], ([], [], [(227, 2, 2, (0, 8, [(20, 0)])), (227, 5, 5, (0, 8, [(23, 0)]))]), ([(226, 0, 0), (226, 17, 23), (226, 26, 26), (226, 29, 30), (235, 0, 29699), (236, 0, 299), (237, 0, 299)], []), [(.inr (some (.inl (ck_one 0))), 245, ([], [], [(226, 0, 0, ck_one 1)])), (.inr (some (.inl ((-1), 5, []))), 245, ([], [], [(226, 0, 0, ck_one 0)]))])
set_option maxRecDepth 100000 in
theorem p2_s2056_e : ck_ok p2_O none [] [(289, [p2_s325]), (282, [p2_s268, p2_s269, p2_s270]), (285, [p2_s290]), (261, [p2_s184]), (325, [p2_s1531])] 365 [(42, [some (.inr (.inr (.inl 226))), some (.inl (0, 98, [])), some (.inl (0, 299, [])), some (.inl ((-1), 5, [])), some (.inl (0, 1000, [])), some (.inl (0, 6, [])), none], ([], [], [(226, 0, 0, ck_one 0), (227, 2, 2, (0, 8, [(20, 0)])), (227, 5, 5, (0, 8, [(23, 0)]))]), 100, .inl 5, true)] 182 p2_s2056 = true := by decide +kernel
theorem p2_s2056_s {X : Int → Int} {LX : Nat} : ck_Ok p2_O X LX 365 p2_s2056 := ck_ok_s ⟨p2_nmu, ck_E1 (ck_S1 p2_s325_s ck_S0) (ck_E1 (ck_S1 p2_s268_s (ck_S1 p2_s269_s (ck_S1 p2_s270_s ck_S0))) (ck_E1 (ck_S1 p2_s290_s ck_S0) (ck_E1 (ck_S1 p2_s184_s ck_S0) (ck_E1 (ck_S1 p2_s1531_s ck_S0) ck_E0))))⟩ ck_X0 ck_l0 p2_s2056_e
set_option maxRecDepth 100000 in
/-- GlacierMailModel.bare -/
def p2_s2062 : ck_Sum := ((4, 0, 0), 245, [.inr (.inr (.inl 226)), .inl (0, 299, [])], ([], [], [(227, 2, 2, (0, 8, [(20, 0)])), (227, 4, 4, (0, 24, [(22, 0)])), (227, 5, 5, (0, 8, [(23, 0)]))]), ([(226, 0, 0), (226, 17, 23), (226, 26, 26), (226, 29, 30), (235, 0, 29699), (236, 0, 299), (237, 0, 299)], []), [(.inr (some (.inl ((-2147483648), 2147483647, []))), 245, ([], [], [(226, 0, 0, ck_one 0)]))])
set_option maxRecDepth 100000 in
theorem p2_s2062_e : ck_ok p2_O none [] [(285, [p2_s290]), (282, [p2_s269]), (254, [p2_s196]), (305, [p2_s464]), (311, [p2_s539])] 366 [(23, [some (.inr (.inr (.inl 226))), some (.inl (0, 299, [])), some (.inl ((-2147483648), 2147483647, [])), some (.inl (0, 24, []))], ([], [], [(226, 0, 0, ck_one 0), (227, 2, 2, (0, 8, [(20, 0)])), (227, 4, 4, (0, 24, [(22, 0)])), (227, 5, 5, (0, 8, [(23, 0)]))]), 100, .inl 3, true)] 182 p2_s2062 = true := by decide +kernel
theorem p2_s2062_s {X : Int → Int} {LX : Nat} : ck_Ok p2_O X LX 366 p2_s2062 := ck_ok_s ⟨p2_nmu, ck_E1 (ck_S1 p2_s290_s ck_S0) (ck_E1 (ck_S1 p2_s269_s ck_S0) (ck_E1 (ck_S1 p2_s196_s ck_S0) (ck_E1 (ck_S1 p2_s464_s ck_S0) (ck_E1 (ck_S1 p2_s539_s ck_S0) ck_E0))))⟩ ck_X0 ck_l0 p2_s2062_e
set_option maxRecDepth 100000 in
/-- GlacierMailModel.count -/
def p2_s2196 : ck_Sum := ((6, 0, 0), 245, [.inr (.inr (.inl 226)), .inl (10, 2147483647, [])], ([], [], [(227, 2, 2, (0, 8, [(20, 0)])), (227, 4, 4, (0, 24, [(22, 0)])), (227, 5, 5, (0, 8, [(23, 0)])), (227, 14, 14, (0, 24, [(26, 0)])), (226, 6, 6, (0, 12, [(27, 0)])), (227, 9, 9, (0, 299, [(11, 0)]))]), ([(226, 0, 0), (226, 17, 23), (226, 26, 26), (226, 29, 30), (235, 0, 29699), (236, 0, 299), (237, 0, 299)], []), [(.inr (some (.inl ((-2147483648), 2147483647, []))), 245, ([], [], [(226, 0, 0, ck_one 0)])), (.inr (some (.inl (0, 9999, []))), 245, ([], [], [(226, 0, 0, ck_one 0)]))])
set_option maxRecDepth 100000 in
theorem p2_s2196_e : ck_ok p2_O none [] [(286, [p2_s2191, p2_s2192, p2_s2193, p2_s2194, p2_s2195]), (254, [p2_s196]), (304, [p2_s465]), (266, [p2_s207]), (302, [p2_s469])] 368 [(132, [some (.inr (.inr (.inl 226))), some (.inl (ck_one 16)), some (.inl ((-2147483648), 2147483647, [])), some (.inl (0, 24, [])), none], ([], [], [(226, 0, 0, ck_one 0), (227, 2, 2, (0, 8, [(20, 0)])), (227, 4, 4, (0, 24, [(22, 0)])), (227, 5, 5, (0, 8, [(23, 0)])), (227, 14, 14, (0, 24, [(26, 0)])), (226, 6, 6, (0, 12, [(27, 0)])), (227, 9, 9, (0, 299, [(11, 0)]))]), 100, .inl 3, true), (98, [some (.inr (.inr (.inl 226))), some (.inl (ck_one 15)), some (.inl ((-2147483648), 2147483647, [])), some (.inl (0, 24, [])), none], ([], [], [(226, 0, 0, ck_one 0), (227, 2, 2, (0, 8, [(20, 0)])), (227, 4, 4, (0, 24, [(22, 0)])), (227, 5, 5, (0, 8, [(23, 0)])), (227, 14, 14, (0, 24, [(26, 0)])), (226, 6, 6, (0, 12, [(27, 0)])), (227, 9, 9, (0, 299, [(11, 0)]))]), 300, .inl 3, true)] 242 p2_s2196 = true := by decide +kernel
theorem p2_s2196_s {X : Int → Int} {LX : Nat} : ck_Ok p2_O X LX 368 p2_s2196 := ck_ok_s ⟨p2_nmu, ck_E1 (ck_S1 p2_s2191_s (ck_S1 p2_s2192_s (ck_S1 p2_s2193_s (ck_S1 p2_s2194_s (ck_S1 p2_s2195_s ck_S0))))) (ck_E1 (ck_S1 p2_s196_s ck_S0) (ck_E1 (ck_S1 p2_s465_s ck_S0) (ck_E1 (ck_S1 p2_s207_s ck_S0) (ck_E1 (ck_S1 p2_s469_s ck_S0) ck_E0))))⟩ ck_X0 ck_l0 p2_s2196_e
