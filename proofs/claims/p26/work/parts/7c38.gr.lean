/-! 7c38.gr -/
section
/-! ROWS THAT KEEP SOMETHING, again under qR_O (laid by wip/rel/gh2.py). -/
section GHR
variable {X : Int → Int} {LX : Nat}
def Q293p6 : ck_Sum := ((0, 0, 0), 245, [.inr (.inr (.inl 226)), .inl (6, 6, [])], ([], [], []), ([(226, 26, 26), (235, 0, 29699)], []), [(.inr none, 245, ([], [], [(226, 26, 26, (6, 6, []))]))])
set_option maxRecDepth 100000 in
theorem Q293p6_e : ck_ok p2_O none [] [] 293 [(16, [some (.inr (.inr (.inl 226))), some (.inl (6, 6, [])), some (.inl (0, 29700, []))], ([], [], [(226, 26, 26, (6, 6, []))]), 100, .inl 2, true)] 142 Q293p6 = true := by decide +kernel
theorem Q293p6_s : ck_Ok p2_O X LX 293 Q293p6 := ck_ok_s ⟨p2_nmu, ck_E0⟩ ck_X0 ck_l0 Q293p6_e
def Q292p6 : ck_Sum := ((4, 0, 0), 245, [.inr (.inr (.inl 226)), .inl (6, 6, []), .inl (0, 98, []), .inl (0, 299, [])], ([], [], [(227, 2, 2, (0, 8, [(20, 0)]))]), ([(226, 17, 23), (226, 26, 26), (233, 0, 399), (235, 0, 29699)], []), [(.inr (some (.inl (0, 30, []))), 245, ([], [], [(226, 26, 26, (6, 6, []))]))])
def Q292p6_E : List (Nat × List ck_Sum) := [(293, [Q293p6]), (290, [p2_s299]), (294, [sl_S])]
def Q292p6_L : ck_AL := [some (.inr (.inr (.inl 226))), some (.inl (6, 6, [])), some (.inl (0, 98, [])), some (.inl (0, 299, [])), some (.inl (0, 29699, [])), none]
set_option maxRecDepth 100000 in
def Q292p6_F : ck_F := ([], [], [(226, 26, 26, (6, 6, [])), (227, 2, 2, (0, 8, [(20, 0)]))])
def Q292p6_C : ck_C := (Q292p6_L, Q292p6_F, 0, .inl 4, true)
set_option maxRecDepth 100000 in
theorem Q292p6_a : (decide (Q292p6.2.2.1.length ≤ gm_ml 292) && ck_go p2_O none [] Q292p6_E 292 Q292p6.1.1 Q292p6.2.1 Q292p6.2.2.2.2.1 Q292p6.2.2.2.2.2 [(14, Q292p6_C)] 900 false [(14, Q292p6_C, 0, 0, 245)] Q292p6.1.2.1 Q292p6.1.2.2 0 (Q292p6.2.2.1.map some ++ List.replicate (gm_ml 292 - Q292p6.2.2.1.length) none) [] Q292p6.2.1 Q292p6.2.2.2.1) = true := by decide +kernel
set_option maxRecDepth 100000 in
theorem Q292p6_b : ck_go p2_O none [] Q292p6_E 292 Q292p6.1.1 Q292p6.2.1 Q292p6.2.2.2.2.1 Q292p6.2.2.2.2.2 [] 900 true [] 0 0 34 Q292p6_L [] 245 Q292p6_F = true := by decide +kernel
set_option maxRecDepth 100000 in
theorem Q292p6_f : gm_tyr p2_O 235 0 29699 = some (0, 31) := by decide +kernel
set_option maxRecDepth 100000 in
theorem Q292p6_g : ck_leF p2_O Q292p6_F (([], [], [(226, 26, 26, (6, 6, []))])) = true := by decide +kernel
theorem Q292p6_h : ck_nmu p2_O ∧ ck_OkE p2_O X LX Q292p6_E := ⟨p2_nmu, ck_E1 (ck_S1 Q293p6_s ck_S0) (ck_E1 (ck_S1 p2_s299_s ck_S0) (ck_E1 (ck_S1 sl_S_s ck_S0) ck_E0))⟩
theorem Q292p6_s : ck_Ok p2_O X LX 292 Q292p6 := by
  refine ck_ok_st (cuts := [(14, Q292p6_C)]) (by decide) Q292p6_h Q292p6_a (fun h hm => ?_)
  rw [List.mem_singleton.mp hm]
  refine ⟨List.mem_singleton.mpr rfl, fun σ K0 R0 M0 v _ bc bs L K R M hb1 hb2 hS _ => ?_⟩
  obtain ⟨hF, hl, hs, hf, hfr⟩ := hS
  obtain ⟨u0, e0, g0⟩ := hl.2 0 (.inr (.inr (.inl 226))) rfl
  cases g0
  obtain ⟨u4, e4, t, rfl, ht1, ht2, ht3, -⟩ := hl.2 4 (.inl (0, 29699, [])) rfl
  have ht2 : (0 : Int) ≤ t := ht2
  have ht3 : t ≤ (29699 : Int) := ht3
  obtain ⟨-, hM1, hM2⟩ := (gm_tyr_s hF Q292p6_f).2 t (by omega) (by omega)
  have hM1 : (0 : Int) ≤ M 235 t := hM1
  have hM2 : M 235 t ≤ (31 : Int) := hM2
  refine ck_flow (O := p2_O) hF (k := 226) (fl := 235) (by decide +kernel) (by decide +kernel) (by decide +kernel) e0 e4 ⟨by omega, by omega⟩ ⟨by omega, by omega⟩ (fun hp => ?_) ?_
  · exact ⟨hF, hfr, _, List.mem_cons_self, ⟨_, rfl, ⟨by omega, by omega⟩, by show (0 : Int) ≤ M 235 t - 1; omega, by show M 235 t - 1 ≤ (30 : Int); omega, fun _ h => nomatch h⟩, rfl, ck_leF_s hF hf Q292p6_g⟩
  · exact gm_Wp_wk (Nat.le_refl _) hb1 hb2 (ck_go_s (σ0 := σ) (cuts := []) (by decide) Q292p6_h ck_X0 ck_l0 900 true [] _ _ 34 _ [] _ _ σ L [] K R M (fun _ _ => rfl) (fun _ h => nomatch h) ⟨hF, hl, rfl, hf, hfr⟩ Q292p6_b)
theorem Q292 : ck_Ok qR_O X LX 292 q292 := q292_s p2_s318_s Q292p6_s
theorem qRl_p2_s290 : ck_Ok qR_O X LX 288 p2_s290 := qR_l p2_s290_s (by decide +kernel)
theorem qRl_p2_s241 : ck_Ok qR_O X LX 282 p2_s241 := qR_l p2_s241_s (by decide +kernel)
theorem qRl_p2_s242 : ck_Ok qR_O X LX 282 p2_s242 := qR_l p2_s242_s (by decide +kernel)
theorem qRl_p2_s243 : ck_Ok qR_O X LX 282 p2_s243 := qR_l p2_s243_s (by decide +kernel)
theorem qRl_p2_s298 : ck_Ok qR_O X LX 289 p2_s298 := qR_l p2_s298_s (by decide +kernel)
theorem qRl_p2_s263 : ck_Ok qR_O X LX 285 p2_s263 := qR_l p2_s263_s (by decide +kernel)
def q_p2_s319 : ck_Sum := ((21, 0, 0), 245, [.inr (.inr (.inl 226)), .inl (0, 5, []), .inl (0, 98, []), .inl (0, 299, [])], ([], [], [(227, 2, 2, (0, 8, [(20, 0)]))]), ([(226, 0, 0), (226, 17, 23), (226, 26, 26), (233, 0, 399), (235, 0, 29699)], []), [(.inr (some (.inl (0, 30, []))), 245, ([], [], [(226, 0, 0, (0, 1, []))]))])
set_option maxRecDepth 100000 in
theorem q_p2_s319_e : ck_ok qR_O none [] [(288, [p2_s290]), (282, [p2_s241, p2_s242, p2_s243]), (289, [p2_s298]), (285, [p2_s263]), (292, [q292])] 291 [] 126 q_p2_s319 = true := by decide +kernel
theorem q_p2_s319_s : ck_Ok qR_O X LX 291 q_p2_s319 := ck_ok_s ⟨qR_nmu, (ck_E1 (ck_S1 qRl_p2_s290 ck_S0) (ck_E1 (ck_S1 qRl_p2_s241 (ck_S1 qRl_p2_s242 (ck_S1 qRl_p2_s243 ck_S0))) (ck_E1 (ck_S1 qRl_p2_s298 ck_S0) (ck_E1 (ck_S1 qRl_p2_s263 ck_S0) (ck_E1 (ck_S1 Q292 ck_S0) ck_E0)))))⟩ ck_X0 ck_l0 q_p2_s319_e
theorem qRl_p2_s180 : ck_Ok qR_O X LX 259 p2_s180 := qR_l p2_s180_s (by decide +kernel)
theorem qRl_p2_s378 : ck_Ok qR_O X LX 307 p2_s378 := qR_l p2_s378_s (by decide +kernel)
def q_p2_s379 : ck_Sum := ((21, 0, 0), 245, [.inr (.inr (.inl 226)), .inl (0, 6, []), .inl (0, 98, []), .inl (0, 299, []), .inl (0, 1, []), .inl ((-1), 7, [])], ([], [], [(227, 2, 2, (0, 8, [(20, 0)])), (227, 5, 5, (0, 8, [(23, 0)]))]), ([(226, 17, 23), (226, 26, 26), (226, 29, 30), (233, 0, 399), (235, 0, 29699), (236, 0, 299), (237, 0, 299)], []), [(.inr none, 245, ([], [], []))])
set_option maxRecDepth 100000 in
theorem q_p2_s379_e : ck_ok qR_O none [] [(259, [p2_s180]), (292, [q292]), (307, [p2_s378])] 306 [(3, [some (.inr (.inr (.inl 226))), some (.inl (0, 6, [])), some (.inl (0, 98, [])), some (.inl (0, 299, [])), some (.inl (0, 1, [])), some (.inl ((-1), 7, [])), some (.inl (0, 299, [])), none, none], ([], [], [(227, 2, 2, (0, 8, [(20, 0)])), (227, 5, 5, (0, 8, [(23, 0)]))]), 100, .inl 6, true), (50, [some (.inr (.inr (.inl 226))), some (.inl (0, 6, [])), some (.inl (0, 98, [])), some (.inl (0, 299, [])), some (.inl (0, 1, [])), some (.inl ((-1), 7, [])), some (.inl (0, 288, [])), some (.inl (0, 99, [])), some (.inl (0, 300, []))], ([], [], [(226, 29, 29, ((-1), 299, [])), (227, 2, 2, (0, 8, [(20, 0)])), (227, 5, 5, (0, 8, [(23, 0)]))]), 300, .inl 8, true)] 506 q_p2_s379 = true := by decide +kernel
theorem q_p2_s379_s : ck_Ok qR_O X LX 306 q_p2_s379 := ck_ok_s ⟨qR_nmu, (ck_E1 (ck_S1 qRl_p2_s180 ck_S0) (ck_E1 (ck_S1 Q292 ck_S0) (ck_E1 (ck_S1 qRl_p2_s378 ck_S0) ck_E0)))⟩ ck_X0 ck_l0 q_p2_s379_e
theorem qRl_p2_s375 : ck_Ok qR_O X LX 301 p2_s375 := qR_l p2_s375_s (by decide +kernel)
theorem qRl_p2_s376 : ck_Ok qR_O X LX 301 p2_s376 := qR_l p2_s376_s (by decide +kernel)
theorem qRl_p2_s377 : ck_Ok qR_O X LX 301 p2_s377 := qR_l p2_s377_s (by decide +kernel)
theorem qRl_p2_s374 : ck_Ok qR_O X LX 303 p2_s374 := qR_l p2_s374_s (by decide +kernel)
def q_p2_s380 : ck_Sum := ((22, 0, 0), 245, [.inr (.inr (.inl 226)), .inl (0, 23, []), .inl ((-1), 7, [])], ([], [], [(227, 2, 2, (0, 8, [(20, 0)])), (227, 5, 5, (0, 8, [(23, 0)]))]), ([(226, 17, 23), (226, 26, 26), (226, 29, 30), (233, 0, 399), (235, 0, 29699), (236, 0, 299), (237, 0, 299)], []), [(.inr none, 245, ([], [], []))])
set_option maxRecDepth 100000 in
theorem q_p2_s380_e : ck_ok qR_O none [] [(301, [p2_s375, p2_s376, p2_s377]), (303, [p2_s374]), (306, [q_p2_s379])] 305 [] 108 q_p2_s380 = true := by decide +kernel
theorem q_p2_s380_s : ck_Ok qR_O X LX 305 q_p2_s380 := ck_ok_s ⟨qR_nmu, (ck_E1 (ck_S1 qRl_p2_s375 (ck_S1 qRl_p2_s376 (ck_S1 qRl_p2_s377 ck_S0))) (ck_E1 (ck_S1 qRl_p2_s374 ck_S0) (ck_E1 (ck_S1 q_p2_s379_s ck_S0) ck_E0)))⟩ ck_X0 ck_l0 q_p2_s380_e
def q_p2_s381 : ck_Sum := ((23, 0, 0), 245, [.inr (.inr (.inl 226)), .inl (0, 23, [])], ([], [], [(227, 2, 2, (0, 8, [(20, 0)])), (227, 5, 5, (0, 8, [(23, 0)]))]), ([(226, 17, 23), (226, 26, 26), (226, 29, 30), (233, 0, 399), (235, 0, 29699), (236, 0, 299), (237, 0, 299)], []), [(.inr (some (.inl (ck_one (-1)))), 245, ([], [], [(226, 29, 29, ck_one (-1))])), (.inr (some (.inl (0, 299, []))), 245, ([], [], [(226, 29, 29, (0, 299, []))]))])
set_option maxRecDepth 100000 in
theorem q_p2_s381_e : ck_ok qR_O none [] [(305, [q_p2_s380])] 304 [] 84 q_p2_s381 = true := by decide +kernel
theorem q_p2_s381_s : ck_Ok qR_O X LX 304 q_p2_s381 := ck_ok_s ⟨qR_nmu, (ck_E1 (ck_S1 q_p2_s380_s ck_S0) ck_E0)⟩ ck_X0 ck_l0 q_p2_s381_e
theorem qRl_p2_s372 : ck_Ok qR_O X LX 301 p2_s372 := qR_l p2_s372_s (by decide +kernel)
theorem qRl_p2_s190 : ck_Ok qR_O X LX 266 p2_s190 := qR_l p2_s190_s (by decide +kernel)
def q_p2_s382 : ck_Sum := ((24, 0, 0), 245, [.inr (.inr (.inl 226)), .inl (0, 23, [])], ([], [], [(227, 2, 2, (0, 8, [(20, 0)])), (227, 5, 5, (0, 8, [(23, 0)])), (227, 9, 9, (0, 299, [(11, 0)]))]), ([(226, 17, 23), (226, 26, 26), (226, 29, 30), (233, 0, 399), (235, 0, 29699), (236, 0, 299), (237, 0, 299)], []), [(.inr (some (.inl (ck_one 0))), 245, ([], [], [])), (.inr (some (.inl (ck_one 1))), 245, ([], [], [(226, 29, 29, (0, 299, []))]))])
set_option maxRecDepth 100000 in
theorem q_p2_s382_e : ck_ok qR_O none [] [(303, [p2_s374]), (301, [p2_s372]), (304, [q_p2_s381]), (266, [p2_s190])] 302 [] 114 q_p2_s382 = true := by decide +kernel
theorem q_p2_s382_s : ck_Ok qR_O X LX 302 q_p2_s382 := ck_ok_s ⟨qR_nmu, (ck_E1 (ck_S1 qRl_p2_s374 ck_S0) (ck_E1 (ck_S1 qRl_p2_s372 ck_S0) (ck_E1 (ck_S1 q_p2_s381_s ck_S0) (ck_E1 (ck_S1 qRl_p2_s190 ck_S0) ck_E0))))⟩ ck_X0 ck_l0 q_p2_s382_e
theorem qRl_p2_s176 : ck_Ok qR_O X LX 254 p2_s176 := qR_l p2_s176_s (by decide +kernel)
theorem qRl_p2_s371 : ck_Ok qR_O X LX 301 p2_s371 := qR_l p2_s371_s (by decide +kernel)
theorem qRl_p2_s373 : ck_Ok qR_O X LX 301 p2_s373 := qR_l p2_s373_s (by decide +kernel)
def q_p2_s383 : ck_Sum := ((25, 0, 0), 245, [.inr (.inr (.inl 226)), .inl (0, 7, []), .inl (3, 9, [])], ([], [], [(227, 2, 2, (0, 8, [(20, 0)])), (227, 4, 4, (0, 24, [(22, 0)])), (227, 5, 5, (0, 8, [(23, 0)])), (227, 9, 9, (0, 299, [(11, 0)]))]), ([(226, 17, 23), (226, 26, 26), (226, 29, 30), (233, 0, 399), (235, 0, 29699), (236, 0, 299), (237, 0, 299)], []), [(.inr (some (.inl ((-2147483648), 2147483647, []))), 245, ([], [], []))])
set_option maxRecDepth 100000 in
theorem q_p2_s383_e : ck_ok qR_O none [] [(254, [p2_s176]), (301, [p2_s371, p2_s372, p2_s373]), (302, [q_p2_s382])] 300 [(5, [some (.inr (.inr (.inl 226))), some (.inl (0, 7, [])), some (.inl (3, 9, [])), some (.inl ((-2147483648), 2147483647, [])), some (.inl (0, 24, [])), none], ([], [], [(227, 2, 2, (0, 8, [(20, 0)])), (227, 4, 4, (0, 24, [(22, 0)])), (227, 5, 5, (0, 8, [(23, 0)])), (227, 9, 9, (0, 299, [(11, 0)]))]), 100, .inl 4, true)] 222 q_p2_s383 = true := by decide +kernel
theorem q_p2_s383_s : ck_Ok qR_O X LX 300 q_p2_s383 := ck_ok_s ⟨qR_nmu, (ck_E1 (ck_S1 qRl_p2_s176 ck_S0) (ck_E1 (ck_S1 qRl_p2_s371 (ck_S1 qRl_p2_s372 (ck_S1 qRl_p2_s373 ck_S0))) (ck_E1 (ck_S1 q_p2_s382_s ck_S0) ck_E0)))⟩ ck_X0 ck_l0 q_p2_s383_e
theorem qRl_p2_s365 : ck_Ok qR_O X LX 298 p2_s365 := qR_l p2_s365_s (by decide +kernel)
theorem qRl_p2_s244 : ck_Ok qR_O X LX 282 p2_s244 := qR_l p2_s244_s (by decide +kernel)
theorem qRl_p2_s370 : ck_Ok qR_O X LX 286 p2_s370 := qR_l p2_s370_s (by decide +kernel)
theorem qRl_p2_s384 : ck_Ok qR_O X LX 299 p2_s384 := qR_l p2_s384_s (by decide +kernel)
def q_p2_s385 : ck_Sum := ((26, 0, 0), 245, [.inr (.inr (.inl 226)), .inl (0, 7, []), .inl (0, 9, [])], ([], [], [(227, 2, 2, (0, 8, [(20, 0)])), (227, 3, 3, (0, 8, [(21, 0)])), (227, 4, 4, (0, 24, [(22, 0)])), (227, 5, 5, (0, 8, [(23, 0)])), (227, 9, 9, (0, 299, [(11, 0)]))]), ([(226, 0, 0), (226, 17, 23), (226, 26, 26), (226, 29, 30), (233, 0, 399), (235, 0, 29699), (236, 0, 299), (237, 0, 299)], []), [(.inr (some (.inl (ck_one 0))), 245, ([], [], [(226, 0, 0, (1, 2, []))])), (.inr (some (.inl ((-2147483648), 2147483647, []))), 245, ([], [], [(226, 0, 0, ck_one 0)]))])
set_option maxRecDepth 100000 in
theorem q_p2_s385_e : ck_ok qR_O none [] [(298, [p2_s365]), (282, [p2_s241, p2_s242, p2_s244, p2_s243]), (286, [p2_s370]), (300, [q_p2_s383]), (299, [p2_s384])] 297 [] 128 q_p2_s385 = true := by decide +kernel
theorem q_p2_s385_s : ck_Ok qR_O X LX 297 q_p2_s385 := ck_ok_s ⟨qR_nmu, (ck_E1 (ck_S1 qRl_p2_s365 ck_S0) (ck_E1 (ck_S1 qRl_p2_s241 (ck_S1 qRl_p2_s242 (ck_S1 qRl_p2_s244 (ck_S1 qRl_p2_s243 ck_S0)))) (ck_E1 (ck_S1 qRl_p2_s370 ck_S0) (ck_E1 (ck_S1 q_p2_s383_s ck_S0) (ck_E1 (ck_S1 qRl_p2_s384 ck_S0) ck_E0)))))⟩ ck_X0 ck_l0 q_p2_s385_e
theorem qRl_p2_s406 : ck_Ok qR_O X LX 309 p2_s406 := qR_l p2_s406_s (by decide +kernel)
theorem qRl_p2_s411 : ck_Ok qR_O X LX 286 p2_s411 := qR_l p2_s411_s (by decide +kernel)
theorem qRl_p2_s414 : ck_Ok qR_O X LX 310 p2_s414 := qR_l p2_s414_s (by decide +kernel)
theorem qRl_p2_s415 : ck_Ok qR_O X LX 301 p2_s415 := qR_l p2_s415_s (by decide +kernel)
def q_p2_s416 : ck_Sum := ((24, 0, 0), 245, [.inr (.inr (.inl 226)), .inl (0, 23, []), .inl (0, 9, [])], ([], [], [(227, 2, 2, (0, 8, [(20, 0)])), (227, 4, 4, (0, 24, [(22, 0)])), (227, 5, 5, (0, 8, [(23, 0)]))]), ([(226, 0, 0), (226, 17, 23), (226, 26, 26), (226, 29, 30), (233, 0, 399), (235, 0, 29699), (236, 0, 299), (237, 0, 299)], []), [(.inr (some (.inl (0, 299, []))), 245, ([], [], [(226, 0, 0, (0, 1, []))])), (.inr (some (.inl ((-1), 299, []))), 245, ([], [], [(226, 0, 0, ck_one 0)]))])
set_option maxRecDepth 100000 in
theorem q_p2_s416_e : ck_ok qR_O none [] [(309, [p2_s406]), (282, [p2_s241, p2_s242, p2_s243]), (286, [p2_s411]), (304, [q_p2_s381]), (310, [p2_s414]), (301, [p2_s415])] 308 [] 152 q_p2_s416 = true := by decide +kernel
theorem q_p2_s416_s : ck_Ok qR_O X LX 308 q_p2_s416 := ck_ok_s ⟨qR_nmu, (ck_E1 (ck_S1 qRl_p2_s406 ck_S0) (ck_E1 (ck_S1 qRl_p2_s241 (ck_S1 qRl_p2_s242 (ck_S1 qRl_p2_s243 ck_S0))) (ck_E1 (ck_S1 qRl_p2_s411 ck_S0) (ck_E1 (ck_S1 q_p2_s381_s ck_S0) (ck_E1 (ck_S1 qRl_p2_s414 ck_S0) (ck_E1 (ck_S1 qRl_p2_s415 ck_S0) ck_E0))))))⟩ ck_X0 ck_l0 q_p2_s416_e
def q_p2_s427 : ck_Sum := ((23, 0, 0), 245, [.inr (.inr (.inl 226)), .inl (0, 23, []), .inl (0, 299, [])], ([], [], [(227, 2, 2, (0, 8, [(20, 0)])), (227, 4, 4, (0, 24, [(22, 0)])), (227, 5, 5, (0, 8, [(23, 0)]))]), ([(226, 0, 0), (226, 17, 23), (226, 26, 26), (226, 29, 30), (233, 0, 399), (235, 0, 29699), (236, 0, 299), (237, 0, 299)], []), [(.inr (some (.inl (ck_one 0))), 245, ([], [], [(226, 0, 0, ck_one 1)])), (.inr (some (.inl ((-1), 99, []))), 245, ([], [], [(226, 0, 0, ck_one 0)]))])
set_option maxRecDepth 100000 in
theorem q_p2_s427_e : ck_ok qR_O none [] [(309, [p2_s406]), (282, [p2_s241, p2_s242, p2_s243]), (285, [p2_s263]), (305, [q_p2_s380])] 313 [] 120 q_p2_s427 = true := by decide +kernel
theorem q_p2_s427_s : ck_Ok qR_O X LX 313 q_p2_s427 := ck_ok_s ⟨qR_nmu, (ck_E1 (ck_S1 qRl_p2_s406 ck_S0) (ck_E1 (ck_S1 qRl_p2_s241 (ck_S1 qRl_p2_s242 (ck_S1 qRl_p2_s243 ck_S0))) (ck_E1 (ck_S1 qRl_p2_s263 ck_S0) (ck_E1 (ck_S1 q_p2_s380_s ck_S0) ck_E0))))⟩ ck_X0 ck_l0 q_p2_s427_e
def q_p2_s437 : ck_Sum := ((23, 0, 0), 245, [.inr (.inr (.inl 226)), .inl (0, 23, []), .inl (0, 299, [])], ([], [], [(227, 2, 2, (0, 8, [(20, 0)])), (227, 4, 4, (0, 24, [(22, 0)])), (227, 5, 5, (0, 8, [(23, 0)]))]), ([(226, 0, 0), (226, 17, 23), (226, 26, 26), (226, 29, 30), (233, 0, 399), (235, 0, 29699), (236, 0, 299), (237, 0, 299)], []), [(.inr (some (.inl (ck_one 0))), 245, ([], [], [(226, 0, 0, ck_one 1)])), (.inr (some (.inl ((-1), 99, []))), 245, ([], [], [(226, 0, 0, ck_one 0)]))])
set_option maxRecDepth 100000 in
theorem q_p2_s437_e : ck_ok qR_O none [] [(309, [p2_s406]), (282, [p2_s241, p2_s242, p2_s243]), (285, [p2_s263]), (305, [q_p2_s380])] 314 [] 120 q_p2_s437 = true := by decide +kernel
theorem q_p2_s437_s : ck_Ok qR_O X LX 314 q_p2_s437 := ck_ok_s ⟨qR_nmu, (ck_E1 (ck_S1 qRl_p2_s406 ck_S0) (ck_E1 (ck_S1 qRl_p2_s241 (ck_S1 qRl_p2_s242 (ck_S1 qRl_p2_s243 ck_S0))) (ck_E1 (ck_S1 qRl_p2_s263 ck_S0) (ck_E1 (ck_S1 q_p2_s380_s ck_S0) ck_E0))))⟩ ck_X0 ck_l0 q_p2_s437_e
theorem qRl_p2_s827 : ck_Ok qR_O X LX 303 p2_s827 := qR_l p2_s827_s (by decide +kernel)
theorem qRl_p2_s828 : ck_Ok qR_O X LX 301 p2_s828 := qR_l p2_s828_s (by decide +kernel)
def q_p2_s829 : ck_Sum := ((24, 0, 0), 245, [.inr (.inr (.inl 226)), .inl (ck_one 0)], ([], [], [(227, 2, 2, (0, 8, [(20, 0)])), (227, 5, 5, (0, 8, [(23, 0)])), (227, 9, 9, (0, 299, [(11, 0)]))]), ([(226, 17, 23), (226, 26, 26), (226, 29, 30), (233, 0, 399), (235, 0, 29699), (236, 0, 299), (237, 0, 299)], []), [(.inr (some (.inl (ck_one 0))), 245, ([], [], [])), (.inr (some (.inl (ck_one 1))), 245, ([], [], [(226, 29, 29, (0, 299, [])), (227, 124, 124, ck_one (-1)), (227, 119, 119, (0, 7, []))]))])
set_option maxRecDepth 100000 in
theorem q_p2_s829_e : ck_ok qR_O none [] [(303, [p2_s827]), (301, [p2_s828]), (304, [q_p2_s381]), (266, [p2_s190])] 302 [] 114 q_p2_s829 = true := by decide +kernel
theorem q_p2_s829_s : ck_Ok qR_O X LX 302 q_p2_s829 := ck_ok_s ⟨qR_nmu, (ck_E1 (ck_S1 qRl_p2_s827 ck_S0) (ck_E1 (ck_S1 qRl_p2_s828 ck_S0) (ck_E1 (ck_S1 q_p2_s381_s ck_S0) (ck_E1 (ck_S1 qRl_p2_s190 ck_S0) ck_E0))))⟩ ck_X0 ck_l0 q_p2_s829_e
theorem qRl_p2_s838 : ck_Ok qR_O X LX 303 p2_s838 := qR_l p2_s838_s (by decide +kernel)
theorem qRl_p2_s839 : ck_Ok qR_O X LX 301 p2_s839 := qR_l p2_s839_s (by decide +kernel)
def q_p2_s840 : ck_Sum := ((24, 0, 0), 245, [.inr (.inr (.inl 226)), .inl (ck_one 1)], ([], [], [(227, 2, 2, (0, 8, [(20, 0)])), (227, 5, 5, (0, 8, [(23, 0)])), (227, 9, 9, (0, 299, [(11, 0)]))]), ([(226, 17, 23), (226, 26, 26), (226, 29, 30), (233, 0, 399), (235, 0, 29699), (236, 0, 299), (237, 0, 299)], []), [(.inr (some (.inl (ck_one 0))), 245, ([], [], [])), (.inr (some (.inl (ck_one 1))), 245, ([], [], [(226, 29, 29, (0, 299, [])), (227, 131, 131, ck_one (-1)), (227, 126, 126, (0, 7, []))]))])
set_option maxRecDepth 100000 in
theorem q_p2_s840_e : ck_ok qR_O none [] [(303, [p2_s838]), (301, [p2_s839]), (304, [q_p2_s381]), (266, [p2_s190])] 302 [] 114 q_p2_s840 = true := by decide +kernel
theorem q_p2_s840_s : ck_Ok qR_O X LX 302 q_p2_s840 := ck_ok_s ⟨qR_nmu, (ck_E1 (ck_S1 qRl_p2_s838 ck_S0) (ck_E1 (ck_S1 qRl_p2_s839 ck_S0) (ck_E1 (ck_S1 q_p2_s381_s ck_S0) (ck_E1 (ck_S1 qRl_p2_s190 ck_S0) ck_E0))))⟩ ck_X0 ck_l0 q_p2_s840_e
theorem qRl_p2_s849 : ck_Ok qR_O X LX 303 p2_s849 := qR_l p2_s849_s (by decide +kernel)
theorem qRl_p2_s850 : ck_Ok qR_O X LX 301 p2_s850 := qR_l p2_s850_s (by decide +kernel)
def q_p2_s851 : ck_Sum := ((24, 0, 0), 245, [.inr (.inr (.inl 226)), .inl (ck_one 2)], ([], [], [(227, 2, 2, (0, 8, [(20, 0)])), (227, 5, 5, (0, 8, [(23, 0)])), (227, 9, 9, (0, 299, [(11, 0)]))]), ([(226, 17, 23), (226, 26, 26), (226, 29, 30), (233, 0, 399), (235, 0, 29699), (236, 0, 299), (237, 0, 299)], []), [(.inr (some (.inl (ck_one 0))), 245, ([], [], [])), (.inr (some (.inl (ck_one 1))), 245, ([], [], [(226, 29, 29, (0, 299, [])), (227, 138, 138, ck_one (-1)), (227, 133, 133, (0, 7, []))]))])
set_option maxRecDepth 100000 in
theorem q_p2_s851_e : ck_ok qR_O none [] [(303, [p2_s849]), (301, [p2_s850]), (304, [q_p2_s381]), (266, [p2_s190])] 302 [] 114 q_p2_s851 = true := by decide +kernel
theorem q_p2_s851_s : ck_Ok qR_O X LX 302 q_p2_s851 := ck_ok_s ⟨qR_nmu, (ck_E1 (ck_S1 qRl_p2_s849 ck_S0) (ck_E1 (ck_S1 qRl_p2_s850 ck_S0) (ck_E1 (ck_S1 q_p2_s381_s ck_S0) (ck_E1 (ck_S1 qRl_p2_s190 ck_S0) ck_E0))))⟩ ck_X0 ck_l0 q_p2_s851_e
theorem qRl_p2_s860 : ck_Ok qR_O X LX 303 p2_s860 := qR_l p2_s860_s (by decide +kernel)
theorem qRl_p2_s861 : ck_Ok qR_O X LX 301 p2_s861 := qR_l p2_s861_s (by decide +kernel)
def q_p2_s862 : ck_Sum := ((24, 0, 0), 245, [.inr (.inr (.inl 226)), .inl (ck_one 3)], ([], [], [(227, 2, 2, (0, 8, [(20, 0)])), (227, 5, 5, (0, 8, [(23, 0)])), (227, 9, 9, (0, 299, [(11, 0)]))]), ([(226, 17, 23), (226, 26, 26), (226, 29, 30), (233, 0, 399), (235, 0, 29699), (236, 0, 299), (237, 0, 299)], []), [(.inr (some (.inl (ck_one 0))), 245, ([], [], [])), (.inr (some (.inl (ck_one 1))), 245, ([], [], [(226, 29, 29, (0, 299, [])), (227, 145, 145, ck_one (-1)), (227, 140, 140, (0, 7, []))]))])
set_option maxRecDepth 100000 in
theorem q_p2_s862_e : ck_ok qR_O none [] [(303, [p2_s860]), (301, [p2_s861]), (304, [q_p2_s381]), (266, [p2_s190])] 302 [] 114 q_p2_s862 = true := by decide +kernel
theorem q_p2_s862_s : ck_Ok qR_O X LX 302 q_p2_s862 := ck_ok_s ⟨qR_nmu, (ck_E1 (ck_S1 qRl_p2_s860 ck_S0) (ck_E1 (ck_S1 qRl_p2_s861 ck_S0) (ck_E1 (ck_S1 q_p2_s381_s ck_S0) (ck_E1 (ck_S1 qRl_p2_s190 ck_S0) ck_E0))))⟩ ck_X0 ck_l0 q_p2_s862_e
theorem qRl_p2_s871 : ck_Ok qR_O X LX 303 p2_s871 := qR_l p2_s871_s (by decide +kernel)
theorem qRl_p2_s872 : ck_Ok qR_O X LX 301 p2_s872 := qR_l p2_s872_s (by decide +kernel)
def q_p2_s873 : ck_Sum := ((24, 0, 0), 245, [.inr (.inr (.inl 226)), .inl (ck_one 4)], ([], [], [(227, 2, 2, (0, 8, [(20, 0)])), (227, 5, 5, (0, 8, [(23, 0)])), (227, 9, 9, (0, 299, [(11, 0)]))]), ([(226, 17, 23), (226, 26, 26), (226, 29, 30), (233, 0, 399), (235, 0, 29699), (236, 0, 299), (237, 0, 299)], []), [(.inr (some (.inl (ck_one 0))), 245, ([], [], [])), (.inr (some (.inl (ck_one 1))), 245, ([], [], [(226, 29, 29, (0, 299, [])), (227, 152, 152, ck_one (-1)), (227, 147, 147, (0, 7, []))]))])
set_option maxRecDepth 100000 in
theorem q_p2_s873_e : ck_ok qR_O none [] [(303, [p2_s871]), (301, [p2_s872]), (304, [q_p2_s381]), (266, [p2_s190])] 302 [] 114 q_p2_s873 = true := by decide +kernel
theorem q_p2_s873_s : ck_Ok qR_O X LX 302 q_p2_s873 := ck_ok_s ⟨qR_nmu, (ck_E1 (ck_S1 qRl_p2_s871 ck_S0) (ck_E1 (ck_S1 qRl_p2_s872 ck_S0) (ck_E1 (ck_S1 q_p2_s381_s ck_S0) (ck_E1 (ck_S1 qRl_p2_s190 ck_S0) ck_E0))))⟩ ck_X0 ck_l0 q_p2_s873_e
theorem qRl_p2_s882 : ck_Ok qR_O X LX 303 p2_s882 := qR_l p2_s882_s (by decide +kernel)
theorem qRl_p2_s883 : ck_Ok qR_O X LX 301 p2_s883 := qR_l p2_s883_s (by decide +kernel)
def q_p2_s884 : ck_Sum := ((24, 0, 0), 245, [.inr (.inr (.inl 226)), .inl (ck_one 5)], ([], [], [(227, 2, 2, (0, 8, [(20, 0)])), (227, 5, 5, (0, 8, [(23, 0)])), (227, 9, 9, (0, 299, [(11, 0)]))]), ([(226, 17, 23), (226, 26, 26), (226, 29, 30), (233, 0, 399), (235, 0, 29699), (236, 0, 299), (237, 0, 299)], []), [(.inr (some (.inl (ck_one 0))), 245, ([], [], [])), (.inr (some (.inl (ck_one 1))), 245, ([], [], [(226, 29, 29, (0, 299, [])), (227, 159, 159, ck_one (-1)), (227, 154, 154, (0, 7, []))]))])
set_option maxRecDepth 100000 in
theorem q_p2_s884_e : ck_ok qR_O none [] [(303, [p2_s882]), (301, [p2_s883]), (304, [q_p2_s381]), (266, [p2_s190])] 302 [] 114 q_p2_s884 = true := by decide +kernel
theorem q_p2_s884_s : ck_Ok qR_O X LX 302 q_p2_s884 := ck_ok_s ⟨qR_nmu, (ck_E1 (ck_S1 qRl_p2_s882 ck_S0) (ck_E1 (ck_S1 qRl_p2_s883 ck_S0) (ck_E1 (ck_S1 q_p2_s381_s ck_S0) (ck_E1 (ck_S1 qRl_p2_s190 ck_S0) ck_E0))))⟩ ck_X0 ck_l0 q_p2_s884_e
theorem qRl_p2_s893 : ck_Ok qR_O X LX 303 p2_s893 := qR_l p2_s893_s (by decide +kernel)
theorem qRl_p2_s894 : ck_Ok qR_O X LX 301 p2_s894 := qR_l p2_s894_s (by decide +kernel)
def q_p2_s895 : ck_Sum := ((24, 0, 0), 245, [.inr (.inr (.inl 226)), .inl (ck_one 6)], ([], [], [(227, 2, 2, (0, 8, [(20, 0)])), (227, 5, 5, (0, 8, [(23, 0)])), (227, 9, 9, (0, 299, [(11, 0)]))]), ([(226, 17, 23), (226, 26, 26), (226, 29, 30), (233, 0, 399), (235, 0, 29699), (236, 0, 299), (237, 0, 299)], []), [(.inr (some (.inl (ck_one 0))), 245, ([], [], [])), (.inr (some (.inl (ck_one 1))), 245, ([], [], [(226, 29, 29, (0, 299, [])), (227, 166, 166, ck_one (-1)), (227, 161, 161, (0, 7, []))]))])
set_option maxRecDepth 100000 in
theorem q_p2_s895_e : ck_ok qR_O none [] [(303, [p2_s893]), (301, [p2_s894]), (304, [q_p2_s381]), (266, [p2_s190])] 302 [] 114 q_p2_s895 = true := by decide +kernel
theorem q_p2_s895_s : ck_Ok qR_O X LX 302 q_p2_s895 := ck_ok_s ⟨qR_nmu, (ck_E1 (ck_S1 qRl_p2_s893 ck_S0) (ck_E1 (ck_S1 qRl_p2_s894 ck_S0) (ck_E1 (ck_S1 q_p2_s381_s ck_S0) (ck_E1 (ck_S1 qRl_p2_s190 ck_S0) ck_E0))))⟩ ck_X0 ck_l0 q_p2_s895_e
theorem qRl_p2_s904 : ck_Ok qR_O X LX 303 p2_s904 := qR_l p2_s904_s (by decide +kernel)
theorem qRl_p2_s905 : ck_Ok qR_O X LX 301 p2_s905 := qR_l p2_s905_s (by decide +kernel)
def q_p2_s906 : ck_Sum := ((24, 0, 0), 245, [.inr (.inr (.inl 226)), .inl (ck_one 7)], ([], [], [(227, 2, 2, (0, 8, [(20, 0)])), (227, 5, 5, (0, 8, [(23, 0)])), (227, 9, 9, (0, 299, [(11, 0)]))]), ([(226, 17, 23), (226, 26, 26), (226, 29, 30), (233, 0, 399), (235, 0, 29699), (236, 0, 299), (237, 0, 299)], []), [(.inr (some (.inl (ck_one 0))), 245, ([], [], [])), (.inr (some (.inl (ck_one 1))), 245, ([], [], [(226, 29, 29, (0, 299, [])), (227, 173, 173, ck_one (-1)), (227, 168, 168, (0, 7, []))]))])
set_option maxRecDepth 100000 in
theorem q_p2_s906_e : ck_ok qR_O none [] [(303, [p2_s904]), (301, [p2_s905]), (304, [q_p2_s381]), (266, [p2_s190])] 302 [] 114 q_p2_s906 = true := by decide +kernel
theorem q_p2_s906_s : ck_Ok qR_O X LX 302 q_p2_s906 := ck_ok_s ⟨qR_nmu, (ck_E1 (ck_S1 qRl_p2_s904 ck_S0) (ck_E1 (ck_S1 qRl_p2_s905 ck_S0) (ck_E1 (ck_S1 q_p2_s381_s ck_S0) (ck_E1 (ck_S1 qRl_p2_s190 ck_S0) ck_E0))))⟩ ck_X0 ck_l0 q_p2_s906_e
theorem qRl_p2_s915 : ck_Ok qR_O X LX 303 p2_s915 := qR_l p2_s915_s (by decide +kernel)
theorem qRl_p2_s916 : ck_Ok qR_O X LX 301 p2_s916 := qR_l p2_s916_s (by decide +kernel)
def q_p2_s917 : ck_Sum := ((24, 0, 0), 245, [.inr (.inr (.inl 226)), .inl (ck_one 8)], ([], [], [(227, 2, 2, (0, 8, [(20, 0)])), (227, 5, 5, (0, 8, [(23, 0)])), (227, 9, 9, (0, 299, [(11, 0)]))]), ([(226, 17, 23), (226, 26, 26), (226, 29, 30), (233, 0, 399), (235, 0, 29699), (236, 0, 299), (237, 0, 299)], []), [(.inr (some (.inl (ck_one 0))), 245, ([], [], [])), (.inr (some (.inl (ck_one 1))), 245, ([], [], [(226, 29, 29, (0, 299, [])), (227, 180, 180, ck_one (-1)), (227, 175, 175, (0, 7, []))]))])
set_option maxRecDepth 100000 in
theorem q_p2_s917_e : ck_ok qR_O none [] [(303, [p2_s915]), (301, [p2_s916]), (304, [q_p2_s381]), (266, [p2_s190])] 302 [] 114 q_p2_s917 = true := by decide +kernel
theorem q_p2_s917_s : ck_Ok qR_O X LX 302 q_p2_s917 := ck_ok_s ⟨qR_nmu, (ck_E1 (ck_S1 qRl_p2_s915 ck_S0) (ck_E1 (ck_S1 qRl_p2_s916 ck_S0) (ck_E1 (ck_S1 q_p2_s381_s ck_S0) (ck_E1 (ck_S1 qRl_p2_s190 ck_S0) ck_E0))))⟩ ck_X0 ck_l0 q_p2_s917_e
theorem qRl_p2_s926 : ck_Ok qR_O X LX 303 p2_s926 := qR_l p2_s926_s (by decide +kernel)
theorem qRl_p2_s927 : ck_Ok qR_O X LX 301 p2_s927 := qR_l p2_s927_s (by decide +kernel)
def q_p2_s928 : ck_Sum := ((24, 0, 0), 245, [.inr (.inr (.inl 226)), .inl (ck_one 9)], ([], [], [(227, 2, 2, (0, 8, [(20, 0)])), (227, 5, 5, (0, 8, [(23, 0)])), (227, 9, 9, (0, 299, [(11, 0)]))]), ([(226, 17, 23), (226, 26, 26), (226, 29, 30), (233, 0, 399), (235, 0, 29699), (236, 0, 299), (237, 0, 299)], []), [(.inr (some (.inl (ck_one 0))), 245, ([], [], [])), (.inr (some (.inl (ck_one 1))), 245, ([], [], [(226, 29, 29, (0, 299, [])), (227, 187, 187, ck_one (-1)), (227, 182, 182, (0, 7, []))]))])
set_option maxRecDepth 100000 in
theorem q_p2_s928_e : ck_ok qR_O none [] [(303, [p2_s926]), (301, [p2_s927]), (304, [q_p2_s381]), (266, [p2_s190])] 302 [] 114 q_p2_s928 = true := by decide +kernel
theorem q_p2_s928_s : ck_Ok qR_O X LX 302 q_p2_s928 := ck_ok_s ⟨qR_nmu, (ck_E1 (ck_S1 qRl_p2_s926 ck_S0) (ck_E1 (ck_S1 qRl_p2_s927 ck_S0) (ck_E1 (ck_S1 q_p2_s381_s ck_S0) (ck_E1 (ck_S1 qRl_p2_s190 ck_S0) ck_E0))))⟩ ck_X0 ck_l0 q_p2_s928_e
theorem qRl_p2_s937 : ck_Ok qR_O X LX 303 p2_s937 := qR_l p2_s937_s (by decide +kernel)
theorem qRl_p2_s938 : ck_Ok qR_O X LX 301 p2_s938 := qR_l p2_s938_s (by decide +kernel)
def q_p2_s939 : ck_Sum := ((24, 0, 0), 245, [.inr (.inr (.inl 226)), .inl (ck_one 10)], ([], [], [(227, 2, 2, (0, 8, [(20, 0)])), (227, 5, 5, (0, 8, [(23, 0)])), (227, 9, 9, (0, 299, [(11, 0)]))]), ([(226, 17, 23), (226, 26, 26), (226, 29, 30), (233, 0, 399), (235, 0, 29699), (236, 0, 299), (237, 0, 299)], []), [(.inr (some (.inl (ck_one 0))), 245, ([], [], [])), (.inr (some (.inl (ck_one 1))), 245, ([], [], [(226, 29, 29, (0, 299, [])), (227, 194, 194, ck_one (-1)), (227, 189, 189, (0, 7, []))]))])
set_option maxRecDepth 100000 in
theorem q_p2_s939_e : ck_ok qR_O none [] [(303, [p2_s937]), (301, [p2_s938]), (304, [q_p2_s381]), (266, [p2_s190])] 302 [] 114 q_p2_s939 = true := by decide +kernel
theorem q_p2_s939_s : ck_Ok qR_O X LX 302 q_p2_s939 := ck_ok_s ⟨qR_nmu, (ck_E1 (ck_S1 qRl_p2_s937 ck_S0) (ck_E1 (ck_S1 qRl_p2_s938 ck_S0) (ck_E1 (ck_S1 q_p2_s381_s ck_S0) (ck_E1 (ck_S1 qRl_p2_s190 ck_S0) ck_E0))))⟩ ck_X0 ck_l0 q_p2_s939_e
theorem qRl_p2_s948 : ck_Ok qR_O X LX 303 p2_s948 := qR_l p2_s948_s (by decide +kernel)
theorem qRl_p2_s949 : ck_Ok qR_O X LX 301 p2_s949 := qR_l p2_s949_s (by decide +kernel)
def q_p2_s950 : ck_Sum := ((24, 0, 0), 245, [.inr (.inr (.inl 226)), .inl (ck_one 11)], ([], [], [(227, 2, 2, (0, 8, [(20, 0)])), (227, 5, 5, (0, 8, [(23, 0)])), (227, 9, 9, (0, 299, [(11, 0)]))]), ([(226, 17, 23), (226, 26, 26), (226, 29, 30), (233, 0, 399), (235, 0, 29699), (236, 0, 299), (237, 0, 299)], []), [(.inr (some (.inl (ck_one 0))), 245, ([], [], [])), (.inr (some (.inl (ck_one 1))), 245, ([], [], [(226, 29, 29, (0, 299, [])), (227, 201, 201, ck_one (-1)), (227, 196, 196, (0, 7, []))]))])
set_option maxRecDepth 100000 in
theorem q_p2_s950_e : ck_ok qR_O none [] [(303, [p2_s948]), (301, [p2_s949]), (304, [q_p2_s381]), (266, [p2_s190])] 302 [] 114 q_p2_s950 = true := by decide +kernel
theorem q_p2_s950_s : ck_Ok qR_O X LX 302 q_p2_s950 := ck_ok_s ⟨qR_nmu, (ck_E1 (ck_S1 qRl_p2_s948 ck_S0) (ck_E1 (ck_S1 qRl_p2_s949 ck_S0) (ck_E1 (ck_S1 q_p2_s381_s ck_S0) (ck_E1 (ck_S1 qRl_p2_s190 ck_S0) ck_E0))))⟩ ck_X0 ck_l0 q_p2_s950_e
theorem qRl_p2_s959 : ck_Ok qR_O X LX 303 p2_s959 := qR_l p2_s959_s (by decide +kernel)
theorem qRl_p2_s960 : ck_Ok qR_O X LX 301 p2_s960 := qR_l p2_s960_s (by decide +kernel)
def q_p2_s961 : ck_Sum := ((24, 0, 0), 245, [.inr (.inr (.inl 226)), .inl (ck_one 12)], ([], [], [(227, 2, 2, (0, 8, [(20, 0)])), (227, 5, 5, (0, 8, [(23, 0)])), (227, 9, 9, (0, 299, [(11, 0)]))]), ([(226, 17, 23), (226, 26, 26), (226, 29, 30), (233, 0, 399), (235, 0, 29699), (236, 0, 299), (237, 0, 299)], []), [(.inr (some (.inl (ck_one 0))), 245, ([], [], [])), (.inr (some (.inl (ck_one 1))), 245, ([], [], [(226, 29, 29, (0, 299, [])), (227, 208, 208, ck_one (-1)), (227, 203, 203, (0, 7, []))]))])
set_option maxRecDepth 100000 in
theorem q_p2_s961_e : ck_ok qR_O none [] [(303, [p2_s959]), (301, [p2_s960]), (304, [q_p2_s381]), (266, [p2_s190])] 302 [] 114 q_p2_s961 = true := by decide +kernel
theorem q_p2_s961_s : ck_Ok qR_O X LX 302 q_p2_s961 := ck_ok_s ⟨qR_nmu, (ck_E1 (ck_S1 qRl_p2_s959 ck_S0) (ck_E1 (ck_S1 qRl_p2_s960 ck_S0) (ck_E1 (ck_S1 q_p2_s381_s ck_S0) (ck_E1 (ck_S1 qRl_p2_s190 ck_S0) ck_E0))))⟩ ck_X0 ck_l0 q_p2_s961_e
theorem qRl_p2_s970 : ck_Ok qR_O X LX 303 p2_s970 := qR_l p2_s970_s (by decide +kernel)
theorem qRl_p2_s971 : ck_Ok qR_O X LX 301 p2_s971 := qR_l p2_s971_s (by decide +kernel)
def q_p2_s972 : ck_Sum := ((24, 0, 0), 245, [.inr (.inr (.inl 226)), .inl (ck_one 13)], ([], [], [(227, 2, 2, (0, 8, [(20, 0)])), (227, 5, 5, (0, 8, [(23, 0)])), (227, 9, 9, (0, 299, [(11, 0)]))]), ([(226, 17, 23), (226, 26, 26), (226, 29, 30), (233, 0, 399), (235, 0, 29699), (236, 0, 299), (237, 0, 299)], []), [(.inr (some (.inl (ck_one 0))), 245, ([], [], [])), (.inr (some (.inl (ck_one 1))), 245, ([], [], [(226, 29, 29, (0, 299, [])), (227, 215, 215, ck_one (-1)), (227, 210, 210, (0, 7, []))]))])
set_option maxRecDepth 100000 in
theorem q_p2_s972_e : ck_ok qR_O none [] [(303, [p2_s970]), (301, [p2_s971]), (304, [q_p2_s381]), (266, [p2_s190])] 302 [] 114 q_p2_s972 = true := by decide +kernel
theorem q_p2_s972_s : ck_Ok qR_O X LX 302 q_p2_s972 := ck_ok_s ⟨qR_nmu, (ck_E1 (ck_S1 qRl_p2_s970 ck_S0) (ck_E1 (ck_S1 qRl_p2_s971 ck_S0) (ck_E1 (ck_S1 q_p2_s381_s ck_S0) (ck_E1 (ck_S1 qRl_p2_s190 ck_S0) ck_E0))))⟩ ck_X0 ck_l0 q_p2_s972_e
theorem qRl_p2_s981 : ck_Ok qR_O X LX 303 p2_s981 := qR_l p2_s981_s (by decide +kernel)
theorem qRl_p2_s982 : ck_Ok qR_O X LX 301 p2_s982 := qR_l p2_s982_s (by decide +kernel)
def q_p2_s983 : ck_Sum := ((24, 0, 0), 245, [.inr (.inr (.inl 226)), .inl (ck_one 14)], ([], [], [(227, 2, 2, (0, 8, [(20, 0)])), (227, 5, 5, (0, 8, [(23, 0)])), (227, 9, 9, (0, 299, [(11, 0)]))]), ([(226, 17, 23), (226, 26, 26), (226, 29, 30), (233, 0, 399), (235, 0, 29699), (236, 0, 299), (237, 0, 299)], []), [(.inr (some (.inl (ck_one 0))), 245, ([], [], [])), (.inr (some (.inl (ck_one 1))), 245, ([], [], [(226, 29, 29, (0, 299, [])), (227, 222, 222, ck_one (-1)), (227, 217, 217, (0, 7, []))]))])
set_option maxRecDepth 100000 in
theorem q_p2_s983_e : ck_ok qR_O none [] [(303, [p2_s981]), (301, [p2_s982]), (304, [q_p2_s381]), (266, [p2_s190])] 302 [] 114 q_p2_s983 = true := by decide +kernel
theorem q_p2_s983_s : ck_Ok qR_O X LX 302 q_p2_s983 := ck_ok_s ⟨qR_nmu, (ck_E1 (ck_S1 qRl_p2_s981 ck_S0) (ck_E1 (ck_S1 qRl_p2_s982 ck_S0) (ck_E1 (ck_S1 q_p2_s381_s ck_S0) (ck_E1 (ck_S1 qRl_p2_s190 ck_S0) ck_E0))))⟩ ck_X0 ck_l0 q_p2_s983_e
theorem qRl_p2_s992 : ck_Ok qR_O X LX 303 p2_s992 := qR_l p2_s992_s (by decide +kernel)
theorem qRl_p2_s993 : ck_Ok qR_O X LX 301 p2_s993 := qR_l p2_s993_s (by decide +kernel)
def q_p2_s994 : ck_Sum := ((24, 0, 0), 245, [.inr (.inr (.inl 226)), .inl (ck_one 15)], ([], [], [(227, 2, 2, (0, 8, [(20, 0)])), (227, 5, 5, (0, 8, [(23, 0)])), (227, 9, 9, (0, 299, [(11, 0)]))]), ([(226, 17, 23), (226, 26, 26), (226, 29, 30), (233, 0, 399), (235, 0, 29699), (236, 0, 299), (237, 0, 299)], []), [(.inr (some (.inl (ck_one 0))), 245, ([], [], [])), (.inr (some (.inl (ck_one 1))), 245, ([], [], [(226, 29, 29, (0, 299, [])), (227, 229, 229, ck_one (-1)), (227, 224, 224, (0, 7, []))]))])
set_option maxRecDepth 100000 in
theorem q_p2_s994_e : ck_ok qR_O none [] [(303, [p2_s992]), (301, [p2_s993]), (304, [q_p2_s381]), (266, [p2_s190])] 302 [] 114 q_p2_s994 = true := by decide +kernel
theorem q_p2_s994_s : ck_Ok qR_O X LX 302 q_p2_s994 := ck_ok_s ⟨qR_nmu, (ck_E1 (ck_S1 qRl_p2_s992 ck_S0) (ck_E1 (ck_S1 qRl_p2_s993 ck_S0) (ck_E1 (ck_S1 q_p2_s381_s ck_S0) (ck_E1 (ck_S1 qRl_p2_s190 ck_S0) ck_E0))))⟩ ck_X0 ck_l0 q_p2_s994_e
theorem qRl_p2_s1003 : ck_Ok qR_O X LX 303 p2_s1003 := qR_l p2_s1003_s (by decide +kernel)
theorem qRl_p2_s1004 : ck_Ok qR_O X LX 301 p2_s1004 := qR_l p2_s1004_s (by decide +kernel)
def q_p2_s1005 : ck_Sum := ((24, 0, 0), 245, [.inr (.inr (.inl 226)), .inl (ck_one 16)], ([], [], [(227, 2, 2, (0, 8, [(20, 0)])), (227, 5, 5, (0, 8, [(23, 0)])), (227, 9, 9, (0, 299, [(11, 0)]))]), ([(226, 17, 23), (226, 26, 26), (226, 29, 30), (233, 0, 399), (235, 0, 29699), (236, 0, 299), (237, 0, 299)], []), [(.inr (some (.inl (ck_one 0))), 245, ([], [], [])), (.inr (some (.inl (ck_one 1))), 245, ([], [], [(226, 29, 29, (0, 299, [])), (227, 236, 236, ck_one (-1)), (227, 231, 231, (0, 7, []))]))])
set_option maxRecDepth 100000 in
theorem q_p2_s1005_e : ck_ok qR_O none [] [(303, [p2_s1003]), (301, [p2_s1004]), (304, [q_p2_s381]), (266, [p2_s190])] 302 [] 114 q_p2_s1005 = true := by decide +kernel
theorem q_p2_s1005_s : ck_Ok qR_O X LX 302 q_p2_s1005 := ck_ok_s ⟨qR_nmu, (ck_E1 (ck_S1 qRl_p2_s1003 ck_S0) (ck_E1 (ck_S1 qRl_p2_s1004 ck_S0) (ck_E1 (ck_S1 q_p2_s381_s ck_S0) (ck_E1 (ck_S1 qRl_p2_s190 ck_S0) ck_E0))))⟩ ck_X0 ck_l0 q_p2_s1005_e
theorem qRl_p2_s1014 : ck_Ok qR_O X LX 303 p2_s1014 := qR_l p2_s1014_s (by decide +kernel)
theorem qRl_p2_s1015 : ck_Ok qR_O X LX 301 p2_s1015 := qR_l p2_s1015_s (by decide +kernel)
def q_p2_s1016 : ck_Sum := ((24, 0, 0), 245, [.inr (.inr (.inl 226)), .inl (ck_one 17)], ([], [], [(227, 2, 2, (0, 8, [(20, 0)])), (227, 5, 5, (0, 8, [(23, 0)])), (227, 9, 9, (0, 299, [(11, 0)]))]), ([(226, 17, 23), (226, 26, 26), (226, 29, 30), (233, 0, 399), (235, 0, 29699), (236, 0, 299), (237, 0, 299)], []), [(.inr (some (.inl (ck_one 0))), 245, ([], [], [])), (.inr (some (.inl (ck_one 1))), 245, ([], [], [(226, 29, 29, (0, 299, [])), (227, 243, 243, ck_one (-1)), (227, 238, 238, (0, 7, []))]))])
set_option maxRecDepth 100000 in
theorem q_p2_s1016_e : ck_ok qR_O none [] [(303, [p2_s1014]), (301, [p2_s1015]), (304, [q_p2_s381]), (266, [p2_s190])] 302 [] 114 q_p2_s1016 = true := by decide +kernel
theorem q_p2_s1016_s : ck_Ok qR_O X LX 302 q_p2_s1016 := ck_ok_s ⟨qR_nmu, (ck_E1 (ck_S1 qRl_p2_s1014 ck_S0) (ck_E1 (ck_S1 qRl_p2_s1015 ck_S0) (ck_E1 (ck_S1 q_p2_s381_s ck_S0) (ck_E1 (ck_S1 qRl_p2_s190 ck_S0) ck_E0))))⟩ ck_X0 ck_l0 q_p2_s1016_e
theorem qRl_p2_s1025 : ck_Ok qR_O X LX 303 p2_s1025 := qR_l p2_s1025_s (by decide +kernel)
theorem qRl_p2_s1026 : ck_Ok qR_O X LX 301 p2_s1026 := qR_l p2_s1026_s (by decide +kernel)
def q_p2_s1027 : ck_Sum := ((24, 0, 0), 245, [.inr (.inr (.inl 226)), .inl (ck_one 18)], ([], [], [(227, 2, 2, (0, 8, [(20, 0)])), (227, 5, 5, (0, 8, [(23, 0)])), (227, 9, 9, (0, 299, [(11, 0)]))]), ([(226, 17, 23), (226, 26, 26), (226, 29, 30), (233, 0, 399), (235, 0, 29699), (236, 0, 299), (237, 0, 299)], []), [(.inr (some (.inl (ck_one 0))), 245, ([], [], [])), (.inr (some (.inl (ck_one 1))), 245, ([], [], [(226, 29, 29, (0, 299, [])), (227, 250, 250, ck_one (-1)), (227, 245, 245, (0, 7, []))]))])
set_option maxRecDepth 100000 in
theorem q_p2_s1027_e : ck_ok qR_O none [] [(303, [p2_s1025]), (301, [p2_s1026]), (304, [q_p2_s381]), (266, [p2_s190])] 302 [] 114 q_p2_s1027 = true := by decide +kernel
theorem q_p2_s1027_s : ck_Ok qR_O X LX 302 q_p2_s1027 := ck_ok_s ⟨qR_nmu, (ck_E1 (ck_S1 qRl_p2_s1025 ck_S0) (ck_E1 (ck_S1 qRl_p2_s1026 ck_S0) (ck_E1 (ck_S1 q_p2_s381_s ck_S0) (ck_E1 (ck_S1 qRl_p2_s190 ck_S0) ck_E0))))⟩ ck_X0 ck_l0 q_p2_s1027_e
theorem qRl_p2_s1036 : ck_Ok qR_O X LX 303 p2_s1036 := qR_l p2_s1036_s (by decide +kernel)
theorem qRl_p2_s1037 : ck_Ok qR_O X LX 301 p2_s1037 := qR_l p2_s1037_s (by decide +kernel)
def q_p2_s1038 : ck_Sum := ((24, 0, 0), 245, [.inr (.inr (.inl 226)), .inl (ck_one 19)], ([], [], [(227, 2, 2, (0, 8, [(20, 0)])), (227, 5, 5, (0, 8, [(23, 0)])), (227, 9, 9, (0, 299, [(11, 0)]))]), ([(226, 17, 23), (226, 26, 26), (226, 29, 30), (233, 0, 399), (235, 0, 29699), (236, 0, 299), (237, 0, 299)], []), [(.inr (some (.inl (ck_one 0))), 245, ([], [], [])), (.inr (some (.inl (ck_one 1))), 245, ([], [], [(226, 29, 29, (0, 299, [])), (227, 257, 257, ck_one (-1)), (227, 252, 252, (0, 7, []))]))])
set_option maxRecDepth 100000 in
theorem q_p2_s1038_e : ck_ok qR_O none [] [(303, [p2_s1036]), (301, [p2_s1037]), (304, [q_p2_s381]), (266, [p2_s190])] 302 [] 114 q_p2_s1038 = true := by decide +kernel
theorem q_p2_s1038_s : ck_Ok qR_O X LX 302 q_p2_s1038 := ck_ok_s ⟨qR_nmu, (ck_E1 (ck_S1 qRl_p2_s1036 ck_S0) (ck_E1 (ck_S1 qRl_p2_s1037 ck_S0) (ck_E1 (ck_S1 q_p2_s381_s ck_S0) (ck_E1 (ck_S1 qRl_p2_s190 ck_S0) ck_E0))))⟩ ck_X0 ck_l0 q_p2_s1038_e
theorem qRl_p2_s1047 : ck_Ok qR_O X LX 303 p2_s1047 := qR_l p2_s1047_s (by decide +kernel)
theorem qRl_p2_s1048 : ck_Ok qR_O X LX 301 p2_s1048 := qR_l p2_s1048_s (by decide +kernel)
def q_p2_s1049 : ck_Sum := ((24, 0, 0), 245, [.inr (.inr (.inl 226)), .inl (ck_one 20)], ([], [], [(227, 2, 2, (0, 8, [(20, 0)])), (227, 5, 5, (0, 8, [(23, 0)])), (227, 9, 9, (0, 299, [(11, 0)]))]), ([(226, 17, 23), (226, 26, 26), (226, 29, 30), (233, 0, 399), (235, 0, 29699), (236, 0, 299), (237, 0, 299)], []), [(.inr (some (.inl (ck_one 0))), 245, ([], [], [])), (.inr (some (.inl (ck_one 1))), 245, ([], [], [(226, 29, 29, (0, 299, [])), (227, 264, 264, ck_one (-1)), (227, 259, 259, (0, 7, []))]))])
set_option maxRecDepth 100000 in
theorem q_p2_s1049_e : ck_ok qR_O none [] [(303, [p2_s1047]), (301, [p2_s1048]), (304, [q_p2_s381]), (266, [p2_s190])] 302 [] 114 q_p2_s1049 = true := by decide +kernel
theorem q_p2_s1049_s : ck_Ok qR_O X LX 302 q_p2_s1049 := ck_ok_s ⟨qR_nmu, (ck_E1 (ck_S1 qRl_p2_s1047 ck_S0) (ck_E1 (ck_S1 qRl_p2_s1048 ck_S0) (ck_E1 (ck_S1 q_p2_s381_s ck_S0) (ck_E1 (ck_S1 qRl_p2_s190 ck_S0) ck_E0))))⟩ ck_X0 ck_l0 q_p2_s1049_e
theorem qRl_p2_s1058 : ck_Ok qR_O X LX 303 p2_s1058 := qR_l p2_s1058_s (by decide +kernel)
theorem qRl_p2_s1059 : ck_Ok qR_O X LX 301 p2_s1059 := qR_l p2_s1059_s (by decide +kernel)
def q_p2_s1060 : ck_Sum := ((24, 0, 0), 245, [.inr (.inr (.inl 226)), .inl (ck_one 21)], ([], [], [(227, 2, 2, (0, 8, [(20, 0)])), (227, 5, 5, (0, 8, [(23, 0)])), (227, 9, 9, (0, 299, [(11, 0)]))]), ([(226, 17, 23), (226, 26, 26), (226, 29, 30), (233, 0, 399), (235, 0, 29699), (236, 0, 299), (237, 0, 299)], []), [(.inr (some (.inl (ck_one 0))), 245, ([], [], [])), (.inr (some (.inl (ck_one 1))), 245, ([], [], [(226, 29, 29, (0, 299, [])), (227, 271, 271, ck_one (-1)), (227, 266, 266, (0, 7, []))]))])
set_option maxRecDepth 100000 in
theorem q_p2_s1060_e : ck_ok qR_O none [] [(303, [p2_s1058]), (301, [p2_s1059]), (304, [q_p2_s381]), (266, [p2_s190])] 302 [] 114 q_p2_s1060 = true := by decide +kernel
theorem q_p2_s1060_s : ck_Ok qR_O X LX 302 q_p2_s1060 := ck_ok_s ⟨qR_nmu, (ck_E1 (ck_S1 qRl_p2_s1058 ck_S0) (ck_E1 (ck_S1 qRl_p2_s1059 ck_S0) (ck_E1 (ck_S1 q_p2_s381_s ck_S0) (ck_E1 (ck_S1 qRl_p2_s190 ck_S0) ck_E0))))⟩ ck_X0 ck_l0 q_p2_s1060_e
theorem qRl_p2_s1069 : ck_Ok qR_O X LX 303 p2_s1069 := qR_l p2_s1069_s (by decide +kernel)
theorem qRl_p2_s1070 : ck_Ok qR_O X LX 301 p2_s1070 := qR_l p2_s1070_s (by decide +kernel)
def q_p2_s1071 : ck_Sum := ((24, 0, 0), 245, [.inr (.inr (.inl 226)), .inl (ck_one 22)], ([], [], [(227, 2, 2, (0, 8, [(20, 0)])), (227, 5, 5, (0, 8, [(23, 0)])), (227, 9, 9, (0, 299, [(11, 0)]))]), ([(226, 17, 23), (226, 26, 26), (226, 29, 30), (233, 0, 399), (235, 0, 29699), (236, 0, 299), (237, 0, 299)], []), [(.inr (some (.inl (ck_one 0))), 245, ([], [], [])), (.inr (some (.inl (ck_one 1))), 245, ([], [], [(226, 29, 29, (0, 299, [])), (227, 278, 278, ck_one (-1)), (227, 273, 273, (0, 7, []))]))])
set_option maxRecDepth 100000 in
theorem q_p2_s1071_e : ck_ok qR_O none [] [(303, [p2_s1069]), (301, [p2_s1070]), (304, [q_p2_s381]), (266, [p2_s190])] 302 [] 114 q_p2_s1071 = true := by decide +kernel
theorem q_p2_s1071_s : ck_Ok qR_O X LX 302 q_p2_s1071 := ck_ok_s ⟨qR_nmu, (ck_E1 (ck_S1 qRl_p2_s1069 ck_S0) (ck_E1 (ck_S1 qRl_p2_s1070 ck_S0) (ck_E1 (ck_S1 q_p2_s381_s ck_S0) (ck_E1 (ck_S1 qRl_p2_s190 ck_S0) ck_E0))))⟩ ck_X0 ck_l0 q_p2_s1071_e
theorem qRl_p2_s1080 : ck_Ok qR_O X LX 303 p2_s1080 := qR_l p2_s1080_s (by decide +kernel)
theorem qRl_p2_s1081 : ck_Ok qR_O X LX 301 p2_s1081 := qR_l p2_s1081_s (by decide +kernel)
def q_p2_s1082 : ck_Sum := ((24, 0, 0), 245, [.inr (.inr (.inl 226)), .inl (ck_one 23)], ([], [], [(227, 2, 2, (0, 8, [(20, 0)])), (227, 5, 5, (0, 8, [(23, 0)])), (227, 9, 9, (0, 299, [(11, 0)]))]), ([(226, 17, 23), (226, 26, 26), (226, 29, 30), (233, 0, 399), (235, 0, 29699), (236, 0, 299), (237, 0, 299)], []), [(.inr (some (.inl (ck_one 0))), 245, ([], [], [])), (.inr (some (.inl (ck_one 1))), 245, ([], [], [(226, 29, 29, (0, 299, [])), (227, 285, 285, ck_one (-1)), (227, 280, 280, (0, 7, []))]))])
set_option maxRecDepth 100000 in
theorem q_p2_s1082_e : ck_ok qR_O none [] [(303, [p2_s1080]), (301, [p2_s1081]), (304, [q_p2_s381]), (266, [p2_s190])] 302 [] 114 q_p2_s1082 = true := by decide +kernel
theorem q_p2_s1082_s : ck_Ok qR_O X LX 302 q_p2_s1082 := ck_ok_s ⟨qR_nmu, (ck_E1 (ck_S1 qRl_p2_s1080 ck_S0) (ck_E1 (ck_S1 qRl_p2_s1081 ck_S0) (ck_E1 (ck_S1 q_p2_s381_s ck_S0) (ck_E1 (ck_S1 qRl_p2_s190 ck_S0) ck_E0))))⟩ ck_X0 ck_l0 q_p2_s1082_e
def q_p2_s1326 : ck_Sum := ((22, 0, 0), 245, [.inr (.inr (.inl 226)), .inl (0, 6, []), .inl (0, 98, []), .inl (0, 299, [])], ([], [], [(227, 2, 2, (0, 8, [(20, 0)])), (227, 5, 5, (0, 8, [(23, 0)]))]), ([(226, 17, 23), (226, 26, 26), (226, 29, 30), (233, 0, 399), (235, 0, 29699), (236, 0, 299), (237, 0, 299)], []), [(.inr (some (.inl (ck_one (-1)))), 245, ([], [], [(226, 29, 29, ck_one (-1))])), (.inr (some (.inl (0, 299, []))), 245, ([], [], [(226, 29, 29, (0, 299, []))]))])
set_option maxRecDepth 100000 in
theorem q_p2_s1326_e : ck_ok qR_O none [] [(306, [q_p2_s379])] 325 [] 90 q_p2_s1326 = true := by decide +kernel
theorem q_p2_s1326_s : ck_Ok qR_O X LX 325 q_p2_s1326 := ck_ok_s ⟨qR_nmu, (ck_E1 (ck_S1 q_p2_s379_s ck_S0) ck_E0)⟩ ck_X0 ck_l0 q_p2_s1326_e
theorem qRl_p2_s552 : ck_Ok qR_O X LX 282 p2_s552 := qR_l p2_s552_s (by decide +kernel)
theorem qRl_p2_s551 : ck_Ok qR_O X LX 282 p2_s551 := qR_l p2_s551_s (by decide +kernel)
theorem qRl_p2_s1325 : ck_Ok qR_O X LX 286 p2_s1325 := qR_l p2_s1325_s (by decide +kernel)
def q_p2_s1327 : ck_Sum := ((23, 0, 0), 245, [.inr (.inr (.inl 226)), .inl (0, 5, []), .inl (0, 299, []), .inl (0, 299, []), .inl (0, 9, [])], ([], [], [(227, 2, 2, (0, 8, [(20, 0)])), (227, 5, 5, (0, 8, [(23, 0)])), (227, 9, 9, (0, 299, [(11, 0)]))]), ([(226, 0, 0), (226, 17, 23), (226, 26, 26), (226, 29, 30), (233, 0, 399), (235, 0, 29699), (236, 0, 299), (237, 0, 299)], []), [(.inr (some (.inl (ck_one 0))), 245, ([], [], [(226, 0, 0, (1, 3, []))])), (.inr (some (.inl ((-2147483648), 2147483647, []))), 245, ([], [], [(226, 0, 0, ck_one 0)]))])
set_option maxRecDepth 100000 in
theorem q_p2_s1327_e : ck_ok qR_O none [] [(288, [p2_s290]), (282, [p2_s241, p2_s242, p2_s243, p2_s552, p2_s551, p2_s244]), (285, [p2_s263]), (266, [p2_s190]), (286, [p2_s1325]), (259, [p2_s180]), (325, [q_p2_s1326])] 324 [(90, [some (.inr (.inr (.inl 226))), some (.inl (0, 5, [])), some (.inl (0, 299, [])), some (.inl (0, 299, [])), some (.inl (0, 9, [])), some (.inl ((-2147483648), 2147483647, [])), some (.inl ((-1), 167, [])), some (.inl ((-1), 167, [])), some (.inl (0, 167, []))], ([], [], [(226, 0, 0, ck_one 0), (227, 2, 2, (0, 8, [(20, 0)])), (227, 5, 5, (0, 8, [(23, 0)])), (227, 9, 9, (0, 299, [(11, 0)]))]), 100, .inl 8, true)] 266 q_p2_s1327 = true := by decide +kernel
theorem q_p2_s1327_s : ck_Ok qR_O X LX 324 q_p2_s1327 := ck_ok_s ⟨qR_nmu, (ck_E1 (ck_S1 qRl_p2_s290 ck_S0) (ck_E1 (ck_S1 qRl_p2_s241 (ck_S1 qRl_p2_s242 (ck_S1 qRl_p2_s243 (ck_S1 qRl_p2_s552 (ck_S1 qRl_p2_s551 (ck_S1 qRl_p2_s244 ck_S0)))))) (ck_E1 (ck_S1 qRl_p2_s263 ck_S0) (ck_E1 (ck_S1 qRl_p2_s190 ck_S0) (ck_E1 (ck_S1 qRl_p2_s1325 ck_S0) (ck_E1 (ck_S1 qRl_p2_s180 ck_S0) (ck_E1 (ck_S1 q_p2_s1326_s ck_S0) ck_E0)))))))⟩ ck_X0 ck_l0 q_p2_s1327_e
theorem qRl_p2_s554 : ck_Ok qR_O X LX 299 p2_s554 := qR_l p2_s554_s (by decide +kernel)
theorem qRl_p2_s555 : ck_Ok qR_O X LX 299 p2_s555 := qR_l p2_s555_s (by decide +kernel)
def q_p2_s1338 : ck_Sum := ((23, 0, 0), 245, [.inr (.inr (.inl 226)), .inl (0, 7, []), .inl (0, 299, [])], ([], [], [(227, 2, 2, (0, 8, [(20, 0)])), (227, 3, 3, (0, 8, [(21, 0)])), (227, 5, 5, (0, 8, [(23, 0)])), (227, 9, 9, (0, 299, [(11, 0)]))]), ([(226, 0, 0), (226, 17, 23), (226, 26, 26), (226, 29, 30), (233, 0, 399), (235, 0, 29699), (236, 0, 299), (237, 0, 299)], []), [(.inr (some (.inl (0, 299, []))), 245, ([], [], [(226, 0, 0, (0, 1, []))])), (.inr (some (.inl (ck_one (-1)))), 245, ([], [], [(226, 0, 0, ck_one 0)]))])
set_option maxRecDepth 100000 in
theorem q_p2_s1338_e : ck_ok qR_O none [] [(298, [p2_s365]), (282, [p2_s241, p2_s242, p2_s243]), (285, [p2_s263]), (266, [p2_s190]), (299, [p2_s554, p2_s555]), (325, [q_p2_s1326])] 326 [(36, [some (.inr (.inr (.inl 226))), some (.inl (0, 7, [])), some (.inl (0, 299, [])), some (.inl ((-1), 299, [])), none], ([], [], [(226, 0, 0, ck_one 0), (227, 2, 2, (0, 8, [(20, 0)])), (227, 3, 3, (0, 8, [(21, 0)])), (227, 5, 5, (0, 8, [(23, 0)])), (227, 9, 9, (0, 299, [(11, 0)]))]), 100, .inl 3, false)] 186 q_p2_s1338 = true := by decide +kernel
theorem q_p2_s1338_s : ck_Ok qR_O X LX 326 q_p2_s1338 := ck_ok_s ⟨qR_nmu, (ck_E1 (ck_S1 qRl_p2_s365 ck_S0) (ck_E1 (ck_S1 qRl_p2_s241 (ck_S1 qRl_p2_s242 (ck_S1 qRl_p2_s243 ck_S0))) (ck_E1 (ck_S1 qRl_p2_s263 ck_S0) (ck_E1 (ck_S1 qRl_p2_s190 ck_S0) (ck_E1 (ck_S1 qRl_p2_s554 (ck_S1 qRl_p2_s555 ck_S0)) (ck_E1 (ck_S1 q_p2_s1326_s ck_S0) ck_E0))))))⟩ ck_X0 ck_l0 q_p2_s1338_e
theorem qRl_p2_s1350 : ck_Ok qR_O X LX 286 p2_s1350 := qR_l p2_s1350_s (by decide +kernel)
def q_p2_s1351 : ck_Sum := ((23, 0, 0), 245, [.inr (.inr (.inl 226)), .inl (0, 5, []), .inl (0, 299, [])], ([], [], [(227, 2, 2, (0, 8, [(20, 0)])), (227, 5, 5, (0, 8, [(23, 0)])), (227, 9, 9, (0, 299, [(11, 0)]))]), ([(226, 0, 0), (226, 17, 23), (226, 26, 26), (226, 29, 30), (233, 0, 399), (235, 0, 29699), (236, 0, 299), (237, 0, 299)], []), [(.inr (some (.inl (0, 98, []))), 245, ([], [], [(226, 0, 0, (0, 2, []))])), (.inr (some (.inl (ck_one (-1)))), 245, ([], [], [(226, 0, 0, ck_one 0)]))])
set_option maxRecDepth 100000 in
theorem q_p2_s1351_e : ck_ok qR_O none [] [(288, [p2_s290]), (282, [p2_s241, p2_s242, p2_s244, p2_s243]), (286, [p2_s1350]), (259, [p2_s180]), (266, [p2_s190]), (325, [q_p2_s1326])] 327 [(46, [some (.inr (.inr (.inl 226))), some (.inl (0, 5, [])), some (.inl (0, 299, [])), some (.inl (0, 167, [])), none], ([], [], [(226, 0, 0, ck_one 0), (227, 2, 2, (0, 8, [(20, 0)])), (227, 5, 5, (0, 8, [(23, 0)])), (227, 9, 9, (0, 299, [(11, 0)]))]), 100, .inl 3, true)] 182 q_p2_s1351 = true := by decide +kernel
theorem q_p2_s1351_s : ck_Ok qR_O X LX 327 q_p2_s1351 := ck_ok_s ⟨qR_nmu, (ck_E1 (ck_S1 qRl_p2_s290 ck_S0) (ck_E1 (ck_S1 qRl_p2_s241 (ck_S1 qRl_p2_s242 (ck_S1 qRl_p2_s244 (ck_S1 qRl_p2_s243 ck_S0)))) (ck_E1 (ck_S1 qRl_p2_s1350 ck_S0) (ck_E1 (ck_S1 qRl_p2_s180 ck_S0) (ck_E1 (ck_S1 qRl_p2_s190 ck_S0) (ck_E1 (ck_S1 q_p2_s1326_s ck_S0) ck_E0))))))⟩ ck_X0 ck_l0 q_p2_s1351_e
theorem qRl_p2_s364 : ck_Ok qR_O X LX 286 p2_s364 := qR_l p2_s364_s (by decide +kernel)
def q_p2_s1362 : ck_Sum := ((23, 0, 0), 245, [.inr (.inr (.inl 226)), .inl (0, 23, []), .inl (0, 7, [])], ([], [], [(227, 2, 2, (0, 8, [(20, 0)])), (227, 4, 4, (0, 24, [(22, 0)])), (227, 5, 5, (0, 8, [(23, 0)]))]), ([(226, 0, 0), (226, 17, 23), (226, 26, 26), (226, 29, 30), (233, 0, 399), (235, 0, 29699), (236, 0, 299), (237, 0, 299)], []), [(.inr (some (.inl (0, 299, []))), 245, ([], [], [(226, 0, 0, (0, 1, []))])), (.inr (some (.inl (ck_one (-1)))), 245, ([], [], [(226, 29, 29, ck_one (-1)), (226, 0, 0, ck_one 0)]))])
set_option maxRecDepth 100000 in
theorem q_p2_s1362_e : ck_ok qR_O none [] [(309, [p2_s406]), (282, [p2_s241, p2_s242]), (286, [p2_s364]), (305, [q_p2_s380])] 328 [] 128 q_p2_s1362 = true := by decide +kernel
theorem q_p2_s1362_s : ck_Ok qR_O X LX 328 q_p2_s1362 := ck_ok_s ⟨qR_nmu, (ck_E1 (ck_S1 qRl_p2_s406 ck_S0) (ck_E1 (ck_S1 qRl_p2_s241 (ck_S1 qRl_p2_s242 ck_S0)) (ck_E1 (ck_S1 qRl_p2_s364 ck_S0) (ck_E1 (ck_S1 q_p2_s380_s ck_S0) ck_E0))))⟩ ck_X0 ck_l0 q_p2_s1362_e
def q_p2_s1368 : ck_Sum := ((23, 0, 0), 245, [.inr (.inr (.inl 226)), .inl (0, 23, [])], ([], [], [(227, 2, 2, (0, 8, [(20, 0)])), (227, 4, 4, (0, 24, [(22, 0)])), (227, 5, 5, (0, 8, [(23, 0)]))]), ([(226, 0, 0), (226, 17, 23), (226, 26, 26), (226, 29, 30), (233, 0, 399), (235, 0, 29699), (236, 0, 299), (237, 0, 299)], []), [(.inr (some (.inl (0, 2147483647, []))), 245, ([], [], [(226, 0, 0, (0, 1, []))])), (.inr (some (.inl ((-2147483648), (-1), []))), 245, ([], [], [(226, 30, 30, ((-2147483648), (-1), [])), (226, 0, 0, ck_one 0)]))])
set_option maxRecDepth 100000 in
theorem q_p2_s1368_e : ck_ok qR_O none [] [(309, [p2_s406]), (282, [p2_s241, p2_s242]), (305, [q_p2_s380])] 329 [] 104 q_p2_s1368 = true := by decide +kernel
theorem q_p2_s1368_s : ck_Ok qR_O X LX 329 q_p2_s1368 := ck_ok_s ⟨qR_nmu, (ck_E1 (ck_S1 qRl_p2_s406 ck_S0) (ck_E1 (ck_S1 qRl_p2_s241 (ck_S1 qRl_p2_s242 ck_S0)) (ck_E1 (ck_S1 q_p2_s380_s ck_S0) ck_E0)))⟩ ck_X0 ck_l0 q_p2_s1368_e
def q_p2_s1370 : ck_Sum := ((24, 0, 0), 245, [.inr (.inr (.inl 226))], ([], [], [(227, 2, 2, (0, 8, [(20, 0)])), (227, 4, 4, (0, 24, [(22, 0)])), (227, 5, 5, (0, 8, [(23, 0)]))]), ([(226, 0, 0), (226, 17, 23), (226, 26, 26), (226, 29, 30), (233, 0, 399), (235, 0, 29699), (236, 0, 299), (237, 0, 299)], []), [(.inr (some (.inl ((-2147483648), 2147483647, []))), 245, ([], [], [(226, 0, 0, ck_one 0)]))])
set_option maxRecDepth 100000 in
theorem q_p2_s1370_e : ck_ok qR_O none [] [(254, [p2_s176]), (304, [q_p2_s381])] 330 [(9, [some (.inr (.inr (.inl 226))), some (.inl ((-2147483648), 2147483647, [])), some (.inl (0, 24, []))], ([], [], [(226, 0, 0, ck_one 0), (227, 2, 2, (0, 8, [(20, 0)])), (227, 4, 4, (0, 24, [(22, 0)])), (227, 5, 5, (0, 8, [(23, 0)]))]), 100, .inl 2, true)] 162 q_p2_s1370 = true := by decide +kernel
theorem q_p2_s1370_s : ck_Ok qR_O X LX 330 q_p2_s1370 := ck_ok_s ⟨qR_nmu, (ck_E1 (ck_S1 qRl_p2_s176 ck_S0) (ck_E1 (ck_S1 q_p2_s381_s ck_S0) ck_E0))⟩ ck_X0 ck_l0 q_p2_s1370_e
def q_p2_s1373 : ck_Sum := ((24, 0, 0), 245, [.inr (.inr (.inl 226))], ([], [], [(227, 2, 2, (0, 8, [(20, 0)])), (227, 4, 4, (0, 24, [(22, 0)])), (227, 5, 5, (0, 8, [(23, 0)]))]), ([(226, 17, 23), (226, 26, 26), (226, 29, 30), (233, 0, 399), (235, 0, 29699), (236, 0, 299), (237, 0, 299), (238, 0, 23)], []), [(.inr none, 245, ([], [], []))])
set_option maxRecDepth 100000 in
theorem q_p2_s1373_e : ck_ok qR_O none [] [(254, [p2_s176]), (304, [q_p2_s381])] 332 [(2, [some (.inr (.inr (.inl 226))), some (.inl (0, 24, []))], ([], [], [(227, 2, 2, (0, 8, [(20, 0)])), (227, 4, 4, (0, 24, [(22, 0)])), (227, 5, 5, (0, 8, [(23, 0)]))]), 100, .inl 1, true)] 146 q_p2_s1373 = true := by decide +kernel
theorem q_p2_s1373_s : ck_Ok qR_O X LX 332 q_p2_s1373 := ck_ok_s ⟨qR_nmu, (ck_E1 (ck_S1 qRl_p2_s176 ck_S0) (ck_E1 (ck_S1 q_p2_s381_s ck_S0) ck_E0))⟩ ck_X0 ck_l0 q_p2_s1373_e
theorem qRl_p2_s1374 : ck_Ok qR_O X LX 333 p2_s1374 := qR_l p2_s1374_s (by decide +kernel)
def q_p2_s1375 : ck_Sum := ((25, 0, 0), 245, [.inr (.inr (.inl 226)), .inl (0, 1, [])], ([], [], [(227, 2, 2, (0, 8, [(20, 0)])), (227, 4, 4, (0, 24, [(22, 0)])), (227, 5, 5, (0, 8, [(23, 0)]))]), ([(226, 0, 0), (226, 17, 23), (226, 26, 26), (226, 29, 30), (233, 0, 399), (235, 0, 29699), (236, 0, 299), (237, 0, 299), (238, 0, 23)], []), [(.inr (some (.inl ((-1), 299, []))), 245, ([], [], [(226, 0, 0, ck_one 0)])), (.inr (some (.inl (0, 2147483647, []))), 245, ([], [], [(226, 0, 0, ck_one 0)]))])
set_option maxRecDepth 100000 in
theorem q_p2_s1375_e : ck_ok qR_O none [] [(332, [q_p2_s1373]), (333, [p2_s1374])] 331 [(16, [some (.inr (.inr (.inl 226))), some (.inl (0, 1, [])), some (.inl ((-1), 299, [])), some (.inl (0, 2147483647, [])), some (.inl (0, 300, [])), none], ([], [], [(226, 0, 0, ck_one 0), (227, 2, 2, (0, 8, [(20, 0)])), (227, 4, 4, (0, 24, [(22, 0)])), (227, 5, 5, (0, 8, [(23, 0)]))]), 100, .inl 4, true)] 166 q_p2_s1375 = true := by decide +kernel
theorem q_p2_s1375_s : ck_Ok qR_O X LX 331 q_p2_s1375 := ck_ok_s ⟨qR_nmu, (ck_E1 (ck_S1 q_p2_s1373_s ck_S0) (ck_E1 (ck_S1 qRl_p2_s1374 ck_S0) ck_E0))⟩ ck_X0 ck_l0 q_p2_s1375_e
theorem qRl_p2_s1394 : ck_Ok qR_O X LX 335 p2_s1394 := qR_l p2_s1394_s (by decide +kernel)
theorem qRl_p2_s1397 : ck_Ok qR_O X LX 336 p2_s1397 := qR_l p2_s1397_s (by decide +kernel)
def q_p2_s1398 : ck_Sum := ((23, 0, 0), 245, [.inr (.inr (.inl 226)), .inl (0, 23, [])], ([], [], [(227, 2, 2, (0, 8, [(20, 0)])), (227, 4, 4, (0, 24, [(22, 0)])), (227, 5, 5, (0, 8, [(23, 0)]))]), ([(226, 0, 0), (226, 17, 23), (226, 26, 26), (226, 29, 30), (233, 0, 399), (235, 0, 29699), (236, 0, 299), (237, 0, 299), (239, 0, 299)], []), [(.inr (some (.inl (ck_one 0))), 245, ([], [], [(226, 0, 0, ck_one 1)])), (.inr (some (.inl ((-2147483648), 2147483647, []))), 245, ([], [], [(226, 0, 0, ck_one 0)]))])
set_option maxRecDepth 100000 in
theorem q_p2_s1398_e : ck_ok qR_O none [] [(309, [p2_s406]), (282, [p2_s241, p2_s242]), (305, [q_p2_s380]), (335, [p2_s1394]), (254, [p2_s176]), (301, [p2_s375, p2_s377]), (336, [p2_s1397])] 334 [(34, [some (.inr (.inr (.inl 226))), some (.inl (0, 23, [])), some (.inl ((-2147483648), 2147483647, [])), some (.inl (0, 24, []))], ([], [], [(226, 0, 0, ck_one 0), (227, 2, 2, (0, 8, [(20, 0)])), (227, 4, 4, (0, 24, [(22, 0)])), (227, 5, 5, (0, 8, [(23, 0)]))]), 100, .inl 3, true)] 250 q_p2_s1398 = true := by decide +kernel
theorem q_p2_s1398_s : ck_Ok qR_O X LX 334 q_p2_s1398 := ck_ok_s ⟨qR_nmu, (ck_E1 (ck_S1 qRl_p2_s406 ck_S0) (ck_E1 (ck_S1 qRl_p2_s241 (ck_S1 qRl_p2_s242 ck_S0)) (ck_E1 (ck_S1 q_p2_s380_s ck_S0) (ck_E1 (ck_S1 qRl_p2_s1394 ck_S0) (ck_E1 (ck_S1 qRl_p2_s176 ck_S0) (ck_E1 (ck_S1 qRl_p2_s375 (ck_S1 qRl_p2_s377 ck_S0)) (ck_E1 (ck_S1 qRl_p2_s1397 ck_S0) ck_E0)))))))⟩ ck_X0 ck_l0 q_p2_s1398_e
def q_p2_s1421 : ck_Sum := ((23, 0, 0), 245, [.inr (.inr (.inl 226)), .inl (0, 7, []), .inl (0, 5, []), .inl (0, 299, []), .inl (0, 99, [])], ([], [], [(227, 2, 2, (0, 8, [(20, 0)])), (227, 5, 5, (0, 8, [(23, 0)]))]), ([(226, 17, 23), (226, 26, 26), (226, 29, 30), (233, 0, 399), (235, 0, 29699), (236, 0, 299), (237, 0, 299)], []), [(.inr (some (.inl (ck_one (-1)))), 245, ([], [], [])), (.inr (some (.inl (0, 298, []))), 245, ([], [], [(226, 29, 29, (0, 299, []))]))])
set_option maxRecDepth 100000 in
theorem q_p2_s1421_e : ck_ok qR_O none [] [(299, [p2_s554, p2_s555]), (325, [q_p2_s1326])] 339 [(5, [some (.inr (.inr (.inl 226))), some (.inl (0, 7, [])), some (.inl (0, 5, [])), some (.inl (0, 299, [])), some (.inl (0, 99, [])), some (.inl ((-1), 298, []))], ([], [], [(227, 2, 2, (0, 8, [(20, 0)])), (227, 5, 5, (0, 8, [(23, 0)]))]), 100, .inl 5, false)] 198 q_p2_s1421 = true := by decide +kernel
theorem q_p2_s1421_s : ck_Ok qR_O X LX 339 q_p2_s1421 := ck_ok_s ⟨qR_nmu, (ck_E1 (ck_S1 qRl_p2_s554 (ck_S1 qRl_p2_s555 ck_S0)) (ck_E1 (ck_S1 q_p2_s1326_s ck_S0) ck_E0))⟩ ck_X0 ck_l0 q_p2_s1421_e
theorem qRl_p2_s1420 : ck_Ok qR_O X LX 286 p2_s1420 := qR_l p2_s1420_s (by decide +kernel)
theorem qRl_p2_s186 : ck_Ok qR_O X LX 253 p2_s186 := qR_l p2_s186_s (by decide +kernel)
def q_p2_s1422 : ck_Sum := ((24, 0, 0), 245, [.inr (.inr (.inl 226)), .inl (0, 5, []), .inl (0, 299, []), .inl (0, 99, [])], ([], [], [(227, 2, 2, (0, 8, [(20, 0)])), (227, 3, 3, (0, 8, [(21, 0)])), (227, 5, 5, (0, 8, [(23, 0)]))]), ([(226, 0, 0), (226, 17, 23), (226, 26, 26), (226, 29, 30), (233, 0, 399), (235, 0, 29699), (236, 0, 299), (237, 0, 299)], []), [(.inr (some (.inl (ck_one 0))), 245, ([], [], [(226, 0, 0, ck_one 1)])), (.inr (some (.inl ((-2147483648), 2147483647, []))), 245, ([], [], [(226, 0, 0, ck_one 0)]))])
set_option maxRecDepth 100000 in
theorem q_p2_s1422_e : ck_ok qR_O none [] [(288, [p2_s290]), (282, [p2_s241, p2_s242, p2_s243]), (285, [p2_s263]), (286, [p2_s1420]), (253, [p2_s186]), (339, [q_p2_s1421])] 338 [(56, [some (.inr (.inr (.inl 226))), some (.inl (0, 5, [])), some (.inl (0, 299, [])), some (.inl (0, 99, [])), some (.inl ((-2147483648), 2147483647, [])), some (.inl (0, 8, []))], ([], [], [(226, 0, 0, ck_one 0), (227, 2, 2, (0, 8, [(20, 0)])), (227, 3, 3, (0, 8, [(21, 0)])), (227, 5, 5, (0, 8, [(23, 0)]))]), 100, .inl 5, true)] 202 q_p2_s1422 = true := by decide +kernel
theorem q_p2_s1422_s : ck_Ok qR_O X LX 338 q_p2_s1422 := ck_ok_s ⟨qR_nmu, (ck_E1 (ck_S1 qRl_p2_s290 ck_S0) (ck_E1 (ck_S1 qRl_p2_s241 (ck_S1 qRl_p2_s242 (ck_S1 qRl_p2_s243 ck_S0))) (ck_E1 (ck_S1 qRl_p2_s263 ck_S0) (ck_E1 (ck_S1 qRl_p2_s1420 ck_S0) (ck_E1 (ck_S1 qRl_p2_s186 ck_S0) (ck_E1 (ck_S1 q_p2_s1421_s ck_S0) ck_E0))))))⟩ ck_X0 ck_l0 q_p2_s1422_e
def q_p2_s1440 : ck_Sum := ((24, 0, 0), 245, [.inr (.inr (.inl 226)), .inl (0, 7, []), .inl (0, 5, []), .inl (0, 299, []), .inl (0, 99, [])], ([], [], [(227, 2, 2, (0, 8, [(20, 0)])), (227, 3, 3, (0, 8, [(21, 0)])), (227, 5, 5, (0, 8, [(23, 0)]))]), ([(226, 0, 0), (226, 17, 23), (226, 26, 26), (226, 29, 30), (233, 0, 399), (235, 0, 29699), (236, 0, 299), (237, 0, 299)], []), [(.inr (some (.inl (0, 298, []))), 245, ([], [], [(226, 0, 0, (0, 1, []))])), (.inr (some (.inl (ck_one (-1)))), 245, ([], [], [(226, 0, 0, ck_one 0)]))])
set_option maxRecDepth 100000 in
theorem q_p2_s1440_e : ck_ok qR_O none [] [(298, [p2_s365]), (282, [p2_s241, p2_s242, p2_s243]), (288, [p2_s290]), (285, [p2_s263]), (286, [p2_s1420]), (339, [q_p2_s1421])] 340 [] 142 q_p2_s1440 = true := by decide +kernel
theorem q_p2_s1440_s : ck_Ok qR_O X LX 340 q_p2_s1440 := ck_ok_s ⟨qR_nmu, (ck_E1 (ck_S1 qRl_p2_s365 ck_S0) (ck_E1 (ck_S1 qRl_p2_s241 (ck_S1 qRl_p2_s242 (ck_S1 qRl_p2_s243 ck_S0))) (ck_E1 (ck_S1 qRl_p2_s290 ck_S0) (ck_E1 (ck_S1 qRl_p2_s263 ck_S0) (ck_E1 (ck_S1 qRl_p2_s1420 ck_S0) (ck_E1 (ck_S1 q_p2_s1421_s ck_S0) ck_E0))))))⟩ ck_X0 ck_l0 q_p2_s1440_e
theorem qRl_p2_s1511 : ck_Ok qR_O X LX 351 p2_s1511 := qR_l p2_s1511_s (by decide +kernel)
theorem qRl_p2_s1512 : ck_Ok qR_O X LX 352 p2_s1512 := qR_l p2_s1512_s (by decide +kernel)
def q_p2_s1513 : ck_Sum := ((23, 0, 0), 245, [.inr (.inr (.inl 226)), .inl (0, 7, [])], ([], [], [(227, 2, 2, (0, 8, [(20, 0)])), (227, 3, 3, (0, 8, [(21, 0)])), (227, 5, 5, (0, 8, [(23, 0)])), (227, 9, 9, (0, 299, [(11, 0)]))]), ([(226, 17, 23), (226, 26, 26), (226, 29, 30), (233, 0, 399), (235, 0, 29699), (236, 0, 299), (237, 0, 299), (240, 0, 2407), (241, 0, 2407), (242, 0, 2407)], []), [(.inr none, 245, ([], [], []))])
set_option maxRecDepth 100000 in
theorem q_p2_s1513_e : ck_ok qR_O none [] [(266, [p2_s190]), (351, [p2_s1511]), (253, [p2_s186]), (299, [p2_s554, p2_s555]), (325, [q_p2_s1326]), (352, [p2_s1512])] 350 [(2, [some (.inr (.inr (.inl 226))), some (.inl (0, 7, [])), some (.inl (0, 2408, [])), none, none, none, none], ([], [], [(227, 2, 2, (0, 8, [(20, 0)])), (227, 3, 3, (0, 8, [(21, 0)])), (227, 5, 5, (0, 8, [(23, 0)])), (227, 9, 9, (0, 299, [(11, 0)]))]), 100, .inl 2, true), (61, [some (.inr (.inr (.inl 226))), some (.inl (0, 7, [])), some (.inl (0, 300, [])), none, none, none, none], ([], [], [(227, 2, 2, (0, 8, [(20, 0)])), (227, 3, 3, (0, 8, [(21, 0)])), (227, 5, 5, (0, 8, [(23, 0)])), (227, 9, 9, (0, 299, [(11, 0)]))]), 300, .inl 2, true), (70, [some (.inr (.inr (.inl 226))), some (.inl (0, 7, [])), some (.inl (0, 299, [(300, 0)])), some (.inl (0, 8, [])), none, none, none], ([], [], [(227, 2, 2, (0, 8, [(20, 0)])), (227, 3, 3, (0, 8, [(21, 0)])), (227, 5, 5, (0, 8, [(23, 0)])), (227, 9, 9, (0, 299, [(11, 0)]))]), 500, .inl 3, true), (135, [some (.inr (.inr (.inl 226))), some (.inl (0, 7, [])), some (.inl (0, 299, [(300, 0)])), some (.inl (0, 7, [(500, 0)])), some (.inl (0, 999, [])), some (.inl ((-1), 299, [])), some (.inl (0, 8, []))], ([], [], [(226, 29, 29, ((-1), 299, [])), (227, 2, 2, (0, 8, [(20, 0)])), (227, 3, 3, (1, 8, [(21, 0)])), (227, 5, 5, (0, 8, [(23, 0)])), (227, 9, 9, (0, 299, [(11, 0)]))]), 700, .inl 6, true)] 630 q_p2_s1513 = true := by decide +kernel
theorem q_p2_s1513_s : ck_Ok qR_O X LX 350 q_p2_s1513 := ck_ok_s ⟨qR_nmu, (ck_E1 (ck_S1 qRl_p2_s190 ck_S0) (ck_E1 (ck_S1 qRl_p2_s1511 ck_S0) (ck_E1 (ck_S1 qRl_p2_s186 ck_S0) (ck_E1 (ck_S1 qRl_p2_s554 (ck_S1 qRl_p2_s555 ck_S0)) (ck_E1 (ck_S1 q_p2_s1326_s ck_S0) (ck_E1 (ck_S1 qRl_p2_s1512 ck_S0) ck_E0))))))⟩ ck_X0 ck_l0 q_p2_s1513_e
theorem qRl_p2_s1514 : ck_Ok qR_O X LX 353 p2_s1514 := qR_l p2_s1514_s (by decide +kernel)
def q_p2_s1515 : ck_Sum := ((24, 0, 0), 245, [.inr (.inr (.inl 226)), .inl (0, 7, []), .inl (0, 7, []), .inl (0, 1, [])], ([], [], [(227, 2, 2, (0, 8, [(20, 0)])), (227, 3, 3, (0, 8, [(21, 0)])), (227, 5, 5, (0, 8, [(23, 0)])), (227, 9, 9, (0, 299, [(11, 0)]))]), ([(226, 0, 0), (226, 17, 23), (226, 26, 26), (226, 29, 30), (233, 0, 399), (235, 0, 29699), (236, 0, 299), (237, 0, 299), (240, 0, 2407), (241, 0, 2407), (242, 0, 2407)], []), [(.inr (some (.inl (0, 1000, []))), 245, ([], [], [(226, 0, 0, (0, 2, []))])), (.inr (some (.inl (ck_one (-1)))), 245, ([], [], [(226, 0, 0, ck_one 0)]))])
set_option maxRecDepth 100000 in
theorem q_p2_s1515_e : ck_ok qR_O none [] [(298, [p2_s365]), (282, [p2_s241, p2_s242, p2_s243, p2_s244]), (350, [q_p2_s1513]), (353, [p2_s1514]), (351, [p2_s1511])] 349 [] 154 q_p2_s1515 = true := by decide +kernel
theorem q_p2_s1515_s : ck_Ok qR_O X LX 349 q_p2_s1515 := ck_ok_s ⟨qR_nmu, (ck_E1 (ck_S1 qRl_p2_s365 ck_S0) (ck_E1 (ck_S1 qRl_p2_s241 (ck_S1 qRl_p2_s242 (ck_S1 qRl_p2_s243 (ck_S1 qRl_p2_s244 ck_S0)))) (ck_E1 (ck_S1 q_p2_s1513_s ck_S0) (ck_E1 (ck_S1 qRl_p2_s1514 ck_S0) (ck_E1 (ck_S1 qRl_p2_s1511 ck_S0) ck_E0)))))⟩ ck_X0 ck_l0 q_p2_s1515_e
theorem qRl_p2_s1535 : ck_Ok qR_O X LX 355 p2_s1535 := qR_l p2_s1535_s (by decide +kernel)
def q_p2_s1536 : ck_Sum := ((24, 0, 0), 245, [.inr (.inr (.inl 226)), .inl (0, 7, []), .inl (0, 7, []), .inl ((-2147483648), 0, [])], ([], [], [(227, 2, 2, (0, 8, [(20, 0)])), (227, 3, 3, (0, 8, [(21, 0)])), (227, 5, 5, (0, 8, [(23, 0)])), (227, 9, 9, (0, 299, [(11, 0)]))]), ([(226, 0, 0), (226, 17, 23), (226, 26, 26), (226, 29, 30), (226, 36, 36), (233, 0, 399), (235, 0, 29699), (236, 0, 299), (237, 0, 299), (240, 0, 2407), (241, 0, 2407), (242, 0, 2407)], []), [(.inr (some (.inl (ck_one 0))), 245, ([], [], [(226, 0, 0, (1, 2, []))])), (.inr (some (.inl ((-1), 7, []))), 245, ([], [], [(226, 0, 0, ck_one 0)]))])
set_option maxRecDepth 100000 in
theorem q_p2_s1536_e : ck_ok qR_O none [] [(298, [p2_s365]), (282, [p2_s241, p2_s242, p2_s244, p2_s243]), (350, [q_p2_s1513]), (353, [p2_s1514]), (351, [p2_s1511]), (355, [p2_s1535])] 354 [(108, [some (.inr (.inr (.inl 226))), some (.inl (0, 7, [])), some (.inl (0, 7, [])), some (.inl (ck_one 0)), some (.inl ((-1), 299, [])), some (.inl ((-1), 7, [])), some (.inl (0, 1000, []))], ([], [], [(226, 0, 0, ck_one 0), (227, 2, 2, (0, 8, [(20, 0)])), (227, 3, 3, (0, 8, [(21, 0)])), (227, 5, 5, (0, 8, [(23, 0)])), (227, 9, 9, (0, 299, [(11, 0)]))]), 100, .inl 6, false)] 302 q_p2_s1536 = true := by decide +kernel
theorem q_p2_s1536_s : ck_Ok qR_O X LX 354 q_p2_s1536 := ck_ok_s ⟨qR_nmu, (ck_E1 (ck_S1 qRl_p2_s365 ck_S0) (ck_E1 (ck_S1 qRl_p2_s241 (ck_S1 qRl_p2_s242 (ck_S1 qRl_p2_s244 (ck_S1 qRl_p2_s243 ck_S0)))) (ck_E1 (ck_S1 q_p2_s1513_s ck_S0) (ck_E1 (ck_S1 qRl_p2_s1514 ck_S0) (ck_E1 (ck_S1 qRl_p2_s1511 ck_S0) (ck_E1 (ck_S1 qRl_p2_s1535 ck_S0) ck_E0))))))⟩ ck_X0 ck_l0 q_p2_s1536_e
theorem qRl_p2_s1537 : ck_Ok qR_O X LX 355 p2_s1537 := qR_l p2_s1537_s (by decide +kernel)
def q_p2_s1538 : ck_Sum := ((24, 0, 0), 245, [.inr (.inr (.inl 226)), .inl (0, 7, []), .inl (0, 7, []), .inl (51, 2147483647, [])], ([], [], [(227, 2, 2, (0, 8, [(20, 0)])), (227, 3, 3, (0, 8, [(21, 0)])), (227, 5, 5, (0, 8, [(23, 0)])), (227, 9, 9, (0, 299, [(11, 0)]))]), ([(226, 0, 0), (226, 17, 23), (226, 26, 26), (226, 29, 30), (226, 36, 36), (233, 0, 399), (235, 0, 29699), (236, 0, 299), (237, 0, 299), (240, 0, 2407), (241, 0, 2407), (242, 0, 2407)], []), [(.inr (some (.inl (ck_one 0))), 245, ([], [], [(226, 0, 0, (1, 2, []))])), (.inr (some (.inl ((-1), 7, []))), 245, ([], [], [(226, 0, 0, ck_one 0)]))])
set_option maxRecDepth 100000 in
theorem q_p2_s1538_e : ck_ok qR_O none [] [(298, [p2_s365]), (282, [p2_s241, p2_s242, p2_s244, p2_s243]), (350, [q_p2_s1513]), (353, [p2_s1514]), (351, [p2_s1511]), (355, [p2_s1537])] 354 [(108, [some (.inr (.inr (.inl 226))), some (.inl (0, 7, [])), some (.inl (0, 7, [])), some (.inl (51, 1000, [])), some (.inl ((-1), 299, [])), some (.inl ((-1), 7, [])), some (.inl (0, 1000, []))], ([], [], [(226, 0, 0, ck_one 0), (227, 2, 2, (0, 8, [(20, 0)])), (227, 3, 3, (0, 8, [(21, 0)])), (227, 5, 5, (0, 8, [(23, 0)])), (227, 9, 9, (0, 299, [(11, 0)]))]), 100, .inl 6, false)] 302 q_p2_s1538 = true := by decide +kernel
theorem q_p2_s1538_s : ck_Ok qR_O X LX 354 q_p2_s1538 := ck_ok_s ⟨qR_nmu, (ck_E1 (ck_S1 qRl_p2_s365 ck_S0) (ck_E1 (ck_S1 qRl_p2_s241 (ck_S1 qRl_p2_s242 (ck_S1 qRl_p2_s244 (ck_S1 qRl_p2_s243 ck_S0)))) (ck_E1 (ck_S1 q_p2_s1513_s ck_S0) (ck_E1 (ck_S1 qRl_p2_s1514 ck_S0) (ck_E1 (ck_S1 qRl_p2_s1511 ck_S0) (ck_E1 (ck_S1 qRl_p2_s1537 ck_S0) ck_E0))))))⟩ ck_X0 ck_l0 q_p2_s1538_e
theorem qRl_p2_s1539 : ck_Ok qR_O X LX 355 p2_s1539 := qR_l p2_s1539_s (by decide +kernel)
def q_p2_s1540 : ck_Sum := ((24, 0, 0), 245, [.inr (.inr (.inl 226)), .inl (0, 7, []), .inl (0, 7, []), .inl (1, 50, [])], ([], [], [(227, 2, 2, (0, 8, [(20, 0)])), (227, 3, 3, (0, 8, [(21, 0)])), (227, 5, 5, (0, 8, [(23, 0)])), (227, 9, 9, (0, 299, [(11, 0)]))]), ([(226, 0, 0), (226, 17, 23), (226, 26, 26), (226, 29, 30), (226, 36, 36), (233, 0, 399), (235, 0, 29699), (236, 0, 299), (237, 0, 299), (240, 0, 2407), (241, 0, 2407), (242, 0, 2407)], []), [(.inr (some (.inl (ck_one 0))), 245, ([], [], [(226, 0, 0, (1, 2, []))])), (.inr (some (.inl ((-1), 7, []))), 245, ([], [], [(226, 0, 0, ck_one 0)]))])
set_option maxRecDepth 100000 in
theorem q_p2_s1540_e : ck_ok qR_O none [] [(298, [p2_s365]), (282, [p2_s241, p2_s242, p2_s244, p2_s243]), (350, [q_p2_s1513]), (353, [p2_s1514]), (351, [p2_s1511]), (355, [p2_s1539])] 354 [(108, [some (.inr (.inr (.inl 226))), some (.inl (0, 7, [])), some (.inl (0, 7, [])), some (.inl (1, 50, [])), some (.inl ((-1), 299, [])), some (.inl ((-1), 7, [])), some (.inl (0, 1000, []))], ([], [], [(226, 0, 0, ck_one 0), (227, 2, 2, (0, 8, [(20, 0)])), (227, 3, 3, (0, 8, [(21, 0)])), (227, 5, 5, (0, 8, [(23, 0)])), (227, 9, 9, (0, 299, [(11, 0)]))]), 100, .inl 6, false)] 302 q_p2_s1540 = true := by decide +kernel
theorem q_p2_s1540_s : ck_Ok qR_O X LX 354 q_p2_s1540 := ck_ok_s ⟨qR_nmu, (ck_E1 (ck_S1 qRl_p2_s365 ck_S0) (ck_E1 (ck_S1 qRl_p2_s241 (ck_S1 qRl_p2_s242 (ck_S1 qRl_p2_s244 (ck_S1 qRl_p2_s243 ck_S0)))) (ck_E1 (ck_S1 q_p2_s1513_s ck_S0) (ck_E1 (ck_S1 qRl_p2_s1514 ck_S0) (ck_E1 (ck_S1 qRl_p2_s1511 ck_S0) (ck_E1 (ck_S1 qRl_p2_s1539 ck_S0) ck_E0))))))⟩ ck_X0 ck_l0 q_p2_s1540_e
def q_p2_s1553 : ck_Sum := ((24, 0, 0), 245, [.inr (.inr (.inl 226)), .inl (0, 7, []), .inl (0, 299, [])], ([], [], [(227, 2, 2, (0, 8, [(20, 0)])), (227, 3, 3, (0, 8, [(21, 0)])), (227, 5, 5, (0, 8, [(23, 0)])), (227, 9, 9, (0, 299, [(11, 0)]))]), ([(226, 0, 0), (226, 17, 23), (226, 26, 26), (226, 29, 30), (233, 0, 399), (235, 0, 29699), (236, 0, 299), (237, 0, 299), (240, 0, 2407), (241, 0, 2407), (242, 0, 2407)], []), [(.inr (some (.inl (ck_one 0))), 245, ([], [], [(226, 0, 0, ck_one 1)])), (.inr (some (.inl ((-2147483648), 2147483647, []))), 245, ([], [], [(226, 0, 0, ck_one 0)]))])
set_option maxRecDepth 100000 in
theorem q_p2_s1553_e : ck_ok qR_O none [] [(298, [p2_s365]), (282, [p2_s241, p2_s242, p2_s243]), (285, [p2_s263]), (350, [q_p2_s1513]), (253, [p2_s186]), (353, [p2_s1514])] 356 [(44, [some (.inr (.inr (.inl 226))), some (.inl (0, 7, [])), some (.inl (0, 299, [])), some (.inl ((-2147483648), 2147483647, [])), some (.inl (0, 8, [])), none], ([], [], [(226, 0, 0, ck_one 0), (227, 2, 2, (0, 8, [(20, 0)])), (227, 3, 3, (0, 8, [(21, 0)])), (227, 5, 5, (0, 8, [(23, 0)])), (227, 9, 9, (0, 299, [(11, 0)]))]), 100, .inl 4, true)] 194 q_p2_s1553 = true := by decide +kernel
theorem q_p2_s1553_s : ck_Ok qR_O X LX 356 q_p2_s1553 := ck_ok_s ⟨qR_nmu, (ck_E1 (ck_S1 qRl_p2_s365 ck_S0) (ck_E1 (ck_S1 qRl_p2_s241 (ck_S1 qRl_p2_s242 (ck_S1 qRl_p2_s243 ck_S0))) (ck_E1 (ck_S1 qRl_p2_s263 ck_S0) (ck_E1 (ck_S1 q_p2_s1513_s ck_S0) (ck_E1 (ck_S1 qRl_p2_s186 ck_S0) (ck_E1 (ck_S1 qRl_p2_s1514 ck_S0) ck_E0))))))⟩ ck_X0 ck_l0 q_p2_s1553_e
theorem qRl_p2_s166 : ck_Ok qR_O X LX 261 p2_s166 := qR_l p2_s166_s (by decide +kernel)
theorem qRl_p2_s1575 : ck_Ok qR_O X LX 333 p2_s1575 := qR_l p2_s1575_s (by decide +kernel)
theorem qRl_p2_s1576 : ck_Ok qR_O X LX 333 p2_s1576 := qR_l p2_s1576_s (by decide +kernel)
theorem qRl_p2_s1577 : ck_Ok qR_O X LX 333 p2_s1577 := qR_l p2_s1577_s (by decide +kernel)
theorem qRl_p2_s1578 : ck_Ok qR_O X LX 333 p2_s1578 := qR_l p2_s1578_s (by decide +kernel)
theorem qRl_p2_s1579 : ck_Ok qR_O X LX 333 p2_s1579 := qR_l p2_s1579_s (by decide +kernel)
theorem qRl_p2_s1580 : ck_Ok qR_O X LX 333 p2_s1580 := qR_l p2_s1580_s (by decide +kernel)
def q_p2_s1581 : ck_Sum := ((25, 0, 0), 245, [.inr (.inr (.inl 226)), .inl (0, 30, [])], ([], [], [(227, 2, 2, (0, 8, [(20, 0)])), (227, 4, 4, (0, 24, [(22, 0)])), (227, 5, 5, (0, 8, [(23, 0)])), (227, 9, 9, (0, 299, [(11, 0)]))]), ([(226, 17, 23), (226, 26, 26), (226, 29, 30), (233, 0, 399), (235, 0, 29699), (236, 0, 299), (237, 0, 299), (238, 0, 23), (243, 0, 5), (244, 0, 5)], []), [(.inr none, 245, ([], [], []))])
set_option maxRecDepth 100000 in
theorem q_p2_s1581_e : ck_ok qR_O none [] [(332, [q_p2_s1373]), (266, [p2_s190]), (261, [p2_s166]), (333, [p2_s1575, p2_s1576, p2_s1577, p2_s1578, p2_s1579, p2_s1580])] 358 [(6, [some (.inr (.inr (.inl 226))), some (.inl (0, 30, [])), some (.inl (0, 6, [])), none, none], ([], [], [(227, 2, 2, (0, 8, [(20, 0)])), (227, 4, 4, (0, 24, [(22, 0)])), (227, 5, 5, (0, 8, [(23, 0)])), (227, 9, 9, (0, 299, [(11, 0)]))]), 100, .inl 2, true), (34, [some (.inr (.inr (.inl 226))), some (.inl (0, 30, [])), some (.inl ((-1), 328, [])), none, none], ([], [], [(227, 2, 2, (0, 8, [(20, 0)])), (227, 4, 4, (0, 24, [(22, 0)])), (227, 5, 5, (0, 8, [(23, 0)])), (227, 9, 9, (0, 299, [(11, 0)]))]), 300, .inl 2, false), (44, [some (.inr (.inr (.inl 226))), some (.inl (0, 30, [])), some (.inl (0, 328, [(300, 0)])), some (.inl (0, 6, [])), none], ([], [], [(227, 2, 2, (0, 8, [(20, 0)])), (227, 4, 4, (0, 24, [(22, 0)])), (227, 5, 5, (0, 8, [(23, 0)])), (227, 9, 9, (0, 299, [(11, 0)]))]), 500, .inl 3, true), (152, [some (.inr (.inr (.inl 226))), some (.inl (0, 30, [])), some (.inl (0, 328, [(300, 0)])), some (.inl (0, 6, [])), none], ([], [], [(227, 2, 2, (0, 8, [(20, 0)])), (227, 4, 4, (0, 24, [(22, 0)])), (227, 5, 5, (0, 8, [(23, 0)])), (227, 9, 9, (0, 299, [(11, 0)]))]), 700, .inl 3, true)] 800 q_p2_s1581 = true := by decide +kernel
theorem q_p2_s1581_s : ck_Ok qR_O X LX 358 q_p2_s1581 := ck_ok_s ⟨qR_nmu, (ck_E1 (ck_S1 q_p2_s1373_s ck_S0) (ck_E1 (ck_S1 qRl_p2_s190 ck_S0) (ck_E1 (ck_S1 qRl_p2_s166 ck_S0) (ck_E1 (ck_S1 qRl_p2_s1575 (ck_S1 qRl_p2_s1576 (ck_S1 qRl_p2_s1577 (ck_S1 qRl_p2_s1578 (ck_S1 qRl_p2_s1579 (ck_S1 qRl_p2_s1580 ck_S0)))))) ck_E0))))⟩ ck_X0 ck_l0 q_p2_s1581_e
theorem qRl_p2_s1574 : ck_Ok qR_O X LX 286 p2_s1574 := qR_l p2_s1574_s (by decide +kernel)
def q_p2_s1582 : ck_Sum := ((26, 0, 0), 245, [.inr (.inr (.inl 226)), .inl (0, 30, []), .inl (0, 1, [])], ([], [], [(227, 2, 2, (0, 8, [(20, 0)])), (227, 4, 4, (0, 24, [(22, 0)])), (227, 5, 5, (0, 8, [(23, 0)])), (227, 9, 9, (0, 299, [(11, 0)]))]), ([(226, 0, 0), (226, 17, 23), (226, 26, 26), (226, 29, 30), (233, 0, 399), (235, 0, 29699), (236, 0, 299), (237, 0, 299), (238, 0, 23), (243, 0, 5), (244, 0, 5)], []), [(.inr (some (.inl (0, 5, []))), 245, ([], [], [(226, 0, 0, (0, 1, []))])), (.inr (some (.inl ((-2147483648), 2147483647, []))), 245, ([], [], [(226, 0, 0, ck_one 0)]))])
set_option maxRecDepth 100000 in
theorem q_p2_s1582_e : ck_ok qR_O none [] [(286, [p2_s1574]), (282, [p2_s241, p2_s242]), (358, [q_p2_s1581]), (261, [p2_s166])] 357 [(40, [some (.inr (.inr (.inl 226))), some (.inl (0, 30, [])), some (.inl (0, 1, [])), some (.inl (0, 5, [])), some (.inl (1, 6, []))], ([], [], [(226, 0, 0, ck_one 0), (227, 2, 2, (0, 8, [(20, 0)])), (227, 4, 4, (0, 24, [(22, 0)])), (227, 5, 5, (0, 8, [(23, 0)])), (227, 9, 9, (0, 299, [(11, 0)]))]), 100, .inl 4, true)] 174 q_p2_s1582 = true := by decide +kernel
theorem q_p2_s1582_s : ck_Ok qR_O X LX 357 q_p2_s1582 := ck_ok_s ⟨qR_nmu, (ck_E1 (ck_S1 qRl_p2_s1574 ck_S0) (ck_E1 (ck_S1 qRl_p2_s241 (ck_S1 qRl_p2_s242 ck_S0)) (ck_E1 (ck_S1 q_p2_s1581_s ck_S0) (ck_E1 (ck_S1 qRl_p2_s166 ck_S0) ck_E0))))⟩ ck_X0 ck_l0 q_p2_s1582_e
def q_p2_s1590 : ck_Sum := ((25, 0, 0), 245, [.inr (.inr (.inl 226)), .inl (0, 30, []), .inl (0, 1, [])], ([], [], [(227, 2, 2, (0, 8, [(20, 0)])), (227, 4, 4, (0, 24, [(22, 0)])), (227, 5, 5, (0, 8, [(23, 0)])), (227, 9, 9, (0, 299, [(11, 0)]))]), ([(226, 0, 0), (226, 17, 23), (226, 26, 26), (226, 29, 30), (233, 0, 399), (235, 0, 29699), (236, 0, 299), (237, 0, 299), (238, 0, 23), (243, 0, 5)], []), [(.inr (some (.inl (0, 2147483647, []))), 245, ([], [], [(226, 0, 0, (0, 1, []))])), (.inr (some (.inl ((-1), 5, []))), 245, ([], [], [(226, 0, 0, ck_one 0)]))])
set_option maxRecDepth 100000 in
theorem q_p2_s1590_e : ck_ok qR_O none [] [(286, [p2_s1574]), (282, [p2_s241, p2_s242]), (332, [q_p2_s1373]), (261, [p2_s166]), (266, [p2_s190]), (333, [p2_s1575])] 359 [(36, [some (.inr (.inr (.inl 226))), some (.inl (0, 30, [])), some (.inl (0, 1, [])), some (.inl (0, 6, [])), none, none, none, none], ([], [], [(226, 0, 0, ck_one 0), (227, 2, 2, (0, 8, [(20, 0)])), (227, 4, 4, (0, 24, [(22, 0)])), (227, 5, 5, (0, 8, [(23, 0)])), (227, 9, 9, (0, 299, [(11, 0)]))]), 100, .inl 3, true), (105, [some (.inr (.inr (.inl 226))), some (.inl (0, 30, [])), some (.inl (0, 1, [])), some (.inl ((-1), 5, [])), some (.inl (0, 2147483647, [])), some (.inl (0, 6, [])), none, none], ([], [], [(226, 0, 0, ck_one 0), (227, 2, 2, (0, 8, [(20, 0)])), (227, 4, 4, (0, 24, [(22, 0)])), (227, 5, 5, (0, 8, [(23, 0)])), (227, 9, 9, (0, 299, [(11, 0)]))]), 300, .inl 5, true), (57, [some (.inr (.inr (.inl 226))), some (.inl (0, 30, [])), some (.inl (0, 1, [])), some (.inl (0, 5, [(100, 0)])), some (.inl (0, 399, [(1000011, 0)])), none, none, none], ([], [], [(226, 0, 0, ck_one 0), (227, 2, 2, (0, 8, [(20, 0)])), (227, 4, 4, (0, 24, [(22, 0)])), (227, 5, 5, (0, 8, [(23, 0)])), (227, 9, 9, (0, 299, [(11, 0)]))]), 500, .inl 4, true), (120, [some (.inr (.inr (.inl 226))), some (.inl (0, 30, [])), some (.inl (0, 1, [])), some (.inl ((-1), 5, [])), some (.inl (0, 2147483647, [])), some (.inl (0, 5, [(300, 0)])), some (.inl (0, 2147483647, [])), some (.inl (0, 6, []))], ([], [], [(226, 0, 0, ck_one 0), (227, 2, 2, (0, 8, [(20, 0)])), (227, 4, 4, (0, 24, [(22, 0)])), (227, 5, 5, (0, 8, [(23, 0)])), (227, 9, 9, (0, 299, [(11, 0)]))]), 700, .inl 7, true)] 360 q_p2_s1590 = true := by decide +kernel
theorem q_p2_s1590_s : ck_Ok qR_O X LX 359 q_p2_s1590 := ck_ok_s ⟨qR_nmu, (ck_E1 (ck_S1 qRl_p2_s1574 ck_S0) (ck_E1 (ck_S1 qRl_p2_s241 (ck_S1 qRl_p2_s242 ck_S0)) (ck_E1 (ck_S1 q_p2_s1373_s ck_S0) (ck_E1 (ck_S1 qRl_p2_s166 ck_S0) (ck_E1 (ck_S1 qRl_p2_s190 ck_S0) (ck_E1 (ck_S1 qRl_p2_s1575 ck_S0) ck_E0))))))⟩ ck_X0 ck_l0 q_p2_s1590_e
theorem qRl_p2_s412 : ck_Ok qR_O X LX 312 p2_s412 := qR_l p2_s412_s (by decide +kernel)
theorem qRl_p2_s1395 : ck_Ok qR_O X LX 337 p2_s1395 := qR_l p2_s1395_s (by decide +kernel)
def q_p2_s1602 : ck_Sum := ((23, 0, 0), 245, [.inr (.inr (.inl 226)), .inl (0, 23, []), .inl (0, 23, [])], ([], [], [(227, 2, 2, (0, 8, [(20, 0)])), (227, 4, 4, (0, 24, [(22, 0)])), (227, 5, 5, (0, 8, [(23, 0)])), (227, 9, 9, (0, 299, [(11, 0)]))]), ([(226, 0, 0), (226, 17, 23), (226, 26, 26), (226, 29, 30), (233, 0, 399), (235, 0, 29699), (236, 0, 299), (237, 0, 299), (239, 0, 299)], []), [(.inr (some (.inl (0, 299, []))), 245, ([], [], [(226, 0, 0, (0, 2, []))])), (.inr (some (.inl (ck_one (-1)))), 245, ([], [], [(226, 0, 0, ck_one 0)]))])
set_option maxRecDepth 100000 in
theorem q_p2_s1602_e : ck_ok qR_O none [] [(309, [p2_s406]), (282, [p2_s241, p2_s242, p2_s243, p2_s244]), (301, [p2_s375]), (305, [q_p2_s380]), (335, [p2_s1394]), (266, [p2_s190]), (312, [p2_s412]), (337, [p2_s1395])] 360 [(92, [some (.inr (.inr (.inl 226))), some (.inl (0, 23, [])), some (.inl (0, 23, [])), some (.inl (0, 300, [(1000011, 0)]))], ([], [], [(226, 0, 0, ck_one 0), (227, 2, 2, (0, 8, [(20, 0)])), (227, 4, 4, (0, 24, [(22, 0)])), (227, 5, 5, (0, 8, [(23, 0)])), (227, 9, 9, (0, 299, [(11, 0)]))]), 100, .inl 3, true)] 278 q_p2_s1602 = true := by decide +kernel
theorem q_p2_s1602_s : ck_Ok qR_O X LX 360 q_p2_s1602 := ck_ok_s ⟨qR_nmu, (ck_E1 (ck_S1 qRl_p2_s406 ck_S0) (ck_E1 (ck_S1 qRl_p2_s241 (ck_S1 qRl_p2_s242 (ck_S1 qRl_p2_s243 (ck_S1 qRl_p2_s244 ck_S0)))) (ck_E1 (ck_S1 qRl_p2_s375 ck_S0) (ck_E1 (ck_S1 q_p2_s380_s ck_S0) (ck_E1 (ck_S1 qRl_p2_s1394 ck_S0) (ck_E1 (ck_S1 qRl_p2_s190 ck_S0) (ck_E1 (ck_S1 qRl_p2_s412 ck_S0) (ck_E1 (ck_S1 qRl_p2_s1395 ck_S0) ck_E0))))))))⟩ ck_X0 ck_l0 q_p2_s1602_e
def q_p2_s1609 : ck_Sum := ((25, 0, 0), 245, [.inr (.inr (.inl 226)), .inl (0, 299, [])], ([], [], [(227, 2, 2, (0, 8, [(20, 0)])), (227, 4, 4, (0, 24, [(22, 0)])), (227, 5, 5, (0, 8, [(23, 0)]))]), ([(226, 0, 0), (226, 17, 23), (226, 26, 26), (226, 29, 30), (233, 0, 399), (235, 0, 29699), (236, 0, 299), (237, 0, 299), (238, 0, 23)], []), [(.inr (some (.inl ((-2147483648), 2147483647, []))), 245, ([], [], [(226, 0, 0, ck_one 0)]))])
set_option maxRecDepth 100000 in
theorem q_p2_s1609_e : ck_ok qR_O none [] [(285, [p2_s263]), (282, [p2_s242]), (332, [q_p2_s1373]), (333, [p2_s1374])] 361 [] 104 q_p2_s1609 = true := by decide +kernel
theorem q_p2_s1609_s : ck_Ok qR_O X LX 361 q_p2_s1609 := ck_ok_s ⟨qR_nmu, (ck_E1 (ck_S1 qRl_p2_s263 ck_S0) (ck_E1 (ck_S1 qRl_p2_s242 ck_S0) (ck_E1 (ck_S1 q_p2_s1373_s ck_S0) (ck_E1 (ck_S1 qRl_p2_s1374 ck_S0) ck_E0))))⟩ ck_X0 ck_l0 q_p2_s1609_e
def q_p2_s1612 : ck_Sum := ((25, 0, 0), 245, [.inr (.inr (.inl 226)), .inl ((-2147483648), 2147483647, [])], ([], [], [(227, 2, 2, (0, 8, [(20, 0)])), (227, 4, 4, (0, 24, [(22, 0)])), (227, 5, 5, (0, 8, [(23, 0)]))]), ([(226, 0, 0), (226, 17, 23), (226, 26, 26), (226, 29, 30), (233, 0, 399), (235, 0, 29699), (236, 0, 299), (237, 0, 299), (238, 0, 23)], []), [(.inr (some (.inl (ck_one (-1)))), 245, ([], [], [(226, 0, 0, ck_one 0)])), (.inr (some (.inl (0, 23, []))), 245, ([], [], [(226, 0, 0, ck_one 0), (227, 4, 4, (1, 24, [(22, 0)]))]))])
set_option maxRecDepth 100000 in
theorem q_p2_s1612_e : ck_ok qR_O none [] [(332, [q_p2_s1373]), (254, [p2_s176])] 362 [(13, [some (.inr (.inr (.inl 226))), some (.inl ((-2147483648), 2147483647, [])), some (.inl ((-2147483648), 2147483647, [])), some (.inl (0, 300, [])), none], ([], [], [(226, 0, 0, ck_one 0), (227, 2, 2, (0, 8, [(20, 0)])), (227, 4, 4, (0, 24, [(22, 0)])), (227, 5, 5, (0, 8, [(23, 0)]))]), 100, .inl 3, true), (27, [some (.inr (.inr (.inl 226))), some (.inl (0, 2147483647, [])), some (.inl ((-2147483648), 2147483647, [])), some (.inl (0, 299, [(100, 0)])), some (.inl (0, 24, []))], ([], [], [(226, 0, 0, ck_one 0), (227, 2, 2, (0, 8, [(20, 0)])), (227, 4, 4, (0, 24, [(22, 0)])), (227, 5, 5, (0, 8, [(23, 0)]))]), 300, .inl 4, true)] 206 q_p2_s1612 = true := by decide +kernel
theorem q_p2_s1612_s : ck_Ok qR_O X LX 362 q_p2_s1612 := ck_ok_s ⟨qR_nmu, (ck_E1 (ck_S1 q_p2_s1373_s ck_S0) (ck_E1 (ck_S1 qRl_p2_s176 ck_S0) ck_E0))⟩ ck_X0 ck_l0 q_p2_s1612_e
def q_p2_s1618 : ck_Sum := ((25, 0, 0), 245, [.inr (.inr (.inl 226)), .inl (0, 299, []), .inl (0, 1, [])], ([], [], [(227, 2, 2, (0, 8, [(20, 0)])), (227, 4, 4, (0, 24, [(22, 0)])), (227, 5, 5, (0, 8, [(23, 0)]))]), ([(226, 0, 0), (226, 17, 23), (226, 26, 26), (226, 29, 30), (233, 0, 399), (235, 0, 29699), (236, 0, 299), (237, 0, 299), (238, 0, 23)], []), [(.inr (some (.inl ((-2147483648), 2147483647, []))), 245, ([], [], [(226, 0, 0, ck_one 0)]))])
set_option maxRecDepth 100000 in
theorem q_p2_s1618_e : ck_ok qR_O none [] [(285, [p2_s263]), (282, [p2_s242]), (332, [q_p2_s1373]), (254, [p2_s176]), (301, [p2_s375])] 363 [(28, [some (.inr (.inr (.inl 226))), some (.inl (0, 299, [])), some (.inl (0, 1, [])), some (.inl ((-2147483648), 2147483647, [])), some (.inl (0, 24, []))], ([], [], [(226, 0, 0, ck_one 0), (227, 2, 2, (0, 8, [(20, 0)])), (227, 4, 4, (0, 24, [(22, 0)])), (227, 5, 5, (0, 8, [(23, 0)]))]), 100, .inl 4, true)] 234 q_p2_s1618 = true := by decide +kernel
theorem q_p2_s1618_s : ck_Ok qR_O X LX 363 q_p2_s1618 := ck_ok_s ⟨qR_nmu, (ck_E1 (ck_S1 qRl_p2_s263 ck_S0) (ck_E1 (ck_S1 qRl_p2_s242 ck_S0) (ck_E1 (ck_S1 q_p2_s1373_s ck_S0) (ck_E1 (ck_S1 qRl_p2_s176 ck_S0) (ck_E1 (ck_S1 qRl_p2_s375 ck_S0) ck_E0)))))⟩ ck_X0 ck_l0 q_p2_s1618_e
def q_p2_s1628 : ck_Sum := ((23, 0, 0), 245, [.inr (.inr (.inl 226)), .inl (0, 5, []), .inl (0, 299, [])], ([], [], [(227, 2, 2, (0, 8, [(20, 0)])), (227, 5, 5, (0, 8, [(23, 0)]))]), ([(226, 0, 0), (226, 17, 23), (226, 26, 26), (226, 29, 30), (233, 0, 399), (235, 0, 29699), (236, 0, 299), (237, 0, 299)], []), [(.inr (some (.inl (ck_one 0))), 245, ([], [], [(226, 0, 0, ck_one 1)])), (.inr (some (.inl ((-299), 299, []))), 245, ([], [], [(226, 0, 0, ck_one 0)]))])
set_option maxRecDepth 100000 in
theorem q_p2_s1628_e : ck_ok qR_O none [] [(288, [p2_s290]), (282, [p2_s241, p2_s242, p2_s243]), (285, [p2_s263]), (325, [q_p2_s1326])] 364 [] 126 q_p2_s1628 = true := by decide +kernel
theorem q_p2_s1628_s : ck_Ok qR_O X LX 364 q_p2_s1628 := ck_ok_s ⟨qR_nmu, (ck_E1 (ck_S1 qRl_p2_s290 ck_S0) (ck_E1 (ck_S1 qRl_p2_s241 (ck_S1 qRl_p2_s242 (ck_S1 qRl_p2_s243 ck_S0))) (ck_E1 (ck_S1 qRl_p2_s263 ck_S0) (ck_E1 (ck_S1 q_p2_s1326_s ck_S0) ck_E0))))⟩ ck_X0 ck_l0 q_p2_s1628_e
def q_p2_s1638 : ck_Sum := ((23, 0, 0), 245, [.inr (.inr (.inl 226)), .inl (0, 98, []), .inl (0, 299, [])], ([], [], [(227, 2, 2, (0, 8, [(20, 0)])), (227, 5, 5, (0, 8, [(23, 0)]))]), ([(226, 0, 0), (226, 17, 23), (226, 26, 26), (226, 29, 30), (233, 0, 399), (235, 0, 29699), (236, 0, 299), (237, 0, 299)], []), [(.inr (some (.inl (ck_one 0))), 245, ([], [], [(226, 0, 0, ck_one 1)])), (.inr (some (.inl ((-1), 5, []))), 245, ([], [], [(226, 0, 0, ck_one 0)]))])
set_option maxRecDepth 100000 in
theorem q_p2_s1638_e : ck_ok qR_O none [] [(289, [p2_s298]), (282, [p2_s241, p2_s242, p2_s243]), (285, [p2_s263]), (261, [p2_s166]), (325, [q_p2_s1326])] 365 [(42, [some (.inr (.inr (.inl 226))), some (.inl (0, 98, [])), some (.inl (0, 299, [])), some (.inl ((-1), 5, [])), some (.inl (0, 1000, [])), some (.inl (0, 6, [])), none], ([], [], [(226, 0, 0, ck_one 0), (227, 2, 2, (0, 8, [(20, 0)])), (227, 5, 5, (0, 8, [(23, 0)]))]), 100, .inl 5, true)] 182 q_p2_s1638 = true := by decide +kernel
theorem q_p2_s1638_s : ck_Ok qR_O X LX 365 q_p2_s1638 := ck_ok_s ⟨qR_nmu, (ck_E1 (ck_S1 qRl_p2_s298 ck_S0) (ck_E1 (ck_S1 qRl_p2_s241 (ck_S1 qRl_p2_s242 (ck_S1 qRl_p2_s243 ck_S0))) (ck_E1 (ck_S1 qRl_p2_s263 ck_S0) (ck_E1 (ck_S1 qRl_p2_s166 ck_S0) (ck_E1 (ck_S1 q_p2_s1326_s ck_S0) ck_E0)))))⟩ ck_X0 ck_l0 q_p2_s1638_e
theorem qRl_p2_s413 : ck_Ok qR_O X LX 311 p2_s413 := qR_l p2_s413_s (by decide +kernel)
def q_p2_s1644 : ck_Sum := ((23, 0, 0), 245, [.inr (.inr (.inl 226)), .inl (0, 299, [])], ([], [], [(227, 2, 2, (0, 8, [(20, 0)])), (227, 4, 4, (0, 24, [(22, 0)])), (227, 5, 5, (0, 8, [(23, 0)]))]), ([(226, 0, 0), (226, 17, 23), (226, 26, 26), (226, 29, 30), (233, 0, 399), (235, 0, 29699), (236, 0, 299), (237, 0, 299)], []), [(.inr (some (.inl ((-2147483648), 2147483647, []))), 245, ([], [], [(226, 0, 0, ck_one 0)]))])
set_option maxRecDepth 100000 in
theorem q_p2_s1644_e : ck_ok qR_O none [] [(285, [p2_s263]), (282, [p2_s242]), (254, [p2_s176]), (305, [q_p2_s380]), (311, [p2_s413])] 366 [(23, [some (.inr (.inr (.inl 226))), some (.inl (0, 299, [])), some (.inl ((-2147483648), 2147483647, [])), some (.inl (0, 24, []))], ([], [], [(226, 0, 0, ck_one 0), (227, 2, 2, (0, 8, [(20, 0)])), (227, 4, 4, (0, 24, [(22, 0)])), (227, 5, 5, (0, 8, [(23, 0)]))]), 100, .inl 3, true)] 182 q_p2_s1644 = true := by decide +kernel
theorem q_p2_s1644_s : ck_Ok qR_O X LX 366 q_p2_s1644 := ck_ok_s ⟨qR_nmu, (ck_E1 (ck_S1 qRl_p2_s263 ck_S0) (ck_E1 (ck_S1 qRl_p2_s242 ck_S0) (ck_E1 (ck_S1 qRl_p2_s176 ck_S0) (ck_E1 (ck_S1 q_p2_s380_s ck_S0) (ck_E1 (ck_S1 qRl_p2_s413 ck_S0) ck_E0)))))⟩ ck_X0 ck_l0 q_p2_s1644_e
theorem qRl_p2_s1773 : ck_Ok qR_O X LX 286 p2_s1773 := qR_l p2_s1773_s (by decide +kernel)
theorem qRl_p2_s1774 : ck_Ok qR_O X LX 286 p2_s1774 := qR_l p2_s1774_s (by decide +kernel)
theorem qRl_p2_s1775 : ck_Ok qR_O X LX 286 p2_s1775 := qR_l p2_s1775_s (by decide +kernel)
theorem qRl_p2_s1776 : ck_Ok qR_O X LX 286 p2_s1776 := qR_l p2_s1776_s (by decide +kernel)
theorem qRl_p2_s1777 : ck_Ok qR_O X LX 286 p2_s1777 := qR_l p2_s1777_s (by decide +kernel)
def q_p2_s1778 : ck_Sum := ((25, 0, 0), 245, [.inr (.inr (.inl 226)), .inl (10, 2147483647, [])], ([], [], [(227, 2, 2, (0, 8, [(20, 0)])), (227, 4, 4, (0, 24, [(22, 0)])), (227, 5, 5, (0, 8, [(23, 0)])), (227, 14, 14, (0, 24, [(26, 0)])), (226, 6, 6, (0, 12, [(27, 0)])), (227, 9, 9, (0, 299, [(11, 0)]))]), ([(226, 0, 0), (226, 17, 23), (226, 26, 26), (226, 29, 30), (233, 0, 399), (235, 0, 29699), (236, 0, 299), (237, 0, 299)], []), [(.inr (some (.inl ((-2147483648), 2147483647, []))), 245, ([], [], [(226, 0, 0, ck_one 0)])), (.inr (some (.inl (0, 9999, []))), 245, ([], [], [(226, 0, 0, ck_one 0)]))])
set_option maxRecDepth 100000 in
theorem q_p2_s1778_e : ck_ok qR_O none [] [(286, [p2_s1773, p2_s1774, p2_s1775, p2_s1776, p2_s1777]), (254, [p2_s176]), (304, [q_p2_s381]), (266, [p2_s190]), (302, [q_p2_s382])] 368 [(132, [some (.inr (.inr (.inl 226))), some (.inl (ck_one 16)), some (.inl ((-2147483648), 2147483647, [])), some (.inl (0, 24, [])), none], ([], [], [(226, 0, 0, ck_one 0), (227, 2, 2, (0, 8, [(20, 0)])), (227, 4, 4, (0, 24, [(22, 0)])), (227, 5, 5, (0, 8, [(23, 0)])), (227, 14, 14, (0, 24, [(26, 0)])), (226, 6, 6, (0, 12, [(27, 0)])), (227, 9, 9, (0, 299, [(11, 0)]))]), 100, .inl 3, true), (98, [some (.inr (.inr (.inl 226))), some (.inl (ck_one 15)), some (.inl ((-2147483648), 2147483647, [])), some (.inl (0, 24, [])), none], ([], [], [(226, 0, 0, ck_one 0), (227, 2, 2, (0, 8, [(20, 0)])), (227, 4, 4, (0, 24, [(22, 0)])), (227, 5, 5, (0, 8, [(23, 0)])), (227, 14, 14, (0, 24, [(26, 0)])), (226, 6, 6, (0, 12, [(27, 0)])), (227, 9, 9, (0, 299, [(11, 0)]))]), 300, .inl 3, true)] 242 q_p2_s1778 = true := by decide +kernel
theorem q_p2_s1778_s : ck_Ok qR_O X LX 368 q_p2_s1778 := ck_ok_s ⟨qR_nmu, (ck_E1 (ck_S1 qRl_p2_s1773 (ck_S1 qRl_p2_s1774 (ck_S1 qRl_p2_s1775 (ck_S1 qRl_p2_s1776 (ck_S1 qRl_p2_s1777 ck_S0))))) (ck_E1 (ck_S1 qRl_p2_s176 ck_S0) (ck_E1 (ck_S1 q_p2_s381_s ck_S0) (ck_E1 (ck_S1 qRl_p2_s190 ck_S0) (ck_E1 (ck_S1 q_p2_s382_s ck_S0) ck_E0)))))⟩ ck_X0 ck_l0 q_p2_s1778_e
end GHR
end
/-! 7c40.vw -/
section
/-! THE LAW'S CALLS, told of class and reference by one state. -/
theorem gm_lc_ne {L : gm_L} {j i : Nat} (h : ¬ i + 1 = j) : (gm_lc L j)[i]? = L[i]? := by
  cases j with
  | zero => rfl
  | succ j =>
    show (match L[j]? with
      | some (some (.inr (.inl _))) => L.set j none
      | _ => L)[i]? = _
    split
    · rw [List.getElem?_set, if_neg (by omega)]
    · rfl
/-- the law's variables: script, class, reference, out, i -/
def mn_L (i : Int) (L : gm_L) : Prop := L.length = 7 ∧ L[0]? = some (some (gm_vo 2000)) ∧ L[1]? = some (some (gm_vr 1)) ∧ L[2]? = some (some (gm_vr 226)) ∧ L[3]? = some (some (gm_vr 245)) ∧ L[4]? = some (some (gm_vi i))
theorem mn_L_s {i y : Int} {L : gm_L} {j : Nat} (h : mn_L i L) (hj : j = 5 ∨ j = 6) : mn_L i (gm_lst L j (gm_vi y)) := by
  obtain ⟨h0, h1, h2, h3, h4, h5⟩ := h
  show mn_L i ((gm_lc L j).set j (some (gm_vi y)))
  have e : ∀ k, k < 4 → ((gm_lc L j).set j (some (gm_vi y)))[k]? = L[k]? := fun k hk => by
    rw [List.getElem?_set, if_neg (by omega), gm_lc_ne (by omega)]
  refine ⟨by rw [List.length_set, gm_lc_len]; exact h0, (e 0 (by decide)).trans h1, (e 1 (by decide)).trans h2, (e 2 (by decide)).trans h3, (e 3 (by decide)).trans h4, ?_⟩
  rw [List.getElem?_set, if_neg (by omega)]
  rcases hj with rfl | rfl
  · show (match L[4]? with
      | some (some (.inr (.inl _))) => L.set 4 none
      | _ => L)[4]? = _
    rw [h5]
    exact h5
  · rw [gm_lc_ne (by decide)]
    exact h5
section MN
variable {X : Int → Int} {LX d bc bs pc n : Nat} {L : gm_L} {st : List gm_V} {K : gm_K} {R : gm_R} {M : gm_M} {Q : gm_Q}
theorem mn_arg {j i : Int} (a0 : gm_at 370 pc = some (.aload_n 0)) (a1 : gm_at 370 (pc + 1) = some (.iload 4)) (a2 : gm_at 370 (pc + 3) = some (.iconst j)) (a3 : gm_at 370 (pc + 4) = some .iadd) (a4 : gm_at 370 (pc + 5) = some .iaload) (hL : mn_L i L) (hi : 0 ≤ i ∧ i + 6 ≤ (LX : Int)) (hj : 1 ≤ j ∧ j ≤ 5) (hX : LX ≤ 3072) (k : gm_Wp X LX d bc bs 370 (pc + 6) L (gm_vi (X (i + j)) :: st) n K R M Q) : gm_Wp X LX d bc bs 370 pc L st n K R M Q := by
  obtain ⟨h0, h1, h2, h3, h4, h5⟩ := hL
  have w : gm_w (i + j) = i + j := gm_w_id (by omega) (by omega)
  refine gm_sz (gm_p_load a0 (sr := 2) (j := 0) rfl h1 rfl) ?_
  refine gm_sz (gm_p_load a1 (sr := 0) (j := 4) rfl h5 rfl) ?_
  refine gm_sz (gm_p_const a2 (v := gm_vi j) rfl) ?_
  refine gm_sz (gm_p_bin a3 (f := fun x y => x + y) rfl) ?_
  refine gm_sz (gm_p_sald a4 (by rw [w]; omega)) ?_
  rw [w]
  exact k
/-- a truth, as javac lays it down -/
def bz (x : Int) : Int := if gm_w x = gm_w 0 then 0 else 1
theorem bz_0 {x : Int} : 0 ≤ bz x := by unfold bz; split <;> decide
theorem bz_1 {x : Int} : bz x ≤ 1 := by unfold bz; split <;> decide
theorem mn_bool {x : Int} (a0 : gm_at 370 pc = some (.ifCond .eq 7)) (a1 : gm_at 370 (pc + 3) = some (.iconst 1)) (a2 : gm_at 370 (pc + 4) = some (.goto 4)) (a3 : gm_at 370 (pc + 7) = some (.iconst 0)) (k : gm_Wp X LX d bc bs 370 (pc + 8) L (gm_vi (bz x) :: st) n K R M Q) : gm_Wp X LX d bc bs 370 pc L (gm_vi x :: st) n K R M Q := by
  have t7 : gm_tgt pc 7 = pc + 7 := by unfold gm_tgt; omega
  have t4 : gm_tgt (pc + 4) 4 = pc + 8 := by unfold gm_tgt; omega
  refine gm_b_if a0 (by omega) (fun hp => ?_) (fun hp => ?_)
  · have hp : gm_w x = gm_w 0 := hp
    rw [t7]
    refine gm_sz (gm_p_const a3 (v := gm_vi 0) rfl) ?_
    rw [show bz x = 0 from if_pos hp] at k
    exact k
  · have hp : ¬ gm_w x = gm_w 0 := hp
    refine gm_sz (gm_p_const a1 (v := gm_vi 1) rfl) ?_
    refine gm_sz (gm_p_goto (pc := pc + 4) a2 (by omega)) ?_
    rw [show bz x = 1 from if_neg hp] at k
    rw [t4]
    exact k
end MN
theorem bc_in0 : bc_in [] [] := trivial
theorem bc_in1 {b : Int × Int} {bs : List (Int × Int)} {x : Int} {xs : List Int} (h : b.1 ≤ x ∧ x ≤ b.2) (h2 : bc_in bs xs) : bc_in (b :: bs) (x :: xs) := ⟨h, h2⟩
theorem mn_w {x : Int} (h : gm_ir x) : -2147483648 ≤ x ∧ x ≤ 2147483647 := ⟨h.1, by have := h.2; omega⟩
def mn_u (r : Bool) (u : Option gm_V) : Prop := if r = true then ∃ y, u = some (gm_vi y) else u = none
def w_r (r : Bool) (S : ck_Sum) : Bool := S.2.2.2.2.2.all fun oc => match oc.1 with
  | .inr none => !r
  | .inr (some _) => r
  | _ => false
/-- class and reference are told the same, of whatever state -/
noncomputable def RELW (la : Nat → Nat) (K : gm_K) (M : gm_M) : Prop := ∃ (N : Int → Int) (lw : Option (List lln)) (A : List (Int → Int)) (im : Option ((Int → Int) × Option (List lln))) (t w : Int) (f : Int → Int), REL la K M N lw A im t w f
section VW
variable {X : Int → Int} {LX : Nat} {O : gm_Or} {g z g1 bc bs ix mj pc : Nat} {la : Nat → Nat} {K : gm_K} {R : gm_R} {M : gm_M} {L : gm_L} {st : List gm_V} {Q : gm_Q} {N : Int → Int} {lw : Option (List lln)} {A : List (Int → Int)} {im : Option ((Int → Int) × Option (List lln))} {t w : Int} {f : Int → Int} {S : ck_Sum} {l l0 l1 : List ck_Sum} {ds : List (Int × Int)} {xs : List Int} {r : Bool} {u : Option gm_V} {P : (Nat → Nat) → gm_K → gm_M → Prop}
theorem hck_int {oc : ck_Oc} (h : bc_ok O z g1 S = true) (hoc : oc ∈ S.2.2.2.2.2) : (match oc.1 with
  | .inr none => true
  | .inr (some (.inl _)) => true
  | _ => false) = true := by
  simp only [bc_ok, Bool.and_eq_true, decide_eq_true_eq] at h
  obtain ⟨-, -, -, -, h5⟩ := h
  have h6 := List.all_eq_true.mp h5 oc hoc
  simp only [Bool.and_eq_true, decide_eq_true_eq] at h6
  exact h6.1
theorem vr_s (h : w_r r S = true) (hok : bc_ok O z g1 S = true) (hv : mq_V S u) : mn_u r u := by
  obtain ⟨oc, hoc, σ, ho⟩ := hv
  have h9 := List.all_eq_true.mp h oc hoc
  unfold mn_u
  rcases hoc1 : oc.1 with x | a
  · rw [hoc1] at h9; cases h9
  · rw [hoc1] at ho
    rcases a with _ | a
    · rw [hoc1] at h9
      have h9 : (!r) = true := h9
      rw [if_neg (by cases r <;> simp_all)]
      cases u with
      | none => rfl
      | some v => exact absurd ho id
    · rw [hoc1] at h9
      have h9 : r = true := h9
      rw [if_pos h9]
      have h10 := hck_int (S := S) hok hoc
      rw [hoc1] at h10
      cases u with
      | none => exact absurd ho id
      | some v =>
        rcases a with a | a
        · obtain ⟨y, rfl, -⟩ := ho
          exact ⟨y, rfl⟩
        · cases h10
/-- behind a call -/
def rq_K (X : Int → Int) (LX bc bs pc : Nat) (L : gm_L) (st : List gm_V) (Q : gm_Q) (g : Nat) (r : Bool) (P : (Nat → Nat) → gm_K → gm_M → Prop) : Prop := ∀ (u : Option gm_V) (la2 : Nat → Nat) (K2 : gm_K) (R2 : gm_R) (M2 : gm_M), mn_u r u → bg g la2 K2 R2 M2 → P la2 K2 M2 → gm_Wp X LX 280 (bc - 6) (bs - 600) 370 pc L (u.toList ++ st) (245 + 4 * g) K2 R2 M2 Q
theorem rq_go (hw : w_r r S = true) (hok : bc_ok O z g1 S = true) (k : rq_K X LX bc bs pc L st Q g r P) : mq_K X LX bc bs pc L st Q g P (fun u _ => mq_V S u) := fun u la2 K2 R2 M2 hv hb2 hp => k u la2 K2 R2 M2 (vr_s hw hok hv) hb2 hp
theorem lw_0 (hR : REL la K M N lw A im t w f) (h3 : la 3 = 0) : lw = none := by
  cases lw with
  | none => rfl
  | some ls => exact absurd h3 (hR.2.1.1.2 ls rfl).1
theorem lw_1 (hR : REL la K M N lw A im t w f) (h3 : ¬ la 3 = 0) : ∃ ls, lw = some ls := by
  cases lw with
  | none => exact absurd (hR.2.1.1.1 rfl) h3
  | some ls => exact ⟨ls, rfl⟩
theorem rq_as {k1 : Nat} (ha : bc_args S k1 false = true) (hin : bc_in (bc_box S) xs) (hi : ∀ x ∈ xs, gm_ir x) : ∀ σ, ck_gas σ S.2.2.1 (gm_vr k1 :: xs.map gm_vi) := fun σ => by
  have := bc_gas2 (σ := σ) ha hin hi
  rwa [mw_as] at this
/-- a call that only asks: the class, by one of the law's own methods -/
theorem rq_x (hb : bg g la K R M) (hg : g < 10000) (hR : REL la K M N lw A im t w f) (h : gm_at 370 pc = some (.invokestatic ix)) (hc : gm_cal (gm_ow 370) ix = some (5, mj)) (hmx : gm_ow mj ≠ gm_mxi) (hhj : ¬ gm_hh mj = []) (hna : xs.length + 2 = gm_na mj) (hlen : xs.length + 2 ≤ gm_ml mj) (hst : (st.map gm_cat).sum ≤ 8) (s0 : ∀ S ∈ l0, ck_Ok q0_O X LX mj S) (s1 : ∀ S ∈ l1, ck_Ok qL_O X LX mj S) (c0 : l0.all (fun S => w_k q0_O 0 0 1 true S && w_r r S) = true) (c1 : l1.all (fun S => w_k qL_O 246 1 1 true S && w_r r S) = true) (v0 : bc_cov 60 ds (l0.map bc_box) = true) (v1 : bc_cov 60 ds (l1.map bc_box) = true) (hx : bc_in ds xs) (hi : ∀ x ∈ xs, gm_ir x) (hbc : 6 ≤ bc) (hbs : 600 ≤ bs) (k : rq_K X LX bc bs (pc + 3) L st Q g r (fun la2 K2 M2 => REL la2 K2 M2 N lw A im t w f)) : gm_Wp X LX 280 bc bs 370 pc L (gm_vr 245 :: ((xs.map gm_vi).reverse ++ gm_vr 1 :: st)) (245 + 4 * g) K R M Q := by
  by_cases h3 : la 3 = 0
  · have hz : bs_ok la 0 0 := Or.inl ⟨rfl, rfl, h3⟩
    have el := lw_0 hR h3
    subst el
    obtain ⟨S, hS, hin⟩ := mw_in v0 hx
    have hck := List.all_eq_true.mp c0 S hS
    simp only [Bool.and_eq_true] at hck
    obtain ⟨hck, hw⟩ := hck
    have hck2 := hck
    simp only [w_k, Bool.and_eq_true, decide_eq_true_eq] at hck2
    exact bc_statX (O := q0_O) (z := 0) (g1 := 0) hb hz hg q0_nmu (fun _ _ _ _ h => q0_p h) (bs_q0 hb hR) h hc hmx hhj hna hlen hst (s0 S hS) hck2.1 (by omega) (by omega) (by omega) (fun σ => bc_gas2 hck2.2.1 hin hi) (wk0_s hb h3 hck hR hbc hbs (rq_go hw hck2.1 k))
  · have hz : bs_ok la 246 1 := Or.inr (Or.inr ⟨rfl, rfl, h3⟩)
    obtain ⟨ls, rfl⟩ := lw_1 hR h3
    obtain ⟨S, hS, hin⟩ := mw_in v1 hx
    have hck := List.all_eq_true.mp c1 S hS
    simp only [Bool.and_eq_true] at hck
    obtain ⟨hck, hw⟩ := hck
    have hck2 := hck
    simp only [w_k, Bool.and_eq_true, decide_eq_true_eq] at hck2
    exact bc_statX (O := qL_O) (z := 246) (g1 := 1) hb hz hg qL_nmu (fun _ _ _ _ h => pl_o (qL_p h)) (bs_qL hb h3 hR) h hc hmx hhj hna hlen hst (s1 S hS) hck2.1 (by omega) (by omega) (by omega) (fun σ => bc_gas2 hck2.2.1 hin hi) (wkL_s hb h3 hck hR hbc hbs (rq_go hw hck2.1 k))
/-- the class itself -/
theorem rq_d (hb : bg g la K R M) (hg : g < 10000) (hR : REL la K M N lw A im t w f) (h : gm_at 370 pc = some (.invokevirtual ix)) (hc : gm_cal (gm_ow 370) ix = some (0, mj)) (hmx : gm_ow mj ≠ gm_mxi) (hcn : gm_cn 0 = (gm_mn mj).cls) (hna : xs.length = gm_na mj) (hlen : xs.length + 1 ≤ gm_ml mj) (hst : (st.map gm_cat).sum ≤ 8) (s0 : ∀ S ∈ l0, ck_Ok q0_O X LX mj S) (s1 : ∀ S ∈ l1, ck_Ok qL_O X LX mj S) (c0 : l0.all (fun S => w_k q0_O 0 0 1 false S && w_r r S) = true) (c1 : l1.all (fun S => w_k qL_O 246 1 1 false S && w_r r S) = true) (v0 : bc_cov 60 ds (l0.map bc_box) = true) (v1 : bc_cov 60 ds (l1.map bc_box) = true) (hx : bc_in ds xs) (hi : ∀ x ∈ xs, gm_ir x) (hbc : 6 ≤ bc) (hbs : 600 ≤ bs) (k : rq_K X LX bc bs (pc + 3) L st Q g r (fun la2 K2 M2 => REL la2 K2 M2 N lw A im t w f)) : gm_Wp X LX 280 bc bs 370 pc L ((xs.map gm_vi).reverse ++ gm_vr 1 :: st) (245 + 4 * g) K R M Q := by
  by_cases h3 : la 3 = 0
  · have hz : bs_ok la 0 0 := Or.inl ⟨rfl, rfl, h3⟩
    have el := lw_0 hR h3
    subst el
    obtain ⟨S, hS, hin⟩ := mw_in v0 hx
    have hck := List.all_eq_true.mp c0 S hS
    simp only [Bool.and_eq_true] at hck
    obtain ⟨hck, hw⟩ := hck
    have hck2 := hck
    simp only [w_k, Bool.and_eq_true, decide_eq_true_eq] at hck2
    exact bc_virtX (O := q0_O) (z := 0) (g1 := 0) (k1 := 1) (ci := 0) hb hz hg q0_nmu (fun _ _ _ _ h => q0_p h) (bs_q0 hb hR) ⟨by decide, by decide⟩ (mw_k1 hb).1 h hc hmx (by decide) hcn hna hlen hst (s0 S hS) hck2.1 (by omega) (by omega) (by omega) (rq_as hck2.2.1 hin hi) (wk0_s hb h3 hck hR hbc hbs (rq_go hw hck2.1 k))
  · have hz : bs_ok la 246 1 := Or.inr (Or.inr ⟨rfl, rfl, h3⟩)
    obtain ⟨ls, rfl⟩ := lw_1 hR h3
    obtain ⟨S, hS, hin⟩ := mw_in v1 hx
    have hck := List.all_eq_true.mp c1 S hS
    simp only [Bool.and_eq_true] at hck
    obtain ⟨hck, hw⟩ := hck
    have hck2 := hck
    simp only [w_k, Bool.and_eq_true, decide_eq_true_eq] at hck2
    exact bc_virtX (O := qL_O) (z := 246) (g1 := 1) (k1 := 1) (ci := 0) hb hz hg qL_nmu (fun _ _ _ _ h => pl_o (qL_p h)) (bs_qL hb h3 hR) ⟨by decide, by decide⟩ (mw_k1 hb).1 h hc hmx (by decide) hcn hna hlen hst (s1 S hS) hck2.1 (by omega) (by omega) (by omega) (rq_as hck2.2.1 hin hi) (wkL_s hb h3 hck hR hbc hbs (rq_go hw hck2.1 k))
/-- the reference -/
theorem rq_m (hb : bg g la K R M) (hg : g < 10000) (hR : REL la K M N lw A im t w f) (h : gm_at 370 pc = some (.invokevirtual ix)) (hc : gm_cal (gm_ow 370) ix = some (0, mj)) (hmx : gm_ow mj ≠ gm_mxi) (hcn : gm_cn 11 = (gm_mn mj).cls) (hna : xs.length = gm_na mj) (hlen : xs.length + 1 ≤ gm_ml mj) (hst : (st.map gm_cat).sum ≤ 8) (s0 : ∀ S ∈ l, ck_Ok qR_O X LX mj S) (c0 : l.all (fun S => w_kR S && w_r r S) = true) (v0 : bc_cov 60 ds (l.map bc_box) = true) (hx : bc_in ds xs) (hi : ∀ x ∈ xs, gm_ir x) (hbc : 6 ≤ bc) (hbs : 600 ≤ bs) (k : rq_K X LX bc bs (pc + 3) L st Q g r (fun la2 K2 M2 => REL la2 K2 M2 N lw A im t w f)) : gm_Wp X LX 280 bc bs 370 pc L ((xs.map gm_vi).reverse ++ gm_vr 226 :: st) (245 + 4 * g) K R M Q := by
  obtain ⟨S, hS, hin⟩ := mw_in v0 hx
  have hck := List.all_eq_true.mp c0 S hS
  simp only [Bool.and_eq_true] at hck
  obtain ⟨hck, hw⟩ := hck
  have hck2 := hck
  simp only [w_kR, Bool.and_eq_true, decide_eq_true_eq] at hck2
  exact bc_virtX (O := qR_O) (z := 100003) (g1 := 0) (k1 := 226) (ci := 11) hb (Or.inr (Or.inl ⟨rfl, rfl⟩)) hg qR_nmu (fun _ _ _ _ h => qR_p h) (bs_qR hb hR) ⟨by decide, by decide⟩ (mw_k1 hb).2 h hc hmx (by decide) hcn hna hlen hst (s0 S hS) hck2.1 (by omega) (by omega) (by omega) (rq_as hck2.2.1 hin hi) (wkR_s hb hck hR hbc hbs (rq_go hw hck2.1 k))
/-- FIT: the class, the reference -/
theorem ft_x (hb : bg g la K R M) (hg : g < 10000) (hR : REL la K M N lw A im t w f) (h : gm_at 370 pc = some (.invokestatic ix)) (hc : gm_cal (gm_ow 370) ix = some (5, mj)) (hmx : gm_ow mj ≠ gm_mxi) (hhj : ¬ gm_hh mj = []) (hna : xs.length + 2 = gm_na mj) (hlen : xs.length + 2 ≤ gm_ml mj) (hst : (st.map gm_cat).sum ≤ 8) (s0 : ∀ S ∈ l0, ck_Ok p2_O X LX mj S) (s1 : ∀ S ∈ l1, ck_Ok p2_OL X LX mj S) (c0 : l0.all (fun S => w_ft p2_O 0 0 1 true 1 1 S && w_r r S) = true) (c1 : l1.all (fun S => w_ft p2_OL 246 1 1 true 1 1 S && w_r r S) = true) (v0 : bc_cov 60 ds (l0.map bc_box) = true) (v1 : bc_cov 60 ds (l1.map bc_box) = true) (hx : bc_in ds xs) (hi : ∀ x ∈ xs, gm_ir x) (hbc : 6 ≤ bc) (hbs : 600 ≤ bs) (k : rq_K X LX bc bs (pc + 3) L st Q g r (fun la2 K2 M2 => MID la2 K2 M2 N lw A im 0 w f N lw A im t w f)) : gm_Wp X LX 280 bc bs 370 pc L (gm_vr 245 :: ((xs.map gm_vi).reverse ++ gm_vr 1 :: st)) (245 + 4 * g) K R M Q := by
  by_cases h3 : la 3 = 0
  · have hz : bs_ok la 0 0 := Or.inl ⟨rfl, rfl, h3⟩
    obtain ⟨S, hS, hin⟩ := mw_in v0 hx
    have hck := List.all_eq_true.mp c0 S hS
    simp only [Bool.and_eq_true] at hck
    obtain ⟨hck, hw⟩ := hck
    have hck2 := hck
    simp only [w_ft, Bool.and_eq_true, decide_eq_true_eq] at hck2
    exact bc_statX (O := p2_O) (z := 0) (g1 := 0) hb hz hg p2_nmu (fun _ _ _ _ h => h) (bs_F0 hb) h hc hmx hhj hna hlen hst (s0 S hS) hck2.1 (by omega) (by omega) (by omega) (fun σ => bc_gas2 hck2.2.1 hin hi) (fx_K hb hz hck hR hbc hbs (rq_go hw hck2.1 k))
  · have hz : bs_ok la 246 1 := Or.inr (Or.inr ⟨rfl, rfl, h3⟩)
    obtain ⟨S, hS, hin⟩ := mw_in v1 hx
    have hck := List.all_eq_true.mp c1 S hS
    simp only [Bool.and_eq_true] at hck
    obtain ⟨hck, hw⟩ := hck
    have hck2 := hck
    simp only [w_ft, Bool.and_eq_true, decide_eq_true_eq] at hck2
    exact bc_statX (O := p2_OL) (z := 246) (g1 := 1) hb hz hg pl_nmu (fun _ _ _ _ h => pl_o h) (bs_F1 hb h3) h hc hmx hhj hna hlen hst (s1 S hS) hck2.1 (by omega) (by omega) (by omega) (fun σ => bc_gas2 hck2.2.1 hin hi) (fx_K hb hz hck hR hbc hbs (rq_go hw hck2.1 k))
theorem ft_m (hb : bg g la K R M) (hg : g < 10000) (hR : MID la K M N lw A im 0 w f N lw A im t w f) (h : gm_at 370 pc = some (.invokevirtual ix)) (hc : gm_cal (gm_ow 370) ix = some (0, mj)) (hmx : gm_ow mj ≠ gm_mxi) (hcn : gm_cn 11 = (gm_mn mj).cls) (hna : xs.length = gm_na mj) (hlen : xs.length + 1 ≤ gm_ml mj) (hst : (st.map gm_cat).sum ≤ 8) (s0 : ∀ S ∈ l, ck_Ok p2_O X LX mj S) (c0 : l.all (fun S => w_ft p2_O 100003 0 226 false 226 8 S && w_r r S) = true) (v0 : bc_cov 60 ds (l.map bc_box) = true) (hx : bc_in ds xs) (hi : ∀ x ∈ xs, gm_ir x) (hbc : 6 ≤ bc) (hbs : 600 ≤ bs) (k : rq_K X LX bc bs (pc + 3) L st Q g r (fun la2 K2 M2 => REL la2 K2 M2 N lw A im 0 w f)) : gm_Wp X LX 280 bc bs 370 pc L ((xs.map gm_vi).reverse ++ gm_vr 226 :: st) (245 + 4 * g) K R M Q := by
  obtain ⟨S, hS, hin⟩ := mw_in v0 hx
  have hck := List.all_eq_true.mp c0 S hS
  simp only [Bool.and_eq_true] at hck
  obtain ⟨hck, hw⟩ := hck
  have hck2 := hck
  simp only [w_ft, Bool.and_eq_true, decide_eq_true_eq] at hck2
  exact bc_virtX (O := p2_O) (z := 100003) (g1 := 0) (k1 := 226) (ci := 11) hb (Or.inr (Or.inl ⟨rfl, rfl⟩)) hg p2_nmu (fun _ _ _ _ h => h) (bs_F0 hb) ⟨by decide, by decide⟩ (mw_k1 hb).2 h hc hmx (by decide) hcn hna hlen hst (s0 S hS) hck2.1 (by omega) (by omega) (by omega) (rq_as hck2.2.1 hin hi) (fm_K hb hck hR hbc hbs (rq_go hw hck2.1 k))
/-- a method that hands back a field -/
theorem mn_get {k ci j0 j : Nat} {v : Int} (hb : bg g la K R M) (hk9 : ci < 12) (ht : p2_O.1 k = some (ci + 4, 0)) (h : gm_at 370 pc = some (.invokevirtual ix)) (hc : gm_cal (gm_ow 370) ix = some (0, mj)) (hmx : gm_ow mj ≠ gm_mxi) (hh : gm_hh 370 = []) (hcn : gm_cn ci = (gm_mn mj).cls) (hna : 0 = gm_na mj) (hlen : 1 ≤ gm_ml mj) (hst : (st.map gm_cat).sum ≤ 8) (a0 : gm_at mj 0 = some (.aload_n 0)) (a1 : gm_at mj 1 = some (.getfield j0)) (a2 : gm_at mj 4 = some .ireturn) (hf : gm_fld (gm_ow mj) j0 ci = some j) (hs : ¬ gm_isr ci j = true) (hr : gm_rt mj = some .int) (hv : M k (j : Int) = v) (q : gm_Wp X LX 280 bc bs 370 (pc + 3) L (gm_vi v :: st) (245 + 4 * g) K R M Q) : gm_Wp X LX 280 bc bs 370 pc L (gm_vr k :: st) (245 + 4 * g) K R M Q := by
  have k226 : (1 ≤ k ∧ k ≤ 245 + 4 * g) ∧ (K k).1 = ci + 4 := e0k (e0F hb.2.1) (k := k) (c := ci) ht
  refine gm_c_virt (k := k) (ci := ci) (mj := mj) (ix := ix) (pc := pc) (as := []) (st := st) (d' := 1) (bc' := 0) (bs' := 0) h hc hmx hh k226.1 k226.2 hk9 hcn hna fw_c0 hlen hst (by decide) (Nat.zero_le _) (Nat.zero_le _) ?_
  refine gm_sz (gm_p_load (pc := 0) (i := .aload_n 0) (sr := 2) (j := 0) a0 rfl rfl rfl) ?_
  refine gm_sz (fw_gi (pc := 1) (ix := j0) (ci := ci) (j := j) (x := v) a1 k226 hf hs hv) ?_
  refine gm_r_int (pc := 4) a2 (Or.inl hr) ?_
  show gm_Wp X LX 280 (bc - 0) (bs - 0) 370 (pc + 3) L (gm_vi v :: st) (245 + 4 * g) K R M Q
  exact q
/-- m.thrown() -/
theorem mn_th {j0 : Nat} (hb : bg g la K R M) (h : gm_at 370 pc = some (.invokevirtual ix)) (hc : gm_cal (gm_ow 370) ix = some (0, mj)) (hmx : gm_ow mj ≠ gm_mxi) (hh : gm_hh 370 = []) (hcn : gm_cn 11 = (gm_mn mj).cls) (hna : 0 = gm_na mj) (hlen : 1 ≤ gm_ml mj) (hst : (st.map gm_cat).sum ≤ 8) (a0 : gm_at mj 0 = some (.aload_n 0)) (a1 : gm_at mj 1 = some (.getfield j0)) (a2 : gm_at mj 4 = some .ireturn) (hf : gm_fld (gm_ow mj) j0 11 = some 0) (hs : ¬ gm_isr 11 0 = true) (hr : gm_rt mj = some .int) (k : gm_Wp X LX 280 bc bs 370 (pc + 3) L (gm_vi (M 226 0) :: st) (245 + 4 * g) K R M Q) : gm_Wp X LX 280 bc bs 370 pc L (gm_vr 226 :: st) (245 + 4 * g) K R M Q := by
  have k226 : (1 ≤ 226 ∧ 226 ≤ 245 + 4 * g) ∧ (K 226).1 = 11 + 4 := e0k (e0F hb.2.1) (k := 226) (c := 11) (by decide +kernel)
  refine gm_c_virt (k := 226) (ci := 11) (mj := mj) (ix := ix) (pc := pc) (as := []) (st := st) (d' := 1) (bc' := 0) (bs' := 0) h hc hmx hh k226.1 k226.2 (by decide) hcn hna fw_c0 hlen hst (by decide) (Nat.zero_le _) (Nat.zero_le _) ?_
  refine gm_sz (gm_p_load (pc := 0) (i := .aload_n 0) (sr := 2) (j := 0) a0 rfl rfl rfl) ?_
  refine gm_sz (fw_gi (pc := 1) (ix := j0) (ci := 11) (j := 0) (x := M 226 0) a1 k226 hf hs rfl) ?_
  refine gm_r_int (pc := 4) a2 (Or.inl hr) ?_
  show gm_Wp X LX 280 (bc - 0) (bs - 0) 370 (pc + 3) L (gm_vi (M 226 0) :: st) (245 + 4 * g) K R M Q
  exact k
theorem mn_l5 {i y : Int} (hL : mn_L i L) : (gm_lst L 5 (gm_vi y))[5]? = some (some (gm_vi y)) := by
  show ((gm_lc L 5).set 5 (some (gm_vi y)))[5]? = _
  rw [List.getElem?_set, if_pos rfl, if_pos (by rw [gm_lc_len]; have := hL.1; omega)]
theorem mn_l6 {i y : Int} (hL : mn_L i L) : (gm_lst L 6 (gm_vi y))[6]? = some (some (gm_vi y)) := by
  show ((gm_lc L 6).set 6 (some (gm_vi y)))[6]? = _
  rw [List.getElem?_set, if_pos rfl, if_pos (by rw [gm_lc_len]; have := hL.1; omega)]
theorem mn_l65 {x y : Int} (h : L[5]? = some (some (gm_vi x))) : (gm_lst L 6 (gm_vi y))[5]? = some (some (gm_vi x)) := by
  show ((gm_lc L 6).set 6 (some (gm_vi y)))[5]? = _
  rw [List.getElem?_set, if_neg (by decide)]
  show (match L[5]? with
    | some (some (.inr (.inl _))) => L.set 5 none
    | _ => L)[5]? = _
  rw [h]
  exact h
theorem pv_cmp {c v y m : Int} (hc : gm_ir c) (hv : ∀ v2, oV c v = some v2 → Int64.ofInt m = Int64.ofInt (gm_w v2)) (hy : c = 0 → y = v) : gm_w c = gm_w 0 → gm_w6 m = gm_w6 (gm_w y) := by
  intro h0
  have e : gm_w c = c := dw_i hc
  have hc0 : c = 0 := by rw [e] at h0; exact h0.trans (by decide)
  rw [hy hc0]
  exact dt_w6 (hv v (if_pos hc0))
/-- thrown the same, and, where nothing is, the same number -/
theorem mn_cmpA {i c y : Int} {p ixt jt : Nat} (hb : bg g la K R M) (hL : mn_L i L) (l5 : L[5]? = some (some (gm_vi c))) (l6 : L[6]? = some (some (gm_vi y))) (a0 : gm_at 370 p = some (.aload_n 2)) (a1 : gm_at 370 (p + 1) = some (.invokevirtual ixt)) (hc : gm_cal (gm_ow 370) ixt = some (0, mj)) (hmx : gm_ow mj ≠ gm_mxi) (hh : gm_hh 370 = []) (hcn : gm_cn 11 = (gm_mn mj).cls) (hna : 0 = gm_na mj) (hlen : 1 ≤ gm_ml mj) (b0 : gm_at mj 0 = some (.aload_n 0)) (b1 : gm_at mj 1 = some (.getfield jt)) (b2 : gm_at mj 4 = some .ireturn) (hf : gm_fld (gm_ow mj) jt 11 = some 0) (hs : ¬ gm_isr 11 0 = true) (hr : gm_rt mj = some .int)
    (a4 : gm_at 370 (p + 4) = some (.iload 5)) (a6 : gm_at 370 (p + 6) = some (.if_icmp .eq 5)) (a11 : gm_at 370 (p + 11) = some (.iload 5)) (a13 : gm_at 370 (p + 13) = some (.ifCond .ne 15)) (a16 : gm_at 370 (p + 16) = some (.aload_n 3)) (a17 : gm_at 370 (p + 17) = some (.iconst 0)) (a18 : gm_at 370 (p + 18) = some .laload) (a19 : gm_at 370 (p + 19) = some (.iload 6)) (a21 : gm_at 370 (p + 21) = some .i2l) (a22 : gm_at 370 (p + 22) = some .lcmp) (a23 : gm_at 370 (p + 23) = some (.ifCond .eq 5))
    (hth : gm_w (M 226 0) = gm_w c) (hv : gm_w c = gm_w 0 → gm_w6 (M 245 0) = gm_w6 (gm_w y)) (k : gm_Wp X LX 280 bc bs 370 (p + 28) L [] (245 + 4 * g) K R M Q) : gm_Wp X LX 280 bc bs 370 p L [] (245 + 4 * g) K R M Q := by
  have t1 : gm_tgt (p + 6) 5 = p + 11 := by unfold gm_tgt; omega
  have t2 : gm_tgt (p + 13) 15 = p + 28 := by unfold gm_tgt; omega
  have t3 : gm_tgt (p + 23) 5 = p + 28 := by unfold gm_tgt; omega
  have k245 : K 245 = (2, 1) := (hb.2.1.1 245 (2, 1) (by decide +kernel)).2.2
  refine gm_sz (gm_p_load a0 (sr := 2) (j := 2) rfl hL.2.2.2.1 rfl) ?_
  refine mn_th hb a1 hc hmx hh hcn hna hlen (by decide) b0 b1 b2 hf hs hr ?_
  refine gm_sz (gm_p_load (pc := p + 4) a4 (sr := 0) (j := 5) rfl l5 rfl) ?_
  refine gm_b_ic (cc := .eq) (pc := p + 6) a6 (by omega) (fun _ => ?_) (fun hp => absurd hth hp)
  rw [t1]
  refine gm_sz (gm_p_load (pc := p + 11) a11 (sr := 0) (j := 5) rfl l5 rfl) ?_
  refine gm_b_if (cc := .ne) (pc := p + 13) a13 (by omega) (fun hp => ?_) (fun hp => ?_)
  · rw [t2]
    exact k
  · have h0 : gm_w c = gm_w 0 := Classical.not_not.mp hp
    refine gm_sz (gm_p_load (pc := p + 16) a16 (sr := 2) (j := 3) rfl hL.2.2.2.2.1 rfl) ?_
    refine gm_sz (gm_p_const (pc := p + 17) a17 (v := gm_vi 0) rfl) ?_
    refine gm_sz (gm_p_lald (pc := p + 18) (k := 245) a18 ⟨by decide, by omega⟩ (by rw [k245]) (by rw [k245]; decide)) ?_
    refine gm_sz (gm_p_load (pc := p + 19) a19 (sr := 0) (j := 6) rfl l6 rfl) ?_
    refine gm_sz (gm_p_i2l (pc := p + 21) a21) ?_
    refine gm_sz (gm_p_lcmp (pc := p + 22) a22) ?_
    have eq0 : gm_lcm (M 245 (gm_w 0)) (gm_w y) = 0 := by
      have a : gm_w6 (M 245 0) = gm_w6 (gm_w y) := hv h0
      show gm_lcm (M 245 0) (gm_w y) = 0
      unfold gm_lcm
      rw [if_neg (by omega), if_pos a]
    rw [eq0]
    refine gm_b_if (cc := .eq) (pc := p + 23) a23 (by omega) (fun _ => ?_) (fun hp3 => absurd rfl hp3)
    rw [t3]
    exact k
end VW
end
/-! 7c42.ct -/
section
/-! THE CLASS'S CONSTRUCTOR, told by two rows at once: what is reached by the same references is the same. -/
def dt_S (n n1 n2 : Nat) (S : Nat → Nat → Prop) (K1 : gm_K) (R1 : gm_R) (M1 : gm_M) (K2 : gm_K) (R2 : gm_R) (M2 : gm_M) : Prop :=
  (∀ k, 1 ≤ k → k ≤ n → S k k) ∧
  (∀ k1 k2 c j r1 r2 : Nat, S k1 k2 → K1 k1 = K2 k2 → (K1 k1).1 = c + 4 → j < gm_nf c → gm_isr c j = true → R1 k1 (j : Int) = r1 → R2 k2 (j : Int) = r2 → 1 ≤ r1 → r1 ≤ n1 → r1 < 100000 → 1 ≤ r2 → r2 ≤ n2 → r2 < 100000 → S r1 r2) ∧
  (∀ k1 k2 : Nat, S k1 k2 → K1 k1 = K2 k2 → (K1 k1).1 = 0 → ∀ j : Nat, j < (K1 k1).2 → Int32.ofInt (M1 k1 (j : Int)) = Int32.ofInt (M2 k2 (j : Int)))
theorem dt_mem2 {D : va_G} {ti : Nat → ClassId} {H : Heap} {α α1 α2 : Nat → Nat} {n n1 n2 : Nat} {K1 K2 : gm_K} {R1 R2 : gm_R} {M1 M2 : gm_M} (x1 : gm_xt α n α1 n1) (x2 : gm_xt α n α2 n2) (p1 : va_P D gm_cs (gm_wl ti α1 n1 K1 R1 M1) H) (p2 : va_P D gm_cs (gm_wl ti α2 n2 K2 R2 M2) H) : dt_S n n1 n2 (fun k1 k2 => α1 k1 = α2 k2 ∧ (1 ≤ k1 ∧ k1 ≤ n1) ∧ 1 ≤ k2 ∧ k2 ≤ n2) K1 R1 M1 K2 R2 M2 := by
  refine ⟨fun k h1 h2 => ⟨(x1.2.1 k h1 h2).trans (x2.2.1 k h1 h2).symm, ⟨h1, Nat.le_trans h2 x1.1⟩, h1, Nat.le_trans h2 x2.1⟩, fun k1 k2 c j r1 r2 hs hK h hj hr e1 e2 b1 b2 b3 b4 b5 b6 => ⟨?_, ⟨b1, b2⟩, b4, b5⟩, fun k1 k2 hs hK h j hj => ?_⟩
  · obtain ⟨ha, ⟨s1, s2⟩, s3, s4⟩ := hs
    have a1 := p1 _ _ (gm_wl_at (ti := ti) (α := α1) (K := K1) (R := R1) (M := M1) s1 s2)
    have a2 := p2 _ _ (gm_wl_at (ti := ti) (α := α2) (K := K2) (R := R2) (M := M2) s3 s4)
    rw [← ha] at a2
    have g1 : gm_en ti α1 K1 R1 M1 k1 = .inr (c, gm_fs α1 R1 M1 k1 c) := gm_en_obj h
    have g2 : gm_en ti α2 K2 R2 M2 k2 = .inr (c, gm_fs α2 R2 M2 k2 c) := gm_en_obj (by rw [← hK]; exact h)
    rw [g1] at a1
    rw [g2] at a2
    obtain ⟨q1, hq1, c1, v1, -, -, f1⟩ := a1
    obtain ⟨q2, hq2, c2, v2, -, -, f2⟩ := a2
    have hq1 : gm_cs[c]? = some q1 := hq1
    have hq2 : gm_cs[c]? = some q2 := hq2
    rw [hq1] at hq2
    cases hq2
    rw [v1] at v2
    cases v2
    have hc : c < 12 := (List.getElem?_eq_some_iff.mp hq1).1
    obtain ⟨T, N, w1, w2⟩ := gm_cs_get hc
    rw [hq1] at w1
    cases w1
    have g1 : c1.slots[D.2 c j]? = some (vp_V (gm_fs α1 R1 M1 k1 c) j) := f1 j (by show j < N; omega)
    have g2 : c1.slots[D.2 c j]? = some (vp_V (gm_fs α2 R2 M2 k2 c) j) := f2 j (by show j < N; omega)
    rw [g1] at g2
    have g3 := Option.some.inj g2
    unfold vp_V at g3
    rw [List.getD_eq_getElem?_getD, List.getD_eq_getElem?_getD, gm_fs_at hj, gm_fs_at hj, if_pos hr, if_pos hr, e1, e2] at g3
    cases r1 with
    | zero => omega
    | succ a =>
      cases r2 with
      | zero => omega
      | succ b =>
        have g4 : (if a + 1 < 100000 then Value.ref (α1 (a + 1)) else match α1 (a + 1) with | 0 => Value.null | x + 1 => Value.ref x) = (if b + 1 < 100000 then Value.ref (α2 (b + 1)) else match α2 (b + 1) with | 0 => Value.null | x + 1 => Value.ref x) := g3
        rw [if_pos b3, if_pos b6] at g4
        exact Value.ref.inj g4
  · obtain ⟨ha, ⟨s1, s2⟩, s3, s4⟩ := hs
    have a1 := p1 _ _ (gm_wl_at (ti := ti) (α := α1) (K := K1) (R := R1) (M := M1) s1 s2)
    have a2 := p2 _ _ (gm_wl_at (ti := ti) (α := α2) (K := K2) (R := R2) (M := M2) s3 s4)
    rw [← ha] at a2
    have e1 : gm_en ti α1 K1 R1 M1 k1 = .inl (ti 0, (K1 k1).2, .inl fun j => Int32.ofInt (M1 k1 j)) := by unfold gm_en; rw [h]
    have e2 : gm_en ti α2 K2 R2 M2 k2 = .inl (ti 0, (K1 k1).2, .inl fun j => Int32.ofInt (M2 k2 j)) := by unfold gm_en; rw [← hK, h]
    rw [e1] at a1
    rw [e2] at a2
    have a3 : H[α1 k1]? = some (arrV (ti 0) (K1 k1).2 (fun j => .int (Int32.ofInt (M1 k1 (j : Int))))) := a1
    have a4 : H[α1 k1]? = some (arrV (ti 0) (K1 k1).2 (fun j => .int (Int32.ofInt (M2 k2 (j : Int))))) := a2
    rw [a3] at a4
    have a5 := dt_arr (f := fun j : Nat => .int (Int32.ofInt (M1 k1 (j : Int)))) (g := fun j : Nat => .int (Int32.ofInt (M2 k2 (j : Int)))) (Option.some.inj a4) j hj
    exact Value.int.inj a5
theorem gm_Wp_and2 {X : Int → Int} {LX d bc bs mi pc n : Nat} {L : gm_L} {st : List gm_V} {K : gm_K} {R : gm_R} {M : gm_M} {Q1 Q2 : gm_Q} (h1 : gm_Wp X LX d bc bs mi pc L st n K R M Q1) (h2 : gm_Wp X LX d bc bs mi pc L st n K R M Q2) : gm_Wp X LX d bc bs mi pc L st n K R M (fun o n1 K1 R1 M1 => Q1 o n1 K1 R1 M1 ∧ ∃ (o2 : gm_O) (n2 : Nat) (K2 : gm_K) (R2 : gm_R) (M2 : gm_M) (S : Nat → Nat → Prop), Q2 o2 n2 K2 R2 M2 ∧ dt_o o o2 ∧ dt_S n n1 n2 S K1 R1 M1 K2 R2 M2) := by
  intro p l e Rm s m args below meth c D ti adK adV A α0 n0 mc ms hcx hev hd hd2 hmc hms hA α H locs cells slots ls sv hxt hc1 hc2 hR hL hS
  have k1 := h1 p l e Rm s m args below meth c D ti adK adV A α n mc ms hcx hev hd hd2 hmc hms hA α H locs cells slots ls sv gm_xt.rf hc1 hc2 hR hL hS
  have k2 := h2 p l e Rm s m args below meth c D ti adK adV A α n mc ms hcx hev hd hd2 hmc hms hA α H locs cells slots ls sv gm_xt.rf hc1 hc2 hR hL hS
  intro T hT Xs
  obtain ⟨t1, s1, o1, r1, e1, q1⟩ := k1 T hT Xs
  obtain ⟨t2, s2, o2, r2, e2, q2⟩ := k2 T hT Xs
  obtain ⟨rfl, rfl⟩ := dt_end s1 e1 s2 e2
  refine ⟨t1, s1, o1, r1, e1, ?_⟩
  rcases q1 with ⟨⟨⟨v1, u1, α1, n1, K1, R1, M1, ho1, hv1, hq1, hx1, hk1, hp1, hd1, hr1⟩, hF1⟩, hL1⟩ | ⟨a1, ho1, E1, ce1, L1, ⟨⟨x1, α1, n1, K1, R1, M1, hE1, hx15, hq1, hx1, hk1, hp1, hd1, hr1⟩, hF1⟩, hrest⟩
  · rcases q2 with ⟨⟨⟨v2, u2, α2, n2, K2, R2, M2, ho2, hv2, hq2, hx2, hk2, hp2, hd2', hr2⟩, -⟩, -⟩ | ⟨a2, ho2, -⟩
    · rw [ho1] at ho2
      cases ho2
      exact Or.inl ⟨⟨⟨v1, u1, α1, n1, K1, R1, M1, ho1, hv1, ⟨hq1, .inl u2, n2, K2, R2, M2, _, hq2, dt_cv hv1 hv2, dt_mem2 hx1 hx2 hp1 hp2⟩, gm_xt.trans hxt hx1, hk1, hp1, hd1, hr1⟩, hF1⟩, hL1⟩
    · rw [ho1] at ho2
      cases ho2
  · rcases q2 with ⟨⟨⟨v2, u2, α2, n2, K2, R2, M2, ho2, hv2, hq2, hx2, hk2, hp2, hd2', hr2⟩, -⟩, -⟩ | ⟨a2, ho2, E2, ce2, L2, ⟨⟨x2, α2, n2, K2, R2, M2, hE2, hx25, hq2, hx2, hk2, hp2, hd2', hr2⟩, -⟩, -⟩
    · rw [ho1] at ho2
      cases ho2
    · exact Or.inr ⟨a1, ho1, E1, ce1, L1, ⟨⟨x1, α1, n1, K1, R1, M1, hE1, hx15, ⟨hq1, .inr x2, n2, K2, R2, M2, _, hq2, trivial, dt_mem2 hx1 hx2 hp1 hp2⟩, gm_xt.trans hxt hx1, hk1, hp1, hd1, hr1⟩, hF1⟩, hrest⟩
def st_U : ck_F := match pc_s130u.2.2.2.2.2 with
  | oc :: _ => oc.2.2
  | [] => ([], [], [])
/-- THE ROW of the class's constructor, every heat told -/
def pc_s130 : ck_Sum := (pc_s130u.1, pc_s130u.2.1, pc_s130u.2.2.1, pc_s130u.2.2.2.1, pc_s130u.2.2.2.2.1, [(.inr none, 225, (st_U.1, st_U.2.1, st_H ++ st_U.2.2))])
set_option maxRecDepth 100000 in
theorem st_u1 : pc_s130u.2.2.2.2.2 = [(.inr none, 225, st_U)] ∧ (pc_s130u.2.1 = 1 ∧ pc_s130u.2.2.2.1 = ([(1, 4, 0)], [], [])) := ⟨rfl, rfl, rfl⟩
set_option maxRecDepth 100000 in
theorem st_u2 : (st_U.1.any (fun q => decide (q = (200, 8, 0))) && st_U.1.any (fun q => decide (q = (201, 0, 300)))) = true ∧ (st_U.2.1.any (fun q => decide (q = (1, 8, 200))) && (st_U.2.1.any (fun q => decide (q = (200, 1, 201))) && st_U.2.2.any (fun q => decide (q.1 = 201 ∧ q.2.1 = 0 ∧ q.2.2.1 = 299)))) = true := by decide +kernel
set_option maxRecDepth 100000 in
theorem st_u3 : st_H.all (fun q => decide (q.1 = 201 ∧ 0 ≤ q.2.1 ∧ q.2.1 = q.2.2.1 ∧ q.2.1 < 300)) = true := by decide +kernel
theorem st_any {T : Type} {l : List T} {p : T → Prop} [DecidablePred p] (h : l.any (fun q => decide (p q)) = true) : ∃ q ∈ l, p q := by
  obtain ⟨q, h1, h2⟩ := List.any_eq_true.mp h
  exact ⟨q, h1, of_decide_eq_true h2⟩
theorem pc_s130_s {X : Int → Int} {LX : Nat} : ck_Ok ck_O0 X LX 0 pc_s130 := by
  intro d σ vs n K R M hd hn ha hm hF hf
  have h1 := pc_s130u_s (X := X) (LX := LX) d σ vs n K R M hd hn ha hm hF hf
  have h2 := pc_w130_s (X := X) (LX := LX) d σ vs n K R M hd hn ha hm hF hf
  refine gm_Wp_mono ?_ (gm_Wp_and2 h1 h2)
  rintro o n1 K1 R1 M1 ⟨⟨g1, g2, oc, hoc, g3, g4, g5⟩, o2, n2, K2, R2, M2, S, ⟨-, w2, oc2, hoc2, -, w4, w5⟩, -, hS⟩
  rw [st_u1.1] at hoc
  have hoc : oc = (.inr none, 225, st_U) := List.mem_singleton.mp hoc
  subst hoc
  have hoc2 : oc2 = (.inr none, 225, ([(200, 8, 0), (201, 0, 300)], [(1, 8, 200), (200, 1, 201)], st_H)) := List.mem_singleton.mp hoc2
  subst hoc2
  have g4 : n1 = 225 := g4
  have w4 : n2 = 225 := w4
  have hn : n = 1 := hn.trans st_u1.2.1
  have u2 := st_u2
  simp only [Bool.and_eq_true] at u2
  obtain ⟨⟨a1, a2⟩, a3, a4, a5⟩ := u2
  obtain ⟨q1, m1, rfl⟩ := st_any a1
  obtain ⟨q2, m2, rfl⟩ := st_any a2
  obtain ⟨q3, m3, rfl⟩ := st_any a3
  obtain ⟨q4, m4, rfl⟩ := st_any a4
  obtain ⟨q5, m5, b1, b2, b3⟩ := st_any a5
  have k1 : K1 200 = (8, 0) := (g5.1 _ m1).2
  have k2 : K1 201 = (0, 300) := (g5.1 _ m2).2
  have k3 : R1 1 8 = 200 := (g5.2.1 _ m3).2
  have k4 : R1 200 1 = 201 := (g5.2.1 _ m4).2
  have k5 : K2 200 = (8, 0) := (w5.1 (200, 8, 0) (by simp)).2
  have k6 : K2 201 = (0, 300) := (w5.1 (201, 0, 300) (by simp)).2
  have k7 : R2 1 8 = 200 := (w5.2.1 (1, 8, 200) (by simp)).2
  have k8 : R2 200 1 = 201 := (w5.2.1 (200, 1, 201) (by simp)).2
  have k0 : K 1 = (4, 0) := by
    have hf1 := hf.1
    rw [show pc_s130.2.2.2.1 = ([(1, 4, 0)], [], []) from st_u1.2.2] at hf1
    exact (hf1 (1, 4, 0) (by simp)).2
  have c1 : K1 1 = (4, 0) := (g2.2.1 1 (by omega)).trans k0
  have c2 : K2 1 = (4, 0) := (w2.2.1 1 (by omega)).trans k0
  have s1 : S 1 1 := hS.1 1 (Nat.le_refl _) (by omega)
  have s2 : S 200 200 := hS.2.1 1 1 0 8 200 200 s1 (c1.trans c2.symm) (by rw [c1]) (by decide) (by decide) k3 k7 (by omega) (by omega) (by omega) (by omega) (by omega) (by omega)
  have s3 : S 201 201 := hS.2.1 200 200 4 1 201 201 s2 (k1.trans k5.symm) (by rw [k1]) (by decide) (by decide) k4 k8 (by omega) (by omega) (by omega) (by omega) (by omega) (by omega)
  have hH : ∀ j : Int, 0 ≤ j → j < 300 → gm_ir (M2 201 j) → M1 201 j = M2 201 j := fun j j0 j1 hj => by
    have h3 := hS.2.2 201 201 s3 (k2.trans k6.symm) (by rw [k2]) j.toNat (by rw [k2]; show j.toNat < 300; omega)
    rw [show ((j.toNat : Nat) : Int) = j by omega] at h3
    have h4 := (g5.2.2 q5 m5).2 j (by omega) (by omega)
    rw [b1] at h4
    exact dt_i h3 h4.1 hj
  refine ⟨g1, g2, (.inr none, 225, (st_U.1, st_U.2.1, st_H ++ st_U.2.2)), List.mem_singleton.mpr rfl, g3, g4, g5.1, g5.2.1, fun q hq => ?_⟩
  rcases List.mem_append.mp hq with hq | hq
  · obtain ⟨e1, e2, e3, e4⟩ := of_decide_eq_true (List.all_eq_true.mp st_u3 q hq)
    have h3 := w5.2.2 q hq
    refine ⟨by omega, fun j j1 j2 => ?_⟩
    have h4 := h3.2 j j1 j2
    rw [e1] at h4 ⊢
    rw [hH j (by omega) (by omega) h4.1]
    exact h4
  · exact g5.2.2 q hq
end
