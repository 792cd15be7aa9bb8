/-! 7c38.gr -/
section
/-! ROWS THAT KEEP SOMETHING, again under qR_O (laid by wip/rel/gh2.py). -/
section GHR
variable {X : Int → Int} {LX : Nat}
noncomputable def Q293p6 : ck_Sum := (((0 : Nat), (0 : Nat), (0 : Nat)), (245 : Nat), [.inr (.inr (.inl (226 : Nat))), .inl ((6 : Int), (6 : Int), [])], ([], [], []), ([((226 : Nat), (26 : Int), (26 : Int)), ((235 : Nat), (0 : Int), (29699 : Int))], []), [(.inr none, (245 : Nat), ([], [], [((226 : Nat), (26 : Int), (26 : Int), ((6 : Int), (6 : Int), []))]))])
set_option maxRecDepth 100000 in
theorem Q293p6_s : ck_Ok p2_O X LX 293 Q293p6 := ck_okq (cuts := [((16 : Nat), [some (.inr (.inr (.inl (226 : Nat)))), some (.inl ((6 : Int), (6 : Int), [])), some (.inl ((0 : Int), (29700 : Int), []))], ([], [], [((226 : Nat), (26 : Int), (26 : Int), ((6 : Int), (6 : Int), []))]), (100 : Nat), .inl (2 : Nat), true)]) (f := 142) ⟨p2_nmu, ck_E0⟩ (by decide +kernel)
noncomputable def Q292p6 : ck_Sum := (((4 : Nat), (0 : Nat), (0 : Nat)), (245 : Nat), [.inr (.inr (.inl (226 : Nat))), .inl ((6 : Int), (6 : Int), []), .inl ((0 : Int), (98 : Int), []), .inl ((0 : Int), (299 : Int), [])], ([], [], [((227 : Nat), (2 : Int), (2 : Int), ((0 : Int), (8 : Int), [((20 : Nat), (0 : Int))]))]), ([((226 : Nat), (17 : Int), (23 : Int)), ((226 : Nat), (26 : Int), (26 : Int)), ((233 : Nat), (0 : Int), (399 : Int)), ((235 : Nat), (0 : Int), (29699 : Int))], []), [(.inr (some (.inl ((0 : Int), (30 : Int), []))), (245 : Nat), ([], [], [((226 : Nat), (26 : Int), (26 : Int), ((6 : Int), (6 : Int), []))]))])
noncomputable def Q292p6_E : List (Nat × List ck_Sum) := [((293 : Nat), [Q293p6]), ((290 : Nat), [p2_s299]), ((294 : Nat), [sl_S])]
noncomputable def Q292p6_L : ck_AL := [some (.inr (.inr (.inl (226 : Nat)))), some (.inl ((6 : Int), (6 : Int), [])), some (.inl ((0 : Int), (98 : Int), [])), some (.inl ((0 : Int), (299 : Int), [])), some (.inl ((0 : Int), (29699 : Int), [])), none]
set_option maxRecDepth 100000 in
noncomputable def Q292p6_F : ck_F := ([], [], [((226 : Nat), (26 : Int), (26 : Int), ((6 : Int), (6 : Int), [])), ((227 : Nat), (2 : Int), (2 : Int), ((0 : Int), (8 : Int), [((20 : Nat), (0 : Int))]))])
noncomputable def Q292p6_C : ck_C := (Q292p6_L, Q292p6_F, (0 : Nat), .inl (4 : Nat), true)
set_option maxRecDepth 100000 in
theorem Q292p6_a : (decide (Q292p6.2.2.1.length ≤ gm_ml 292) && ck_go p2_O none [] Q292p6_E 292 Q292p6.1.1 Q292p6.2.1 Q292p6.2.2.2.2.1 Q292p6.2.2.2.2.2 [(14, Q292p6_C)] 900 false [(14, Q292p6_C, 0, 0, 245)] Q292p6.1.2.1 Q292p6.1.2.2 0 (Q292p6.2.2.1.map some ++ List.replicate (gm_ml 292 - Q292p6.2.2.1.length) none) [] Q292p6.2.1 Q292p6.2.2.2.1) = true := by decide +kernel
set_option maxRecDepth 100000 in
theorem Q292p6_b : ck_go p2_O none [] Q292p6_E 292 Q292p6.1.1 Q292p6.2.1 Q292p6.2.2.2.2.1 Q292p6.2.2.2.2.2 [] 900 true [] 0 0 34 Q292p6_L [] 245 Q292p6_F = true := by decide +kernel
set_option maxRecDepth 100000 in
theorem Q292p6_f : gm_tyr p2_O 235 0 29699 = some (0, 31) := by decide +kernel
set_option maxRecDepth 100000 in
theorem Q292p6_g : ck_leF p2_O Q292p6_F (([], [], [(226, 26, 26, (6, 6, []))])) = true := by decide +kernel
theorem Q292p6_h : ck_nmu p2_O ∧ ck_OkE p2_O X LX Q292p6_E := ⟨p2_nmu, ck_E1 (ck_S1 Q293p6_s ck_S0) (ck_E1 (ck_S1 p2_s299_s ck_S0) (ck_E1 (ck_S1 sl_S_s ck_S0) ck_E0))⟩
theorem Q292p6_s : ck_Ok p2_O X LX 292 Q292p6 := by
  refine ck_ok_st (cuts := [((14 : Nat), Q292p6_C)]) (by decide) Q292p6_h Q292p6_a (fun h hm => ?_)
  rw [List.mem_singleton.mp hm]
  refine ⟨List.mem_singleton.mpr rfl, fun σ K0 R0 M0 v _ bc bs L K R M hb1 hb2 hS _ => ?_⟩
  obtain ⟨hF, hl, hs, hf, hfr⟩ := hS
  obtain ⟨u0, e0, g0⟩ := hl.2 0 (.inr (.inr (.inl 226))) rfl
  cases g0
  obtain ⟨u4, e4, t, rfl, ht1, ht2, ht3, -⟩ := hl.2 4 (.inl (0, 29699, [])) rfl
  have ht2 : (0 : Int) ≤ t := ht2
  have ht3 : t ≤ (29699 : Int) := ht3
  obtain ⟨-, hM1, hM2⟩ := (gm_tyr_s hF Q292p6_f).2 t (by omega) (by omega)
  have hM1 : (0 : Int) ≤ M 235 t := hM1
  have hM2 : M 235 t ≤ (31 : Int) := hM2
  refine ck_flow (O := p2_O) hF (k := 226) (fl := 235) (by decide +kernel) (by decide +kernel) (by decide +kernel) e0 e4 ⟨by omega, by omega⟩ ⟨by omega, by omega⟩ (fun hp => ?_) ?_
  · exact ⟨hF, hfr, _, List.mem_cons_self, ⟨_, rfl, ⟨by omega, by omega⟩, by show (0 : Int) ≤ M 235 t - 1; omega, by show M 235 t - 1 ≤ (30 : Int); omega, fun _ h => nomatch h⟩, rfl, ck_leF_s hF hf Q292p6_g⟩
  · exact gm_Wp_wk (Nat.le_refl _) hb1 hb2 (ck_go_s (σ0 := σ) (cuts := []) (by decide) Q292p6_h ck_X0 ck_l0 900 true [] _ _ 34 _ [] _ _ σ L [] K R M (fun _ _ => rfl) (fun _ h => nomatch h) ⟨hF, hl, rfl, hf, hfr⟩ Q292p6_b)
theorem Q292 : ck_Ok qR_O X LX 292 q292 := q292_s p2_s318_s Q292p6_s
theorem qRl_p2_s290 : ck_Ok qR_O X LX 288 p2_s290 := qR_l p2_s290_s (by decide +kernel)
theorem qRl_p2_s241 : ck_Ok qR_O X LX 282 p2_s241 := qR_l p2_s241_s (by decide +kernel)
theorem qRl_p2_s242 : ck_Ok qR_O X LX 282 p2_s242 := qR_l p2_s242_s (by decide +kernel)
theorem qRl_p2_s243 : ck_Ok qR_O X LX 282 p2_s243 := qR_l p2_s243_s (by decide +kernel)
theorem qRl_p2_s298 : ck_Ok qR_O X LX 289 p2_s298 := qR_l p2_s298_s (by decide +kernel)
theorem qRl_p2_s263 : ck_Ok qR_O X LX 285 p2_s263 := qR_l p2_s263_s (by decide +kernel)
noncomputable def q_p2_s319 : ck_Sum := (((21 : Nat), (0 : Nat), (0 : Nat)), (245 : Nat), [.inr (.inr (.inl (226 : Nat))), .inl ((0 : Int), (5 : Int), []), .inl ((0 : Int), (98 : Int), []), .inl ((0 : Int), (299 : Int), [])], ([], [], [((227 : Nat), (2 : Int), (2 : Int), ((0 : Int), (8 : Int), [((20 : Nat), (0 : Int))]))]), ([((226 : Nat), (0 : Int), (0 : Int)), ((226 : Nat), (17 : Int), (23 : Int)), ((226 : Nat), (26 : Int), (26 : Int)), ((233 : Nat), (0 : Int), (399 : Int)), ((235 : Nat), (0 : Int), (29699 : Int))], []), [(.inr (some (.inl ((0 : Int), (30 : Int), []))), (245 : Nat), ([], [], [((226 : Nat), (0 : Int), (0 : Int), ((0 : Int), (1 : Int), []))]))])
set_option maxRecDepth 100000 in
theorem q_p2_s319_s : ck_Ok qR_O X LX 291 q_p2_s319 := ck_okq (cuts := []) (f := 126) ⟨qR_nmu, (ck_E1 (ck_S1 qRl_p2_s290 ck_S0) (ck_E1 (ck_S1 qRl_p2_s241 (ck_S1 qRl_p2_s242 (ck_S1 qRl_p2_s243 ck_S0))) (ck_E1 (ck_S1 qRl_p2_s298 ck_S0) (ck_E1 (ck_S1 qRl_p2_s263 ck_S0) (ck_E1 (ck_S1 Q292 ck_S0) ck_E0)))))⟩ (by decide +kernel)
theorem qRl_p2_s180 : ck_Ok qR_O X LX 259 p2_s180 := qR_l p2_s180_s (by decide +kernel)
theorem qRl_p2_s378 : ck_Ok qR_O X LX 307 p2_s378 := qR_l p2_s378_s (by decide +kernel)
noncomputable def q_p2_s379 : ck_Sum := (((21 : Nat), (0 : Nat), (0 : Nat)), (245 : Nat), [.inr (.inr (.inl (226 : Nat))), .inl ((0 : Int), (6 : Int), []), .inl ((0 : Int), (98 : Int), []), .inl ((0 : Int), (299 : Int), []), .inl ((0 : Int), (1 : Int), []), .inl ((-1 : Int), (7 : Int), [])], ([], [], [((227 : Nat), (2 : Int), (2 : Int), ((0 : Int), (8 : Int), [((20 : Nat), (0 : Int))])), ((227 : Nat), (5 : Int), (5 : Int), ((0 : Int), (8 : Int), [((23 : Nat), (0 : Int))]))]), ([((226 : Nat), (17 : Int), (23 : Int)), ((226 : Nat), (26 : Int), (26 : Int)), ((226 : Nat), (29 : Int), (30 : Int)), ((233 : Nat), (0 : Int), (399 : Int)), ((235 : Nat), (0 : Int), (29699 : Int)), ((236 : Nat), (0 : Int), (299 : Int)), ((237 : Nat), (0 : Int), (299 : Int))], []), [(.inr none, (245 : Nat), ([], [], []))])
set_option maxRecDepth 100000 in
theorem q_p2_s379_s : ck_Ok qR_O X LX 306 q_p2_s379 := ck_okq (cuts := [((3 : Nat), [some (.inr (.inr (.inl (226 : Nat)))), some (.inl ((0 : Int), (6 : Int), [])), some (.inl ((0 : Int), (98 : Int), [])), some (.inl ((0 : Int), (299 : Int), [])), some (.inl ((0 : Int), (1 : Int), [])), some (.inl ((-1 : Int), (7 : Int), [])), some (.inl ((0 : Int), (299 : Int), [])), none, none], ([], [], [((227 : Nat), (2 : Int), (2 : Int), ((0 : Int), (8 : Int), [((20 : Nat), (0 : Int))])), ((227 : Nat), (5 : Int), (5 : Int), ((0 : Int), (8 : Int), [((23 : Nat), (0 : Int))]))]), (100 : Nat), .inl (6 : Nat), true), ((50 : Nat), [some (.inr (.inr (.inl (226 : Nat)))), some (.inl ((0 : Int), (6 : Int), [])), some (.inl ((0 : Int), (98 : Int), [])), some (.inl ((0 : Int), (299 : Int), [])), some (.inl ((0 : Int), (1 : Int), [])), some (.inl ((-1 : Int), (7 : Int), [])), some (.inl ((0 : Int), (288 : Int), [])), some (.inl ((0 : Int), (99 : Int), [])), some (.inl ((0 : Int), (300 : Int), []))], ([], [], [((226 : Nat), (29 : Int), (29 : Int), ((-1 : Int), (299 : Int), [])), ((227 : Nat), (2 : Int), (2 : Int), ((0 : Int), (8 : Int), [((20 : Nat), (0 : Int))])), ((227 : Nat), (5 : Int), (5 : Int), ((0 : Int), (8 : Int), [((23 : Nat), (0 : Int))]))]), (300 : Nat), .inl (8 : Nat), true)]) (f := 506) ⟨qR_nmu, (ck_E1 (ck_S1 qRl_p2_s180 ck_S0) (ck_E1 (ck_S1 Q292 ck_S0) (ck_E1 (ck_S1 qRl_p2_s378 ck_S0) ck_E0)))⟩ (by decide +kernel)
theorem qRl_p2_s375 : ck_Ok qR_O X LX 301 p2_s375 := qR_l p2_s375_s (by decide +kernel)
theorem qRl_p2_s376 : ck_Ok qR_O X LX 301 p2_s376 := qR_l p2_s376_s (by decide +kernel)
theorem qRl_p2_s377 : ck_Ok qR_O X LX 301 p2_s377 := qR_l p2_s377_s (by decide +kernel)
theorem qRl_p2_s374 : ck_Ok qR_O X LX 303 p2_s374 := qR_l p2_s374_s (by decide +kernel)
noncomputable def q_p2_s380 : ck_Sum := (((22 : Nat), (0 : Nat), (0 : Nat)), (245 : Nat), [.inr (.inr (.inl (226 : Nat))), .inl ((0 : Int), (23 : Int), []), .inl ((-1 : Int), (7 : Int), [])], ([], [], [((227 : Nat), (2 : Int), (2 : Int), ((0 : Int), (8 : Int), [((20 : Nat), (0 : Int))])), ((227 : Nat), (5 : Int), (5 : Int), ((0 : Int), (8 : Int), [((23 : Nat), (0 : Int))]))]), ([((226 : Nat), (17 : Int), (23 : Int)), ((226 : Nat), (26 : Int), (26 : Int)), ((226 : Nat), (29 : Int), (30 : Int)), ((233 : Nat), (0 : Int), (399 : Int)), ((235 : Nat), (0 : Int), (29699 : Int)), ((236 : Nat), (0 : Int), (299 : Int)), ((237 : Nat), (0 : Int), (299 : Int))], []), [(.inr none, (245 : Nat), ([], [], []))])
set_option maxRecDepth 100000 in
theorem q_p2_s380_s : ck_Ok qR_O X LX 305 q_p2_s380 := ck_okq (cuts := []) (f := 108) ⟨qR_nmu, (ck_E1 (ck_S1 qRl_p2_s375 (ck_S1 qRl_p2_s376 (ck_S1 qRl_p2_s377 ck_S0))) (ck_E1 (ck_S1 qRl_p2_s374 ck_S0) (ck_E1 (ck_S1 q_p2_s379_s ck_S0) ck_E0)))⟩ (by decide +kernel)
noncomputable def q_p2_s381 : ck_Sum := (((23 : Nat), (0 : Nat), (0 : Nat)), (245 : Nat), [.inr (.inr (.inl (226 : Nat))), .inl ((0 : Int), (23 : Int), [])], ([], [], [((227 : Nat), (2 : Int), (2 : Int), ((0 : Int), (8 : Int), [((20 : Nat), (0 : Int))])), ((227 : Nat), (5 : Int), (5 : Int), ((0 : Int), (8 : Int), [((23 : Nat), (0 : Int))]))]), ([((226 : Nat), (17 : Int), (23 : Int)), ((226 : Nat), (26 : Int), (26 : Int)), ((226 : Nat), (29 : Int), (30 : Int)), ((233 : Nat), (0 : Int), (399 : Int)), ((235 : Nat), (0 : Int), (29699 : Int)), ((236 : Nat), (0 : Int), (299 : Int)), ((237 : Nat), (0 : Int), (299 : Int))], []), [(.inr (some (.inl (ck_one (-1)))), (245 : Nat), ([], [], [((226 : Nat), (29 : Int), (29 : Int), ck_one (-1))])), (.inr (some (.inl ((0 : Int), (299 : Int), []))), (245 : Nat), ([], [], [((226 : Nat), (29 : Int), (29 : Int), ((0 : Int), (299 : Int), []))]))])
set_option maxRecDepth 100000 in
theorem q_p2_s381_s : ck_Ok qR_O X LX 304 q_p2_s381 := ck_okq (cuts := []) (f := 84) ⟨qR_nmu, (ck_E1 (ck_S1 q_p2_s380_s ck_S0) ck_E0)⟩ (by decide +kernel)
theorem qRl_p2_s372 : ck_Ok qR_O X LX 301 p2_s372 := qR_l p2_s372_s (by decide +kernel)
theorem qRl_p2_s190 : ck_Ok qR_O X LX 266 p2_s190 := qR_l p2_s190_s (by decide +kernel)
noncomputable def q_p2_s382 : ck_Sum := (((24 : Nat), (0 : Nat), (0 : Nat)), (245 : Nat), [.inr (.inr (.inl (226 : Nat))), .inl ((0 : Int), (23 : Int), [])], ([], [], [((227 : Nat), (2 : Int), (2 : Int), ((0 : Int), (8 : Int), [((20 : Nat), (0 : Int))])), ((227 : Nat), (5 : Int), (5 : Int), ((0 : Int), (8 : Int), [((23 : Nat), (0 : Int))])), ((227 : Nat), (9 : Int), (9 : Int), ((0 : Int), (299 : Int), [((11 : Nat), (0 : Int))]))]), ([((226 : Nat), (17 : Int), (23 : Int)), ((226 : Nat), (26 : Int), (26 : Int)), ((226 : Nat), (29 : Int), (30 : Int)), ((233 : Nat), (0 : Int), (399 : Int)), ((235 : Nat), (0 : Int), (29699 : Int)), ((236 : Nat), (0 : Int), (299 : Int)), ((237 : Nat), (0 : Int), (299 : Int))], []), [(.inr (some (.inl (ck_one 0))), (245 : Nat), ([], [], [])), (.inr (some (.inl (ck_one 1))), (245 : Nat), ([], [], [((226 : Nat), (29 : Int), (29 : Int), ((0 : Int), (299 : Int), []))]))])
set_option maxRecDepth 100000 in
theorem q_p2_s382_s : ck_Ok qR_O X LX 302 q_p2_s382 := ck_okq (cuts := []) (f := 114) ⟨qR_nmu, (ck_E1 (ck_S1 qRl_p2_s374 ck_S0) (ck_E1 (ck_S1 qRl_p2_s372 ck_S0) (ck_E1 (ck_S1 q_p2_s381_s ck_S0) (ck_E1 (ck_S1 qRl_p2_s190 ck_S0) ck_E0))))⟩ (by decide +kernel)
theorem qRl_p2_s176 : ck_Ok qR_O X LX 254 p2_s176 := qR_l p2_s176_s (by decide +kernel)
theorem qRl_p2_s371 : ck_Ok qR_O X LX 301 p2_s371 := qR_l p2_s371_s (by decide +kernel)
theorem qRl_p2_s373 : ck_Ok qR_O X LX 301 p2_s373 := qR_l p2_s373_s (by decide +kernel)
noncomputable def q_p2_s383 : ck_Sum := (((25 : Nat), (0 : Nat), (0 : Nat)), (245 : Nat), [.inr (.inr (.inl (226 : Nat))), .inl ((0 : Int), (7 : Int), []), .inl ((3 : Int), (9 : Int), [])], ([], [], [((227 : Nat), (2 : Int), (2 : Int), ((0 : Int), (8 : Int), [((20 : Nat), (0 : Int))])), ((227 : Nat), (4 : Int), (4 : Int), ((0 : Int), (24 : Int), [((22 : Nat), (0 : Int))])), ((227 : Nat), (5 : Int), (5 : Int), ((0 : Int), (8 : Int), [((23 : Nat), (0 : Int))])), ((227 : Nat), (9 : Int), (9 : Int), ((0 : Int), (299 : Int), [((11 : Nat), (0 : Int))]))]), ([((226 : Nat), (17 : Int), (23 : Int)), ((226 : Nat), (26 : Int), (26 : Int)), ((226 : Nat), (29 : Int), (30 : Int)), ((233 : Nat), (0 : Int), (399 : Int)), ((235 : Nat), (0 : Int), (29699 : Int)), ((236 : Nat), (0 : Int), (299 : Int)), ((237 : Nat), (0 : Int), (299 : Int))], []), [(.inr (some (.inl ((-2147483648 : Int), (2147483647 : Int), []))), (245 : Nat), ([], [], []))])
set_option maxRecDepth 100000 in
theorem q_p2_s383_s : ck_Ok qR_O X LX 300 q_p2_s383 := ck_okq (cuts := [((5 : Nat), [some (.inr (.inr (.inl (226 : Nat)))), some (.inl ((0 : Int), (7 : Int), [])), some (.inl ((3 : Int), (9 : Int), [])), some (.inl ((-2147483648 : Int), (2147483647 : Int), [])), some (.inl ((0 : Int), (24 : Int), [])), none], ([], [], [((227 : Nat), (2 : Int), (2 : Int), ((0 : Int), (8 : Int), [((20 : Nat), (0 : Int))])), ((227 : Nat), (4 : Int), (4 : Int), ((0 : Int), (24 : Int), [((22 : Nat), (0 : Int))])), ((227 : Nat), (5 : Int), (5 : Int), ((0 : Int), (8 : Int), [((23 : Nat), (0 : Int))])), ((227 : Nat), (9 : Int), (9 : Int), ((0 : Int), (299 : Int), [((11 : Nat), (0 : Int))]))]), (100 : Nat), .inl (4 : Nat), true)]) (f := 222) ⟨qR_nmu, (ck_E1 (ck_S1 qRl_p2_s176 ck_S0) (ck_E1 (ck_S1 qRl_p2_s371 (ck_S1 qRl_p2_s372 (ck_S1 qRl_p2_s373 ck_S0))) (ck_E1 (ck_S1 q_p2_s382_s ck_S0) ck_E0)))⟩ (by decide +kernel)
theorem qRl_p2_s365 : ck_Ok qR_O X LX 298 p2_s365 := qR_l p2_s365_s (by decide +kernel)
theorem qRl_p2_s244 : ck_Ok qR_O X LX 282 p2_s244 := qR_l p2_s244_s (by decide +kernel)
theorem qRl_p2_s370 : ck_Ok qR_O X LX 286 p2_s370 := qR_l p2_s370_s (by decide +kernel)
theorem qRl_p2_s384 : ck_Ok qR_O X LX 299 p2_s384 := qR_l p2_s384_s (by decide +kernel)
noncomputable def q_p2_s385 : ck_Sum := (((26 : Nat), (0 : Nat), (0 : Nat)), (245 : Nat), [.inr (.inr (.inl (226 : Nat))), .inl ((0 : Int), (7 : Int), []), .inl ((0 : Int), (9 : Int), [])], ([], [], [((227 : Nat), (2 : Int), (2 : Int), ((0 : Int), (8 : Int), [((20 : Nat), (0 : Int))])), ((227 : Nat), (3 : Int), (3 : Int), ((0 : Int), (8 : Int), [((21 : Nat), (0 : Int))])), ((227 : Nat), (4 : Int), (4 : Int), ((0 : Int), (24 : Int), [((22 : Nat), (0 : Int))])), ((227 : Nat), (5 : Int), (5 : Int), ((0 : Int), (8 : Int), [((23 : Nat), (0 : Int))])), ((227 : Nat), (9 : Int), (9 : Int), ((0 : Int), (299 : Int), [((11 : Nat), (0 : Int))]))]), ([((226 : Nat), (0 : Int), (0 : Int)), ((226 : Nat), (17 : Int), (23 : Int)), ((226 : Nat), (26 : Int), (26 : Int)), ((226 : Nat), (29 : Int), (30 : Int)), ((233 : Nat), (0 : Int), (399 : Int)), ((235 : Nat), (0 : Int), (29699 : Int)), ((236 : Nat), (0 : Int), (299 : Int)), ((237 : Nat), (0 : Int), (299 : Int))], []), [(.inr (some (.inl (ck_one 0))), (245 : Nat), ([], [], [((226 : Nat), (0 : Int), (0 : Int), ((1 : Int), (2 : Int), []))])), (.inr (some (.inl ((-2147483648 : Int), (2147483647 : Int), []))), (245 : Nat), ([], [], [((226 : Nat), (0 : Int), (0 : Int), ck_one 0)]))])
set_option maxRecDepth 100000 in
theorem q_p2_s385_s : ck_Ok qR_O X LX 297 q_p2_s385 := ck_okq (cuts := []) (f := 128) ⟨qR_nmu, (ck_E1 (ck_S1 qRl_p2_s365 ck_S0) (ck_E1 (ck_S1 qRl_p2_s241 (ck_S1 qRl_p2_s242 (ck_S1 qRl_p2_s244 (ck_S1 qRl_p2_s243 ck_S0)))) (ck_E1 (ck_S1 qRl_p2_s370 ck_S0) (ck_E1 (ck_S1 q_p2_s383_s ck_S0) (ck_E1 (ck_S1 qRl_p2_s384 ck_S0) ck_E0)))))⟩ (by decide +kernel)
theorem qRl_p2_s406 : ck_Ok qR_O X LX 309 p2_s406 := qR_l p2_s406_s (by decide +kernel)
theorem qRl_p2_s411 : ck_Ok qR_O X LX 286 p2_s411 := qR_l p2_s411_s (by decide +kernel)
theorem qRl_p2_s414 : ck_Ok qR_O X LX 310 p2_s414 := qR_l p2_s414_s (by decide +kernel)
theorem qRl_p2_s415 : ck_Ok qR_O X LX 301 p2_s415 := qR_l p2_s415_s (by decide +kernel)
noncomputable def q_p2_s416 : ck_Sum := (((24 : Nat), (0 : Nat), (0 : Nat)), (245 : Nat), [.inr (.inr (.inl (226 : Nat))), .inl ((0 : Int), (23 : Int), []), .inl ((0 : Int), (9 : Int), [])], ([], [], [((227 : Nat), (2 : Int), (2 : Int), ((0 : Int), (8 : Int), [((20 : Nat), (0 : Int))])), ((227 : Nat), (4 : Int), (4 : Int), ((0 : Int), (24 : Int), [((22 : Nat), (0 : Int))])), ((227 : Nat), (5 : Int), (5 : Int), ((0 : Int), (8 : Int), [((23 : Nat), (0 : Int))]))]), ([((226 : Nat), (0 : Int), (0 : Int)), ((226 : Nat), (17 : Int), (23 : Int)), ((226 : Nat), (26 : Int), (26 : Int)), ((226 : Nat), (29 : Int), (30 : Int)), ((233 : Nat), (0 : Int), (399 : Int)), ((235 : Nat), (0 : Int), (29699 : Int)), ((236 : Nat), (0 : Int), (299 : Int)), ((237 : Nat), (0 : Int), (299 : Int))], []), [(.inr (some (.inl ((0 : Int), (299 : Int), []))), (245 : Nat), ([], [], [((226 : Nat), (0 : Int), (0 : Int), ((0 : Int), (1 : Int), []))])), (.inr (some (.inl ((-1 : Int), (299 : Int), []))), (245 : Nat), ([], [], [((226 : Nat), (0 : Int), (0 : Int), ck_one 0)]))])
set_option maxRecDepth 100000 in
theorem q_p2_s416_s : ck_Ok qR_O X LX 308 q_p2_s416 := ck_okq (cuts := []) (f := 152) ⟨qR_nmu, (ck_E1 (ck_S1 qRl_p2_s406 ck_S0) (ck_E1 (ck_S1 qRl_p2_s241 (ck_S1 qRl_p2_s242 (ck_S1 qRl_p2_s243 ck_S0))) (ck_E1 (ck_S1 qRl_p2_s411 ck_S0) (ck_E1 (ck_S1 q_p2_s381_s ck_S0) (ck_E1 (ck_S1 qRl_p2_s414 ck_S0) (ck_E1 (ck_S1 qRl_p2_s415 ck_S0) ck_E0))))))⟩ (by decide +kernel)
noncomputable def q_p2_s427 : ck_Sum := (((23 : Nat), (0 : Nat), (0 : Nat)), (245 : Nat), [.inr (.inr (.inl (226 : Nat))), .inl ((0 : Int), (23 : Int), []), .inl ((0 : Int), (299 : Int), [])], ([], [], [((227 : Nat), (2 : Int), (2 : Int), ((0 : Int), (8 : Int), [((20 : Nat), (0 : Int))])), ((227 : Nat), (4 : Int), (4 : Int), ((0 : Int), (24 : Int), [((22 : Nat), (0 : Int))])), ((227 : Nat), (5 : Int), (5 : Int), ((0 : Int), (8 : Int), [((23 : Nat), (0 : Int))]))]), ([((226 : Nat), (0 : Int), (0 : Int)), ((226 : Nat), (17 : Int), (23 : Int)), ((226 : Nat), (26 : Int), (26 : Int)), ((226 : Nat), (29 : Int), (30 : Int)), ((233 : Nat), (0 : Int), (399 : Int)), ((235 : Nat), (0 : Int), (29699 : Int)), ((236 : Nat), (0 : Int), (299 : Int)), ((237 : Nat), (0 : Int), (299 : Int))], []), [(.inr (some (.inl (ck_one 0))), (245 : Nat), ([], [], [((226 : Nat), (0 : Int), (0 : Int), ck_one 1)])), (.inr (some (.inl ((-1 : Int), (99 : Int), []))), (245 : Nat), ([], [], [((226 : Nat), (0 : Int), (0 : Int), ck_one 0)]))])
set_option maxRecDepth 100000 in
theorem q_p2_s427_s : ck_Ok qR_O X LX 313 q_p2_s427 := ck_okq (cuts := []) (f := 120) ⟨qR_nmu, (ck_E1 (ck_S1 qRl_p2_s406 ck_S0) (ck_E1 (ck_S1 qRl_p2_s241 (ck_S1 qRl_p2_s242 (ck_S1 qRl_p2_s243 ck_S0))) (ck_E1 (ck_S1 qRl_p2_s263 ck_S0) (ck_E1 (ck_S1 q_p2_s380_s ck_S0) ck_E0))))⟩ (by decide +kernel)
noncomputable def q_p2_s437 : ck_Sum := (((23 : Nat), (0 : Nat), (0 : Nat)), (245 : Nat), [.inr (.inr (.inl (226 : Nat))), .inl ((0 : Int), (23 : Int), []), .inl ((0 : Int), (299 : Int), [])], ([], [], [((227 : Nat), (2 : Int), (2 : Int), ((0 : Int), (8 : Int), [((20 : Nat), (0 : Int))])), ((227 : Nat), (4 : Int), (4 : Int), ((0 : Int), (24 : Int), [((22 : Nat), (0 : Int))])), ((227 : Nat), (5 : Int), (5 : Int), ((0 : Int), (8 : Int), [((23 : Nat), (0 : Int))]))]), ([((226 : Nat), (0 : Int), (0 : Int)), ((226 : Nat), (17 : Int), (23 : Int)), ((226 : Nat), (26 : Int), (26 : Int)), ((226 : Nat), (29 : Int), (30 : Int)), ((233 : Nat), (0 : Int), (399 : Int)), ((235 : Nat), (0 : Int), (29699 : Int)), ((236 : Nat), (0 : Int), (299 : Int)), ((237 : Nat), (0 : Int), (299 : Int))], []), [(.inr (some (.inl (ck_one 0))), (245 : Nat), ([], [], [((226 : Nat), (0 : Int), (0 : Int), ck_one 1)])), (.inr (some (.inl ((-1 : Int), (99 : Int), []))), (245 : Nat), ([], [], [((226 : Nat), (0 : Int), (0 : Int), ck_one 0)]))])
set_option maxRecDepth 100000 in
theorem q_p2_s437_s : ck_Ok qR_O X LX 314 q_p2_s437 := ck_okq (cuts := []) (f := 120) ⟨qR_nmu, (ck_E1 (ck_S1 qRl_p2_s406 ck_S0) (ck_E1 (ck_S1 qRl_p2_s241 (ck_S1 qRl_p2_s242 (ck_S1 qRl_p2_s243 ck_S0))) (ck_E1 (ck_S1 qRl_p2_s263 ck_S0) (ck_E1 (ck_S1 q_p2_s380_s ck_S0) ck_E0))))⟩ (by decide +kernel)
noncomputable def q_p2_s1326 : ck_Sum := (((22 : Nat), (0 : Nat), (0 : Nat)), (245 : Nat), [.inr (.inr (.inl (226 : Nat))), .inl ((0 : Int), (6 : Int), []), .inl ((0 : Int), (98 : Int), []), .inl ((0 : Int), (299 : Int), [])], ([], [], [((227 : Nat), (2 : Int), (2 : Int), ((0 : Int), (8 : Int), [((20 : Nat), (0 : Int))])), ((227 : Nat), (5 : Int), (5 : Int), ((0 : Int), (8 : Int), [((23 : Nat), (0 : Int))]))]), ([((226 : Nat), (17 : Int), (23 : Int)), ((226 : Nat), (26 : Int), (26 : Int)), ((226 : Nat), (29 : Int), (30 : Int)), ((233 : Nat), (0 : Int), (399 : Int)), ((235 : Nat), (0 : Int), (29699 : Int)), ((236 : Nat), (0 : Int), (299 : Int)), ((237 : Nat), (0 : Int), (299 : Int))], []), [(.inr (some (.inl (ck_one (-1)))), (245 : Nat), ([], [], [((226 : Nat), (29 : Int), (29 : Int), ck_one (-1))])), (.inr (some (.inl ((0 : Int), (299 : Int), []))), (245 : Nat), ([], [], [((226 : Nat), (29 : Int), (29 : Int), ((0 : Int), (299 : Int), []))]))])
set_option maxRecDepth 100000 in
theorem q_p2_s1326_s : ck_Ok qR_O X LX 325 q_p2_s1326 := ck_okq (cuts := []) (f := 90) ⟨qR_nmu, (ck_E1 (ck_S1 q_p2_s379_s ck_S0) ck_E0)⟩ (by decide +kernel)
theorem qRl_p2_s552 : ck_Ok qR_O X LX 282 p2_s552 := qR_l p2_s552_s (by decide +kernel)
theorem qRl_p2_s551 : ck_Ok qR_O X LX 282 p2_s551 := qR_l p2_s551_s (by decide +kernel)
theorem qRl_p2_s1325 : ck_Ok qR_O X LX 286 p2_s1325 := qR_l p2_s1325_s (by decide +kernel)
noncomputable def q_p2_s1327 : ck_Sum := (((23 : Nat), (0 : Nat), (0 : Nat)), (245 : Nat), [.inr (.inr (.inl (226 : Nat))), .inl ((0 : Int), (5 : Int), []), .inl ((0 : Int), (299 : Int), []), .inl ((0 : Int), (299 : Int), []), .inl ((0 : Int), (9 : Int), [])], ([], [], [((227 : Nat), (2 : Int), (2 : Int), ((0 : Int), (8 : Int), [((20 : Nat), (0 : Int))])), ((227 : Nat), (5 : Int), (5 : Int), ((0 : Int), (8 : Int), [((23 : Nat), (0 : Int))])), ((227 : Nat), (9 : Int), (9 : Int), ((0 : Int), (299 : Int), [((11 : Nat), (0 : Int))]))]), ([((226 : Nat), (0 : Int), (0 : Int)), ((226 : Nat), (17 : Int), (23 : Int)), ((226 : Nat), (26 : Int), (26 : Int)), ((226 : Nat), (29 : Int), (30 : Int)), ((233 : Nat), (0 : Int), (399 : Int)), ((235 : Nat), (0 : Int), (29699 : Int)), ((236 : Nat), (0 : Int), (299 : Int)), ((237 : Nat), (0 : Int), (299 : Int))], []), [(.inr (some (.inl (ck_one 0))), (245 : Nat), ([], [], [((226 : Nat), (0 : Int), (0 : Int), ((1 : Int), (3 : Int), []))])), (.inr (some (.inl ((-2147483648 : Int), (2147483647 : Int), []))), (245 : Nat), ([], [], [((226 : Nat), (0 : Int), (0 : Int), ck_one 0)]))])
set_option maxRecDepth 100000 in
theorem q_p2_s1327_s : ck_Ok qR_O X LX 324 q_p2_s1327 := ck_okq (cuts := [((90 : Nat), [some (.inr (.inr (.inl (226 : Nat)))), some (.inl ((0 : Int), (5 : Int), [])), some (.inl ((0 : Int), (299 : Int), [])), some (.inl ((0 : Int), (299 : Int), [])), some (.inl ((0 : Int), (9 : Int), [])), some (.inl ((-2147483648 : Int), (2147483647 : Int), [])), some (.inl ((-1 : Int), (167 : Int), [])), some (.inl ((-1 : Int), (167 : Int), [])), some (.inl ((0 : Int), (167 : Int), []))], ([], [], [((226 : Nat), (0 : Int), (0 : Int), ck_one 0), ((227 : Nat), (2 : Int), (2 : Int), ((0 : Int), (8 : Int), [((20 : Nat), (0 : Int))])), ((227 : Nat), (5 : Int), (5 : Int), ((0 : Int), (8 : Int), [((23 : Nat), (0 : Int))])), ((227 : Nat), (9 : Int), (9 : Int), ((0 : Int), (299 : Int), [((11 : Nat), (0 : Int))]))]), (100 : Nat), .inl (8 : Nat), true)]) (f := 266) ⟨qR_nmu, (ck_E1 (ck_S1 qRl_p2_s290 ck_S0) (ck_E1 (ck_S1 qRl_p2_s241 (ck_S1 qRl_p2_s242 (ck_S1 qRl_p2_s243 (ck_S1 qRl_p2_s552 (ck_S1 qRl_p2_s551 (ck_S1 qRl_p2_s244 ck_S0)))))) (ck_E1 (ck_S1 qRl_p2_s263 ck_S0) (ck_E1 (ck_S1 qRl_p2_s190 ck_S0) (ck_E1 (ck_S1 qRl_p2_s1325 ck_S0) (ck_E1 (ck_S1 qRl_p2_s180 ck_S0) (ck_E1 (ck_S1 q_p2_s1326_s ck_S0) ck_E0)))))))⟩ (by decide +kernel)
theorem qRl_p2_s554 : ck_Ok qR_O X LX 299 p2_s554 := qR_l p2_s554_s (by decide +kernel)
theorem qRl_p2_s555 : ck_Ok qR_O X LX 299 p2_s555 := qR_l p2_s555_s (by decide +kernel)
noncomputable def q_p2_s1338 : ck_Sum := (((23 : Nat), (0 : Nat), (0 : Nat)), (245 : Nat), [.inr (.inr (.inl (226 : Nat))), .inl ((0 : Int), (7 : Int), []), .inl ((0 : Int), (299 : Int), [])], ([], [], [((227 : Nat), (2 : Int), (2 : Int), ((0 : Int), (8 : Int), [((20 : Nat), (0 : Int))])), ((227 : Nat), (3 : Int), (3 : Int), ((0 : Int), (8 : Int), [((21 : Nat), (0 : Int))])), ((227 : Nat), (5 : Int), (5 : Int), ((0 : Int), (8 : Int), [((23 : Nat), (0 : Int))])), ((227 : Nat), (9 : Int), (9 : Int), ((0 : Int), (299 : Int), [((11 : Nat), (0 : Int))]))]), ([((226 : Nat), (0 : Int), (0 : Int)), ((226 : Nat), (17 : Int), (23 : Int)), ((226 : Nat), (26 : Int), (26 : Int)), ((226 : Nat), (29 : Int), (30 : Int)), ((233 : Nat), (0 : Int), (399 : Int)), ((235 : Nat), (0 : Int), (29699 : Int)), ((236 : Nat), (0 : Int), (299 : Int)), ((237 : Nat), (0 : Int), (299 : Int))], []), [(.inr (some (.inl ((0 : Int), (299 : Int), []))), (245 : Nat), ([], [], [((226 : Nat), (0 : Int), (0 : Int), ((0 : Int), (1 : Int), []))])), (.inr (some (.inl (ck_one (-1)))), (245 : Nat), ([], [], [((226 : Nat), (0 : Int), (0 : Int), ck_one 0)]))])
set_option maxRecDepth 100000 in
theorem q_p2_s1338_s : ck_Ok qR_O X LX 326 q_p2_s1338 := ck_okq (cuts := [((36 : Nat), [some (.inr (.inr (.inl (226 : Nat)))), some (.inl ((0 : Int), (7 : Int), [])), some (.inl ((0 : Int), (299 : Int), [])), some (.inl ((-1 : Int), (299 : Int), [])), none], ([], [], [((226 : Nat), (0 : Int), (0 : Int), ck_one 0), ((227 : Nat), (2 : Int), (2 : Int), ((0 : Int), (8 : Int), [((20 : Nat), (0 : Int))])), ((227 : Nat), (3 : Int), (3 : Int), ((0 : Int), (8 : Int), [((21 : Nat), (0 : Int))])), ((227 : Nat), (5 : Int), (5 : Int), ((0 : Int), (8 : Int), [((23 : Nat), (0 : Int))])), ((227 : Nat), (9 : Int), (9 : Int), ((0 : Int), (299 : Int), [((11 : Nat), (0 : Int))]))]), (100 : Nat), .inl (3 : Nat), false)]) (f := 186) ⟨qR_nmu, (ck_E1 (ck_S1 qRl_p2_s365 ck_S0) (ck_E1 (ck_S1 qRl_p2_s241 (ck_S1 qRl_p2_s242 (ck_S1 qRl_p2_s243 ck_S0))) (ck_E1 (ck_S1 qRl_p2_s263 ck_S0) (ck_E1 (ck_S1 qRl_p2_s190 ck_S0) (ck_E1 (ck_S1 qRl_p2_s554 (ck_S1 qRl_p2_s555 ck_S0)) (ck_E1 (ck_S1 q_p2_s1326_s ck_S0) ck_E0))))))⟩ (by decide +kernel)
theorem qRl_p2_s1350 : ck_Ok qR_O X LX 286 p2_s1350 := qR_l p2_s1350_s (by decide +kernel)
noncomputable def q_p2_s1351 : ck_Sum := (((23 : Nat), (0 : Nat), (0 : Nat)), (245 : Nat), [.inr (.inr (.inl (226 : Nat))), .inl ((0 : Int), (5 : Int), []), .inl ((0 : Int), (299 : Int), [])], ([], [], [((227 : Nat), (2 : Int), (2 : Int), ((0 : Int), (8 : Int), [((20 : Nat), (0 : Int))])), ((227 : Nat), (5 : Int), (5 : Int), ((0 : Int), (8 : Int), [((23 : Nat), (0 : Int))])), ((227 : Nat), (9 : Int), (9 : Int), ((0 : Int), (299 : Int), [((11 : Nat), (0 : Int))]))]), ([((226 : Nat), (0 : Int), (0 : Int)), ((226 : Nat), (17 : Int), (23 : Int)), ((226 : Nat), (26 : Int), (26 : Int)), ((226 : Nat), (29 : Int), (30 : Int)), ((233 : Nat), (0 : Int), (399 : Int)), ((235 : Nat), (0 : Int), (29699 : Int)), ((236 : Nat), (0 : Int), (299 : Int)), ((237 : Nat), (0 : Int), (299 : Int))], []), [(.inr (some (.inl ((0 : Int), (98 : Int), []))), (245 : Nat), ([], [], [((226 : Nat), (0 : Int), (0 : Int), ((0 : Int), (2 : Int), []))])), (.inr (some (.inl (ck_one (-1)))), (245 : Nat), ([], [], [((226 : Nat), (0 : Int), (0 : Int), ck_one 0)]))])
set_option maxRecDepth 100000 in
theorem q_p2_s1351_s : ck_Ok qR_O X LX 327 q_p2_s1351 := ck_okq (cuts := [((46 : Nat), [some (.inr (.inr (.inl (226 : Nat)))), some (.inl ((0 : Int), (5 : Int), [])), some (.inl ((0 : Int), (299 : Int), [])), some (.inl ((0 : Int), (167 : Int), [])), none], ([], [], [((226 : Nat), (0 : Int), (0 : Int), ck_one 0), ((227 : Nat), (2 : Int), (2 : Int), ((0 : Int), (8 : Int), [((20 : Nat), (0 : Int))])), ((227 : Nat), (5 : Int), (5 : Int), ((0 : Int), (8 : Int), [((23 : Nat), (0 : Int))])), ((227 : Nat), (9 : Int), (9 : Int), ((0 : Int), (299 : Int), [((11 : Nat), (0 : Int))]))]), (100 : Nat), .inl (3 : Nat), true)]) (f := 182) ⟨qR_nmu, (ck_E1 (ck_S1 qRl_p2_s290 ck_S0) (ck_E1 (ck_S1 qRl_p2_s241 (ck_S1 qRl_p2_s242 (ck_S1 qRl_p2_s244 (ck_S1 qRl_p2_s243 ck_S0)))) (ck_E1 (ck_S1 qRl_p2_s1350 ck_S0) (ck_E1 (ck_S1 qRl_p2_s180 ck_S0) (ck_E1 (ck_S1 qRl_p2_s190 ck_S0) (ck_E1 (ck_S1 q_p2_s1326_s ck_S0) ck_E0))))))⟩ (by decide +kernel)
theorem qRl_p2_s364 : ck_Ok qR_O X LX 286 p2_s364 := qR_l p2_s364_s (by decide +kernel)
noncomputable def q_p2_s1362 : ck_Sum := (((23 : Nat), (0 : Nat), (0 : Nat)), (245 : Nat), [.inr (.inr (.inl (226 : Nat))), .inl ((0 : Int), (23 : Int), []), .inl ((0 : Int), (7 : Int), [])], ([], [], [((227 : Nat), (2 : Int), (2 : Int), ((0 : Int), (8 : Int), [((20 : Nat), (0 : Int))])), ((227 : Nat), (4 : Int), (4 : Int), ((0 : Int), (24 : Int), [((22 : Nat), (0 : Int))])), ((227 : Nat), (5 : Int), (5 : Int), ((0 : Int), (8 : Int), [((23 : Nat), (0 : Int))]))]), ([((226 : Nat), (0 : Int), (0 : Int)), ((226 : Nat), (17 : Int), (23 : Int)), ((226 : Nat), (26 : Int), (26 : Int)), ((226 : Nat), (29 : Int), (30 : Int)), ((233 : Nat), (0 : Int), (399 : Int)), ((235 : Nat), (0 : Int), (29699 : Int)), ((236 : Nat), (0 : Int), (299 : Int)), ((237 : Nat), (0 : Int), (299 : Int))], []), [(.inr (some (.inl ((0 : Int), (299 : Int), []))), (245 : Nat), ([], [], [((226 : Nat), (0 : Int), (0 : Int), ((0 : Int), (1 : Int), []))])), (.inr (some (.inl (ck_one (-1)))), (245 : Nat), ([], [], [((226 : Nat), (29 : Int), (29 : Int), ck_one (-1)), ((226 : Nat), (0 : Int), (0 : Int), ck_one 0)]))])
set_option maxRecDepth 100000 in
theorem q_p2_s1362_s : ck_Ok qR_O X LX 328 q_p2_s1362 := ck_okq (cuts := []) (f := 128) ⟨qR_nmu, (ck_E1 (ck_S1 qRl_p2_s406 ck_S0) (ck_E1 (ck_S1 qRl_p2_s241 (ck_S1 qRl_p2_s242 ck_S0)) (ck_E1 (ck_S1 qRl_p2_s364 ck_S0) (ck_E1 (ck_S1 q_p2_s380_s ck_S0) ck_E0))))⟩ (by decide +kernel)
noncomputable def q_p2_s1368 : ck_Sum := (((23 : Nat), (0 : Nat), (0 : Nat)), (245 : Nat), [.inr (.inr (.inl (226 : Nat))), .inl ((0 : Int), (23 : Int), [])], ([], [], [((227 : Nat), (2 : Int), (2 : Int), ((0 : Int), (8 : Int), [((20 : Nat), (0 : Int))])), ((227 : Nat), (4 : Int), (4 : Int), ((0 : Int), (24 : Int), [((22 : Nat), (0 : Int))])), ((227 : Nat), (5 : Int), (5 : Int), ((0 : Int), (8 : Int), [((23 : Nat), (0 : Int))]))]), ([((226 : Nat), (0 : Int), (0 : Int)), ((226 : Nat), (17 : Int), (23 : Int)), ((226 : Nat), (26 : Int), (26 : Int)), ((226 : Nat), (29 : Int), (30 : Int)), ((233 : Nat), (0 : Int), (399 : Int)), ((235 : Nat), (0 : Int), (29699 : Int)), ((236 : Nat), (0 : Int), (299 : Int)), ((237 : Nat), (0 : Int), (299 : Int))], []), [(.inr (some (.inl ((0 : Int), (2147483647 : Int), []))), (245 : Nat), ([], [], [((226 : Nat), (0 : Int), (0 : Int), ((0 : Int), (1 : Int), []))])), (.inr (some (.inl ((-2147483648 : Int), (-1 : Int), []))), (245 : Nat), ([], [], [((226 : Nat), (30 : Int), (30 : Int), ((-2147483648 : Int), (-1 : Int), [])), ((226 : Nat), (0 : Int), (0 : Int), ck_one 0)]))])
set_option maxRecDepth 100000 in
theorem q_p2_s1368_s : ck_Ok qR_O X LX 329 q_p2_s1368 := ck_okq (cuts := []) (f := 104) ⟨qR_nmu, (ck_E1 (ck_S1 qRl_p2_s406 ck_S0) (ck_E1 (ck_S1 qRl_p2_s241 (ck_S1 qRl_p2_s242 ck_S0)) (ck_E1 (ck_S1 q_p2_s380_s ck_S0) ck_E0)))⟩ (by decide +kernel)
noncomputable def q_p2_s1370 : ck_Sum := (((24 : Nat), (0 : Nat), (0 : Nat)), (245 : Nat), [.inr (.inr (.inl (226 : Nat)))], ([], [], [((227 : Nat), (2 : Int), (2 : Int), ((0 : Int), (8 : Int), [((20 : Nat), (0 : Int))])), ((227 : Nat), (4 : Int), (4 : Int), ((0 : Int), (24 : Int), [((22 : Nat), (0 : Int))])), ((227 : Nat), (5 : Int), (5 : Int), ((0 : Int), (8 : Int), [((23 : Nat), (0 : Int))]))]), ([((226 : Nat), (0 : Int), (0 : Int)), ((226 : Nat), (17 : Int), (23 : Int)), ((226 : Nat), (26 : Int), (26 : Int)), ((226 : Nat), (29 : Int), (30 : Int)), ((233 : Nat), (0 : Int), (399 : Int)), ((235 : Nat), (0 : Int), (29699 : Int)), ((236 : Nat), (0 : Int), (299 : Int)), ((237 : Nat), (0 : Int), (299 : Int))], []), [(.inr (some (.inl ((-2147483648 : Int), (2147483647 : Int), []))), (245 : Nat), ([], [], [((226 : Nat), (0 : Int), (0 : Int), ck_one 0)]))])
set_option maxRecDepth 100000 in
theorem q_p2_s1370_s : ck_Ok qR_O X LX 330 q_p2_s1370 := ck_okq (cuts := [((9 : Nat), [some (.inr (.inr (.inl (226 : Nat)))), some (.inl ((-2147483648 : Int), (2147483647 : Int), [])), some (.inl ((0 : Int), (24 : Int), []))], ([], [], [((226 : Nat), (0 : Int), (0 : Int), ck_one 0), ((227 : Nat), (2 : Int), (2 : Int), ((0 : Int), (8 : Int), [((20 : Nat), (0 : Int))])), ((227 : Nat), (4 : Int), (4 : Int), ((0 : Int), (24 : Int), [((22 : Nat), (0 : Int))])), ((227 : Nat), (5 : Int), (5 : Int), ((0 : Int), (8 : Int), [((23 : Nat), (0 : Int))]))]), (100 : Nat), .inl (2 : Nat), true)]) (f := 162) ⟨qR_nmu, (ck_E1 (ck_S1 qRl_p2_s176 ck_S0) (ck_E1 (ck_S1 q_p2_s381_s ck_S0) ck_E0))⟩ (by decide +kernel)
noncomputable def q_p2_s1373 : ck_Sum := (((24 : Nat), (0 : Nat), (0 : Nat)), (245 : Nat), [.inr (.inr (.inl (226 : Nat)))], ([], [], [((227 : Nat), (2 : Int), (2 : Int), ((0 : Int), (8 : Int), [((20 : Nat), (0 : Int))])), ((227 : Nat), (4 : Int), (4 : Int), ((0 : Int), (24 : Int), [((22 : Nat), (0 : Int))])), ((227 : Nat), (5 : Int), (5 : Int), ((0 : Int), (8 : Int), [((23 : Nat), (0 : Int))]))]), ([((226 : Nat), (17 : Int), (23 : Int)), ((226 : Nat), (26 : Int), (26 : Int)), ((226 : Nat), (29 : Int), (30 : Int)), ((233 : Nat), (0 : Int), (399 : Int)), ((235 : Nat), (0 : Int), (29699 : Int)), ((236 : Nat), (0 : Int), (299 : Int)), ((237 : Nat), (0 : Int), (299 : Int)), ((238 : Nat), (0 : Int), (23 : Int))], []), [(.inr none, (245 : Nat), ([], [], []))])
set_option maxRecDepth 100000 in
theorem q_p2_s1373_s : ck_Ok qR_O X LX 332 q_p2_s1373 := ck_okq (cuts := [((2 : Nat), [some (.inr (.inr (.inl (226 : Nat)))), some (.inl ((0 : Int), (24 : Int), []))], ([], [], [((227 : Nat), (2 : Int), (2 : Int), ((0 : Int), (8 : Int), [((20 : Nat), (0 : Int))])), ((227 : Nat), (4 : Int), (4 : Int), ((0 : Int), (24 : Int), [((22 : Nat), (0 : Int))])), ((227 : Nat), (5 : Int), (5 : Int), ((0 : Int), (8 : Int), [((23 : Nat), (0 : Int))]))]), (100 : Nat), .inl (1 : Nat), true)]) (f := 146) ⟨qR_nmu, (ck_E1 (ck_S1 qRl_p2_s176 ck_S0) (ck_E1 (ck_S1 q_p2_s381_s ck_S0) ck_E0))⟩ (by decide +kernel)
theorem qRl_p2_s1374 : ck_Ok qR_O X LX 333 p2_s1374 := qR_l p2_s1374_s (by decide +kernel)
noncomputable def q_p2_s1375 : ck_Sum := (((25 : Nat), (0 : Nat), (0 : Nat)), (245 : Nat), [.inr (.inr (.inl (226 : Nat))), .inl ((0 : Int), (1 : Int), [])], ([], [], [((227 : Nat), (2 : Int), (2 : Int), ((0 : Int), (8 : Int), [((20 : Nat), (0 : Int))])), ((227 : Nat), (4 : Int), (4 : Int), ((0 : Int), (24 : Int), [((22 : Nat), (0 : Int))])), ((227 : Nat), (5 : Int), (5 : Int), ((0 : Int), (8 : Int), [((23 : Nat), (0 : Int))]))]), ([((226 : Nat), (0 : Int), (0 : Int)), ((226 : Nat), (17 : Int), (23 : Int)), ((226 : Nat), (26 : Int), (26 : Int)), ((226 : Nat), (29 : Int), (30 : Int)), ((233 : Nat), (0 : Int), (399 : Int)), ((235 : Nat), (0 : Int), (29699 : Int)), ((236 : Nat), (0 : Int), (299 : Int)), ((237 : Nat), (0 : Int), (299 : Int)), ((238 : Nat), (0 : Int), (23 : Int))], []), [(.inr (some (.inl ((-1 : Int), (299 : Int), []))), (245 : Nat), ([], [], [((226 : Nat), (0 : Int), (0 : Int), ck_one 0)])), (.inr (some (.inl ((0 : Int), (2147483647 : Int), []))), (245 : Nat), ([], [], [((226 : Nat), (0 : Int), (0 : Int), ck_one 0)]))])
set_option maxRecDepth 100000 in
theorem q_p2_s1375_s : ck_Ok qR_O X LX 331 q_p2_s1375 := ck_okq (cuts := [((16 : Nat), [some (.inr (.inr (.inl (226 : Nat)))), some (.inl ((0 : Int), (1 : Int), [])), some (.inl ((-1 : Int), (299 : Int), [])), some (.inl ((0 : Int), (2147483647 : Int), [])), some (.inl ((0 : Int), (300 : Int), [])), none], ([], [], [((226 : Nat), (0 : Int), (0 : Int), ck_one 0), ((227 : Nat), (2 : Int), (2 : Int), ((0 : Int), (8 : Int), [((20 : Nat), (0 : Int))])), ((227 : Nat), (4 : Int), (4 : Int), ((0 : Int), (24 : Int), [((22 : Nat), (0 : Int))])), ((227 : Nat), (5 : Int), (5 : Int), ((0 : Int), (8 : Int), [((23 : Nat), (0 : Int))]))]), (100 : Nat), .inl (4 : Nat), true)]) (f := 166) ⟨qR_nmu, (ck_E1 (ck_S1 q_p2_s1373_s ck_S0) (ck_E1 (ck_S1 qRl_p2_s1374 ck_S0) ck_E0))⟩ (by decide +kernel)
theorem qRl_p2_s1394 : ck_Ok qR_O X LX 335 p2_s1394 := qR_l p2_s1394_s (by decide +kernel)
theorem qRl_p2_s1397 : ck_Ok qR_O X LX 336 p2_s1397 := qR_l p2_s1397_s (by decide +kernel)
noncomputable def q_p2_s1398 : ck_Sum := (((23 : Nat), (0 : Nat), (0 : Nat)), (245 : Nat), [.inr (.inr (.inl (226 : Nat))), .inl ((0 : Int), (23 : Int), [])], ([], [], [((227 : Nat), (2 : Int), (2 : Int), ((0 : Int), (8 : Int), [((20 : Nat), (0 : Int))])), ((227 : Nat), (4 : Int), (4 : Int), ((0 : Int), (24 : Int), [((22 : Nat), (0 : Int))])), ((227 : Nat), (5 : Int), (5 : Int), ((0 : Int), (8 : Int), [((23 : Nat), (0 : Int))]))]), ([((226 : Nat), (0 : Int), (0 : Int)), ((226 : Nat), (17 : Int), (23 : Int)), ((226 : Nat), (26 : Int), (26 : Int)), ((226 : Nat), (29 : Int), (30 : Int)), ((233 : Nat), (0 : Int), (399 : Int)), ((235 : Nat), (0 : Int), (29699 : Int)), ((236 : Nat), (0 : Int), (299 : Int)), ((237 : Nat), (0 : Int), (299 : Int)), ((239 : Nat), (0 : Int), (299 : Int))], []), [(.inr (some (.inl (ck_one 0))), (245 : Nat), ([], [], [((226 : Nat), (0 : Int), (0 : Int), ck_one 1)])), (.inr (some (.inl ((-2147483648 : Int), (2147483647 : Int), []))), (245 : Nat), ([], [], [((226 : Nat), (0 : Int), (0 : Int), ck_one 0)]))])
set_option maxRecDepth 100000 in
theorem q_p2_s1398_s : ck_Ok qR_O X LX 334 q_p2_s1398 := ck_okq (cuts := [((34 : Nat), [some (.inr (.inr (.inl (226 : Nat)))), some (.inl ((0 : Int), (23 : Int), [])), some (.inl ((-2147483648 : Int), (2147483647 : Int), [])), some (.inl ((0 : Int), (24 : Int), []))], ([], [], [((226 : Nat), (0 : Int), (0 : Int), ck_one 0), ((227 : Nat), (2 : Int), (2 : Int), ((0 : Int), (8 : Int), [((20 : Nat), (0 : Int))])), ((227 : Nat), (4 : Int), (4 : Int), ((0 : Int), (24 : Int), [((22 : Nat), (0 : Int))])), ((227 : Nat), (5 : Int), (5 : Int), ((0 : Int), (8 : Int), [((23 : Nat), (0 : Int))]))]), (100 : Nat), .inl (3 : Nat), true)]) (f := 250) ⟨qR_nmu, (ck_E1 (ck_S1 qRl_p2_s406 ck_S0) (ck_E1 (ck_S1 qRl_p2_s241 (ck_S1 qRl_p2_s242 ck_S0)) (ck_E1 (ck_S1 q_p2_s380_s ck_S0) (ck_E1 (ck_S1 qRl_p2_s1394 ck_S0) (ck_E1 (ck_S1 qRl_p2_s176 ck_S0) (ck_E1 (ck_S1 qRl_p2_s375 (ck_S1 qRl_p2_s377 ck_S0)) (ck_E1 (ck_S1 qRl_p2_s1397 ck_S0) ck_E0)))))))⟩ (by decide +kernel)
noncomputable def q_p2_s1421 : ck_Sum := (((23 : Nat), (0 : Nat), (0 : Nat)), (245 : Nat), [.inr (.inr (.inl (226 : Nat))), .inl ((0 : Int), (7 : Int), []), .inl ((0 : Int), (5 : Int), []), .inl ((0 : Int), (299 : Int), []), .inl ((0 : Int), (99 : Int), [])], ([], [], [((227 : Nat), (2 : Int), (2 : Int), ((0 : Int), (8 : Int), [((20 : Nat), (0 : Int))])), ((227 : Nat), (5 : Int), (5 : Int), ((0 : Int), (8 : Int), [((23 : Nat), (0 : Int))]))]), ([((226 : Nat), (17 : Int), (23 : Int)), ((226 : Nat), (26 : Int), (26 : Int)), ((226 : Nat), (29 : Int), (30 : Int)), ((233 : Nat), (0 : Int), (399 : Int)), ((235 : Nat), (0 : Int), (29699 : Int)), ((236 : Nat), (0 : Int), (299 : Int)), ((237 : Nat), (0 : Int), (299 : Int))], []), [(.inr (some (.inl (ck_one (-1)))), (245 : Nat), ([], [], [])), (.inr (some (.inl ((0 : Int), (298 : Int), []))), (245 : Nat), ([], [], [((226 : Nat), (29 : Int), (29 : Int), ((0 : Int), (299 : Int), []))]))])
set_option maxRecDepth 100000 in
theorem q_p2_s1421_s : ck_Ok qR_O X LX 339 q_p2_s1421 := ck_okq (cuts := [((5 : Nat), [some (.inr (.inr (.inl (226 : Nat)))), some (.inl ((0 : Int), (7 : Int), [])), some (.inl ((0 : Int), (5 : Int), [])), some (.inl ((0 : Int), (299 : Int), [])), some (.inl ((0 : Int), (99 : Int), [])), some (.inl ((-1 : Int), (298 : Int), []))], ([], [], [((227 : Nat), (2 : Int), (2 : Int), ((0 : Int), (8 : Int), [((20 : Nat), (0 : Int))])), ((227 : Nat), (5 : Int), (5 : Int), ((0 : Int), (8 : Int), [((23 : Nat), (0 : Int))]))]), (100 : Nat), .inl (5 : Nat), false)]) (f := 198) ⟨qR_nmu, (ck_E1 (ck_S1 qRl_p2_s554 (ck_S1 qRl_p2_s555 ck_S0)) (ck_E1 (ck_S1 q_p2_s1326_s ck_S0) ck_E0))⟩ (by decide +kernel)
theorem qRl_p2_s1420 : ck_Ok qR_O X LX 286 p2_s1420 := qR_l p2_s1420_s (by decide +kernel)
theorem qRl_p2_s186 : ck_Ok qR_O X LX 253 p2_s186 := qR_l p2_s186_s (by decide +kernel)
noncomputable def q_p2_s1422 : ck_Sum := (((24 : Nat), (0 : Nat), (0 : Nat)), (245 : Nat), [.inr (.inr (.inl (226 : Nat))), .inl ((0 : Int), (5 : Int), []), .inl ((0 : Int), (299 : Int), []), .inl ((0 : Int), (99 : Int), [])], ([], [], [((227 : Nat), (2 : Int), (2 : Int), ((0 : Int), (8 : Int), [((20 : Nat), (0 : Int))])), ((227 : Nat), (3 : Int), (3 : Int), ((0 : Int), (8 : Int), [((21 : Nat), (0 : Int))])), ((227 : Nat), (5 : Int), (5 : Int), ((0 : Int), (8 : Int), [((23 : Nat), (0 : Int))]))]), ([((226 : Nat), (0 : Int), (0 : Int)), ((226 : Nat), (17 : Int), (23 : Int)), ((226 : Nat), (26 : Int), (26 : Int)), ((226 : Nat), (29 : Int), (30 : Int)), ((233 : Nat), (0 : Int), (399 : Int)), ((235 : Nat), (0 : Int), (29699 : Int)), ((236 : Nat), (0 : Int), (299 : Int)), ((237 : Nat), (0 : Int), (299 : Int))], []), [(.inr (some (.inl (ck_one 0))), (245 : Nat), ([], [], [((226 : Nat), (0 : Int), (0 : Int), ck_one 1)])), (.inr (some (.inl ((-2147483648 : Int), (2147483647 : Int), []))), (245 : Nat), ([], [], [((226 : Nat), (0 : Int), (0 : Int), ck_one 0)]))])
set_option maxRecDepth 100000 in
theorem q_p2_s1422_s : ck_Ok qR_O X LX 338 q_p2_s1422 := ck_okq (cuts := [((56 : Nat), [some (.inr (.inr (.inl (226 : Nat)))), some (.inl ((0 : Int), (5 : Int), [])), some (.inl ((0 : Int), (299 : Int), [])), some (.inl ((0 : Int), (99 : Int), [])), some (.inl ((-2147483648 : Int), (2147483647 : Int), [])), some (.inl ((0 : Int), (8 : Int), []))], ([], [], [((226 : Nat), (0 : Int), (0 : Int), ck_one 0), ((227 : Nat), (2 : Int), (2 : Int), ((0 : Int), (8 : Int), [((20 : Nat), (0 : Int))])), ((227 : Nat), (3 : Int), (3 : Int), ((0 : Int), (8 : Int), [((21 : Nat), (0 : Int))])), ((227 : Nat), (5 : Int), (5 : Int), ((0 : Int), (8 : Int), [((23 : Nat), (0 : Int))]))]), (100 : Nat), .inl (5 : Nat), true)]) (f := 202) ⟨qR_nmu, (ck_E1 (ck_S1 qRl_p2_s290 ck_S0) (ck_E1 (ck_S1 qRl_p2_s241 (ck_S1 qRl_p2_s242 (ck_S1 qRl_p2_s243 ck_S0))) (ck_E1 (ck_S1 qRl_p2_s263 ck_S0) (ck_E1 (ck_S1 qRl_p2_s1420 ck_S0) (ck_E1 (ck_S1 qRl_p2_s186 ck_S0) (ck_E1 (ck_S1 q_p2_s1421_s ck_S0) ck_E0))))))⟩ (by decide +kernel)
noncomputable def q_p2_s1440 : ck_Sum := (((24 : Nat), (0 : Nat), (0 : Nat)), (245 : Nat), [.inr (.inr (.inl (226 : Nat))), .inl ((0 : Int), (7 : Int), []), .inl ((0 : Int), (5 : Int), []), .inl ((0 : Int), (299 : Int), []), .inl ((0 : Int), (99 : Int), [])], ([], [], [((227 : Nat), (2 : Int), (2 : Int), ((0 : Int), (8 : Int), [((20 : Nat), (0 : Int))])), ((227 : Nat), (3 : Int), (3 : Int), ((0 : Int), (8 : Int), [((21 : Nat), (0 : Int))])), ((227 : Nat), (5 : Int), (5 : Int), ((0 : Int), (8 : Int), [((23 : Nat), (0 : Int))]))]), ([((226 : Nat), (0 : Int), (0 : Int)), ((226 : Nat), (17 : Int), (23 : Int)), ((226 : Nat), (26 : Int), (26 : Int)), ((226 : Nat), (29 : Int), (30 : Int)), ((233 : Nat), (0 : Int), (399 : Int)), ((235 : Nat), (0 : Int), (29699 : Int)), ((236 : Nat), (0 : Int), (299 : Int)), ((237 : Nat), (0 : Int), (299 : Int))], []), [(.inr (some (.inl ((0 : Int), (298 : Int), []))), (245 : Nat), ([], [], [((226 : Nat), (0 : Int), (0 : Int), ((0 : Int), (1 : Int), []))])), (.inr (some (.inl (ck_one (-1)))), (245 : Nat), ([], [], [((226 : Nat), (0 : Int), (0 : Int), ck_one 0)]))])
set_option maxRecDepth 100000 in
theorem q_p2_s1440_s : ck_Ok qR_O X LX 340 q_p2_s1440 := ck_okq (cuts := []) (f := 142) ⟨qR_nmu, (ck_E1 (ck_S1 qRl_p2_s365 ck_S0) (ck_E1 (ck_S1 qRl_p2_s241 (ck_S1 qRl_p2_s242 (ck_S1 qRl_p2_s243 ck_S0))) (ck_E1 (ck_S1 qRl_p2_s290 ck_S0) (ck_E1 (ck_S1 qRl_p2_s263 ck_S0) (ck_E1 (ck_S1 qRl_p2_s1420 ck_S0) (ck_E1 (ck_S1 q_p2_s1421_s ck_S0) ck_E0))))))⟩ (by decide +kernel)
theorem qRl_p2_s1511 : ck_Ok qR_O X LX 351 p2_s1511 := qR_l p2_s1511_s (by decide +kernel)
theorem qRl_p2_s1512 : ck_Ok qR_O X LX 352 p2_s1512 := qR_l p2_s1512_s (by decide +kernel)
noncomputable def q_p2_s1513 : ck_Sum := (((23 : Nat), (0 : Nat), (0 : Nat)), (245 : Nat), [.inr (.inr (.inl (226 : Nat))), .inl ((0 : Int), (7 : Int), [])], ([], [], [((227 : Nat), (2 : Int), (2 : Int), ((0 : Int), (8 : Int), [((20 : Nat), (0 : Int))])), ((227 : Nat), (3 : Int), (3 : Int), ((0 : Int), (8 : Int), [((21 : Nat), (0 : Int))])), ((227 : Nat), (5 : Int), (5 : Int), ((0 : Int), (8 : Int), [((23 : Nat), (0 : Int))])), ((227 : Nat), (9 : Int), (9 : Int), ((0 : Int), (299 : Int), [((11 : Nat), (0 : Int))]))]), ([((226 : Nat), (17 : Int), (23 : Int)), ((226 : Nat), (26 : Int), (26 : Int)), ((226 : Nat), (29 : Int), (30 : Int)), ((233 : Nat), (0 : Int), (399 : Int)), ((235 : Nat), (0 : Int), (29699 : Int)), ((236 : Nat), (0 : Int), (299 : Int)), ((237 : Nat), (0 : Int), (299 : Int)), ((240 : Nat), (0 : Int), (2407 : Int)), ((241 : Nat), (0 : Int), (2407 : Int)), ((242 : Nat), (0 : Int), (2407 : Int))], []), [(.inr none, (245 : Nat), ([], [], []))])
set_option maxRecDepth 100000 in
theorem q_p2_s1513_s : ck_Ok qR_O X LX 350 q_p2_s1513 := ck_okq (cuts := [((2 : Nat), [some (.inr (.inr (.inl (226 : Nat)))), some (.inl ((0 : Int), (7 : Int), [])), some (.inl ((0 : Int), (2408 : Int), [])), none, none, none, none], ([], [], [((227 : Nat), (2 : Int), (2 : Int), ((0 : Int), (8 : Int), [((20 : Nat), (0 : Int))])), ((227 : Nat), (3 : Int), (3 : Int), ((0 : Int), (8 : Int), [((21 : Nat), (0 : Int))])), ((227 : Nat), (5 : Int), (5 : Int), ((0 : Int), (8 : Int), [((23 : Nat), (0 : Int))])), ((227 : Nat), (9 : Int), (9 : Int), ((0 : Int), (299 : Int), [((11 : Nat), (0 : Int))]))]), (100 : Nat), .inl (2 : Nat), true), ((61 : Nat), [some (.inr (.inr (.inl (226 : Nat)))), some (.inl ((0 : Int), (7 : Int), [])), some (.inl ((0 : Int), (300 : Int), [])), none, none, none, none], ([], [], [((227 : Nat), (2 : Int), (2 : Int), ((0 : Int), (8 : Int), [((20 : Nat), (0 : Int))])), ((227 : Nat), (3 : Int), (3 : Int), ((0 : Int), (8 : Int), [((21 : Nat), (0 : Int))])), ((227 : Nat), (5 : Int), (5 : Int), ((0 : Int), (8 : Int), [((23 : Nat), (0 : Int))])), ((227 : Nat), (9 : Int), (9 : Int), ((0 : Int), (299 : Int), [((11 : Nat), (0 : Int))]))]), (300 : Nat), .inl (2 : Nat), true), ((70 : Nat), [some (.inr (.inr (.inl (226 : Nat)))), some (.inl ((0 : Int), (7 : Int), [])), some (.inl ((0 : Int), (299 : Int), [((300 : Nat), (0 : Int))])), some (.inl ((0 : Int), (8 : Int), [])), none, none, none], ([], [], [((227 : Nat), (2 : Int), (2 : Int), ((0 : Int), (8 : Int), [((20 : Nat), (0 : Int))])), ((227 : Nat), (3 : Int), (3 : Int), ((0 : Int), (8 : Int), [((21 : Nat), (0 : Int))])), ((227 : Nat), (5 : Int), (5 : Int), ((0 : Int), (8 : Int), [((23 : Nat), (0 : Int))])), ((227 : Nat), (9 : Int), (9 : Int), ((0 : Int), (299 : Int), [((11 : Nat), (0 : Int))]))]), (500 : Nat), .inl (3 : Nat), true), ((135 : Nat), [some (.inr (.inr (.inl (226 : Nat)))), some (.inl ((0 : Int), (7 : Int), [])), some (.inl ((0 : Int), (299 : Int), [((300 : Nat), (0 : Int))])), some (.inl ((0 : Int), (7 : Int), [((500 : Nat), (0 : Int))])), some (.inl ((0 : Int), (999 : Int), [])), some (.inl ((-1 : Int), (299 : Int), [])), some (.inl ((0 : Int), (8 : Int), []))], ([], [], [((226 : Nat), (29 : Int), (29 : Int), ((-1 : Int), (299 : Int), [])), ((227 : Nat), (2 : Int), (2 : Int), ((0 : Int), (8 : Int), [((20 : Nat), (0 : Int))])), ((227 : Nat), (3 : Int), (3 : Int), ((1 : Int), (8 : Int), [((21 : Nat), (0 : Int))])), ((227 : Nat), (5 : Int), (5 : Int), ((0 : Int), (8 : Int), [((23 : Nat), (0 : Int))])), ((227 : Nat), (9 : Int), (9 : Int), ((0 : Int), (299 : Int), [((11 : Nat), (0 : Int))]))]), (700 : Nat), .inl (6 : Nat), true)]) (f := 630) ⟨qR_nmu, (ck_E1 (ck_S1 qRl_p2_s190 ck_S0) (ck_E1 (ck_S1 qRl_p2_s1511 ck_S0) (ck_E1 (ck_S1 qRl_p2_s186 ck_S0) (ck_E1 (ck_S1 qRl_p2_s554 (ck_S1 qRl_p2_s555 ck_S0)) (ck_E1 (ck_S1 q_p2_s1326_s ck_S0) (ck_E1 (ck_S1 qRl_p2_s1512 ck_S0) ck_E0))))))⟩ (by decide +kernel)
theorem qRl_p2_s1514 : ck_Ok qR_O X LX 353 p2_s1514 := qR_l p2_s1514_s (by decide +kernel)
noncomputable def q_p2_s1515 : ck_Sum := (((24 : Nat), (0 : Nat), (0 : Nat)), (245 : Nat), [.inr (.inr (.inl (226 : Nat))), .inl ((0 : Int), (7 : Int), []), .inl ((0 : Int), (7 : Int), []), .inl ((0 : Int), (1 : Int), [])], ([], [], [((227 : Nat), (2 : Int), (2 : Int), ((0 : Int), (8 : Int), [((20 : Nat), (0 : Int))])), ((227 : Nat), (3 : Int), (3 : Int), ((0 : Int), (8 : Int), [((21 : Nat), (0 : Int))])), ((227 : Nat), (5 : Int), (5 : Int), ((0 : Int), (8 : Int), [((23 : Nat), (0 : Int))])), ((227 : Nat), (9 : Int), (9 : Int), ((0 : Int), (299 : Int), [((11 : Nat), (0 : Int))]))]), ([((226 : Nat), (0 : Int), (0 : Int)), ((226 : Nat), (17 : Int), (23 : Int)), ((226 : Nat), (26 : Int), (26 : Int)), ((226 : Nat), (29 : Int), (30 : Int)), ((233 : Nat), (0 : Int), (399 : Int)), ((235 : Nat), (0 : Int), (29699 : Int)), ((236 : Nat), (0 : Int), (299 : Int)), ((237 : Nat), (0 : Int), (299 : Int)), ((240 : Nat), (0 : Int), (2407 : Int)), ((241 : Nat), (0 : Int), (2407 : Int)), ((242 : Nat), (0 : Int), (2407 : Int))], []), [(.inr (some (.inl ((0 : Int), (1000 : Int), []))), (245 : Nat), ([], [], [((226 : Nat), (0 : Int), (0 : Int), ((0 : Int), (2 : Int), []))])), (.inr (some (.inl (ck_one (-1)))), (245 : Nat), ([], [], [((226 : Nat), (0 : Int), (0 : Int), ck_one 0)]))])
set_option maxRecDepth 100000 in
theorem q_p2_s1515_s : ck_Ok qR_O X LX 349 q_p2_s1515 := ck_okq (cuts := []) (f := 154) ⟨qR_nmu, (ck_E1 (ck_S1 qRl_p2_s365 ck_S0) (ck_E1 (ck_S1 qRl_p2_s241 (ck_S1 qRl_p2_s242 (ck_S1 qRl_p2_s243 (ck_S1 qRl_p2_s244 ck_S0)))) (ck_E1 (ck_S1 q_p2_s1513_s ck_S0) (ck_E1 (ck_S1 qRl_p2_s1514 ck_S0) (ck_E1 (ck_S1 qRl_p2_s1511 ck_S0) ck_E0)))))⟩ (by decide +kernel)
theorem qRl_p2_s1535 : ck_Ok qR_O X LX 355 p2_s1535 := qR_l p2_s1535_s (by decide +kernel)
noncomputable def q_p2_s1536 : ck_Sum := (((24 : Nat), (0 : Nat), (0 : Nat)), (245 : Nat), [.inr (.inr (.inl (226 : Nat))), .inl ((0 : Int), (7 : Int), []), .inl ((0 : Int), (7 : Int), []), .inl ((-2147483648 : Int), (0 : Int), [])], ([], [], [((227 : Nat), (2 : Int), (2 : Int), ((0 : Int), (8 : Int), [((20 : Nat), (0 : Int))])), ((227 : Nat), (3 : Int), (3 : Int), ((0 : Int), (8 : Int), [((21 : Nat), (0 : Int))])), ((227 : Nat), (5 : Int), (5 : Int), ((0 : Int), (8 : Int), [((23 : Nat), (0 : Int))])), ((227 : Nat), (9 : Int), (9 : Int), ((0 : Int), (299 : Int), [((11 : Nat), (0 : Int))]))]), ([((226 : Nat), (0 : Int), (0 : Int)), ((226 : Nat), (17 : Int), (23 : Int)), ((226 : Nat), (26 : Int), (26 : Int)), ((226 : Nat), (29 : Int), (30 : Int)), ((226 : Nat), (36 : Int), (36 : Int)), ((233 : Nat), (0 : Int), (399 : Int)), ((235 : Nat), (0 : Int), (29699 : Int)), ((236 : Nat), (0 : Int), (299 : Int)), ((237 : Nat), (0 : Int), (299 : Int)), ((240 : Nat), (0 : Int), (2407 : Int)), ((241 : Nat), (0 : Int), (2407 : Int)), ((242 : Nat), (0 : Int), (2407 : Int))], []), [(.inr (some (.inl (ck_one 0))), (245 : Nat), ([], [], [((226 : Nat), (0 : Int), (0 : Int), ((1 : Int), (2 : Int), []))])), (.inr (some (.inl ((-1 : Int), (7 : Int), []))), (245 : Nat), ([], [], [((226 : Nat), (0 : Int), (0 : Int), ck_one 0)]))])
set_option maxRecDepth 100000 in
theorem q_p2_s1536_s : ck_Ok qR_O X LX 354 q_p2_s1536 := ck_okq (cuts := [((108 : Nat), [some (.inr (.inr (.inl (226 : Nat)))), some (.inl ((0 : Int), (7 : Int), [])), some (.inl ((0 : Int), (7 : Int), [])), some (.inl (ck_one 0)), some (.inl ((-1 : Int), (299 : Int), [])), some (.inl ((-1 : Int), (7 : Int), [])), some (.inl ((0 : Int), (1000 : Int), []))], ([], [], [((226 : Nat), (0 : Int), (0 : Int), ck_one 0), ((227 : Nat), (2 : Int), (2 : Int), ((0 : Int), (8 : Int), [((20 : Nat), (0 : Int))])), ((227 : Nat), (3 : Int), (3 : Int), ((0 : Int), (8 : Int), [((21 : Nat), (0 : Int))])), ((227 : Nat), (5 : Int), (5 : Int), ((0 : Int), (8 : Int), [((23 : Nat), (0 : Int))])), ((227 : Nat), (9 : Int), (9 : Int), ((0 : Int), (299 : Int), [((11 : Nat), (0 : Int))]))]), (100 : Nat), .inl (6 : Nat), false)]) (f := 302) ⟨qR_nmu, (ck_E1 (ck_S1 qRl_p2_s365 ck_S0) (ck_E1 (ck_S1 qRl_p2_s241 (ck_S1 qRl_p2_s242 (ck_S1 qRl_p2_s244 (ck_S1 qRl_p2_s243 ck_S0)))) (ck_E1 (ck_S1 q_p2_s1513_s ck_S0) (ck_E1 (ck_S1 qRl_p2_s1514 ck_S0) (ck_E1 (ck_S1 qRl_p2_s1511 ck_S0) (ck_E1 (ck_S1 qRl_p2_s1535 ck_S0) ck_E0))))))⟩ (by decide +kernel)
theorem qRl_p2_s1537 : ck_Ok qR_O X LX 355 p2_s1537 := qR_l p2_s1537_s (by decide +kernel)
noncomputable def q_p2_s1538 : ck_Sum := (((24 : Nat), (0 : Nat), (0 : Nat)), (245 : Nat), [.inr (.inr (.inl (226 : Nat))), .inl ((0 : Int), (7 : Int), []), .inl ((0 : Int), (7 : Int), []), .inl ((51 : Int), (2147483647 : Int), [])], ([], [], [((227 : Nat), (2 : Int), (2 : Int), ((0 : Int), (8 : Int), [((20 : Nat), (0 : Int))])), ((227 : Nat), (3 : Int), (3 : Int), ((0 : Int), (8 : Int), [((21 : Nat), (0 : Int))])), ((227 : Nat), (5 : Int), (5 : Int), ((0 : Int), (8 : Int), [((23 : Nat), (0 : Int))])), ((227 : Nat), (9 : Int), (9 : Int), ((0 : Int), (299 : Int), [((11 : Nat), (0 : Int))]))]), ([((226 : Nat), (0 : Int), (0 : Int)), ((226 : Nat), (17 : Int), (23 : Int)), ((226 : Nat), (26 : Int), (26 : Int)), ((226 : Nat), (29 : Int), (30 : Int)), ((226 : Nat), (36 : Int), (36 : Int)), ((233 : Nat), (0 : Int), (399 : Int)), ((235 : Nat), (0 : Int), (29699 : Int)), ((236 : Nat), (0 : Int), (299 : Int)), ((237 : Nat), (0 : Int), (299 : Int)), ((240 : Nat), (0 : Int), (2407 : Int)), ((241 : Nat), (0 : Int), (2407 : Int)), ((242 : Nat), (0 : Int), (2407 : Int))], []), [(.inr (some (.inl (ck_one 0))), (245 : Nat), ([], [], [((226 : Nat), (0 : Int), (0 : Int), ((1 : Int), (2 : Int), []))])), (.inr (some (.inl ((-1 : Int), (7 : Int), []))), (245 : Nat), ([], [], [((226 : Nat), (0 : Int), (0 : Int), ck_one 0)]))])
set_option maxRecDepth 100000 in
theorem q_p2_s1538_s : ck_Ok qR_O X LX 354 q_p2_s1538 := ck_okq (cuts := [((108 : Nat), [some (.inr (.inr (.inl (226 : Nat)))), some (.inl ((0 : Int), (7 : Int), [])), some (.inl ((0 : Int), (7 : Int), [])), some (.inl ((51 : Int), (1000 : Int), [])), some (.inl ((-1 : Int), (299 : Int), [])), some (.inl ((-1 : Int), (7 : Int), [])), some (.inl ((0 : Int), (1000 : Int), []))], ([], [], [((226 : Nat), (0 : Int), (0 : Int), ck_one 0), ((227 : Nat), (2 : Int), (2 : Int), ((0 : Int), (8 : Int), [((20 : Nat), (0 : Int))])), ((227 : Nat), (3 : Int), (3 : Int), ((0 : Int), (8 : Int), [((21 : Nat), (0 : Int))])), ((227 : Nat), (5 : Int), (5 : Int), ((0 : Int), (8 : Int), [((23 : Nat), (0 : Int))])), ((227 : Nat), (9 : Int), (9 : Int), ((0 : Int), (299 : Int), [((11 : Nat), (0 : Int))]))]), (100 : Nat), .inl (6 : Nat), false)]) (f := 302) ⟨qR_nmu, (ck_E1 (ck_S1 qRl_p2_s365 ck_S0) (ck_E1 (ck_S1 qRl_p2_s241 (ck_S1 qRl_p2_s242 (ck_S1 qRl_p2_s244 (ck_S1 qRl_p2_s243 ck_S0)))) (ck_E1 (ck_S1 q_p2_s1513_s ck_S0) (ck_E1 (ck_S1 qRl_p2_s1514 ck_S0) (ck_E1 (ck_S1 qRl_p2_s1511 ck_S0) (ck_E1 (ck_S1 qRl_p2_s1537 ck_S0) ck_E0))))))⟩ (by decide +kernel)
theorem qRl_p2_s1539 : ck_Ok qR_O X LX 355 p2_s1539 := qR_l p2_s1539_s (by decide +kernel)
noncomputable def q_p2_s1540 : ck_Sum := (((24 : Nat), (0 : Nat), (0 : Nat)), (245 : Nat), [.inr (.inr (.inl (226 : Nat))), .inl ((0 : Int), (7 : Int), []), .inl ((0 : Int), (7 : Int), []), .inl ((1 : Int), (50 : Int), [])], ([], [], [((227 : Nat), (2 : Int), (2 : Int), ((0 : Int), (8 : Int), [((20 : Nat), (0 : Int))])), ((227 : Nat), (3 : Int), (3 : Int), ((0 : Int), (8 : Int), [((21 : Nat), (0 : Int))])), ((227 : Nat), (5 : Int), (5 : Int), ((0 : Int), (8 : Int), [((23 : Nat), (0 : Int))])), ((227 : Nat), (9 : Int), (9 : Int), ((0 : Int), (299 : Int), [((11 : Nat), (0 : Int))]))]), ([((226 : Nat), (0 : Int), (0 : Int)), ((226 : Nat), (17 : Int), (23 : Int)), ((226 : Nat), (26 : Int), (26 : Int)), ((226 : Nat), (29 : Int), (30 : Int)), ((226 : Nat), (36 : Int), (36 : Int)), ((233 : Nat), (0 : Int), (399 : Int)), ((235 : Nat), (0 : Int), (29699 : Int)), ((236 : Nat), (0 : Int), (299 : Int)), ((237 : Nat), (0 : Int), (299 : Int)), ((240 : Nat), (0 : Int), (2407 : Int)), ((241 : Nat), (0 : Int), (2407 : Int)), ((242 : Nat), (0 : Int), (2407 : Int))], []), [(.inr (some (.inl (ck_one 0))), (245 : Nat), ([], [], [((226 : Nat), (0 : Int), (0 : Int), ((1 : Int), (2 : Int), []))])), (.inr (some (.inl ((-1 : Int), (7 : Int), []))), (245 : Nat), ([], [], [((226 : Nat), (0 : Int), (0 : Int), ck_one 0)]))])
set_option maxRecDepth 100000 in
theorem q_p2_s1540_s : ck_Ok qR_O X LX 354 q_p2_s1540 := ck_okq (cuts := [((108 : Nat), [some (.inr (.inr (.inl (226 : Nat)))), some (.inl ((0 : Int), (7 : Int), [])), some (.inl ((0 : Int), (7 : Int), [])), some (.inl ((1 : Int), (50 : Int), [])), some (.inl ((-1 : Int), (299 : Int), [])), some (.inl ((-1 : Int), (7 : Int), [])), some (.inl ((0 : Int), (1000 : Int), []))], ([], [], [((226 : Nat), (0 : Int), (0 : Int), ck_one 0), ((227 : Nat), (2 : Int), (2 : Int), ((0 : Int), (8 : Int), [((20 : Nat), (0 : Int))])), ((227 : Nat), (3 : Int), (3 : Int), ((0 : Int), (8 : Int), [((21 : Nat), (0 : Int))])), ((227 : Nat), (5 : Int), (5 : Int), ((0 : Int), (8 : Int), [((23 : Nat), (0 : Int))])), ((227 : Nat), (9 : Int), (9 : Int), ((0 : Int), (299 : Int), [((11 : Nat), (0 : Int))]))]), (100 : Nat), .inl (6 : Nat), false)]) (f := 302) ⟨qR_nmu, (ck_E1 (ck_S1 qRl_p2_s365 ck_S0) (ck_E1 (ck_S1 qRl_p2_s241 (ck_S1 qRl_p2_s242 (ck_S1 qRl_p2_s244 (ck_S1 qRl_p2_s243 ck_S0)))) (ck_E1 (ck_S1 q_p2_s1513_s ck_S0) (ck_E1 (ck_S1 qRl_p2_s1514 ck_S0) (ck_E1 (ck_S1 qRl_p2_s1511 ck_S0) (ck_E1 (ck_S1 qRl_p2_s1539 ck_S0) ck_E0))))))⟩ (by decide +kernel)
noncomputable def q_p2_s1553 : ck_Sum := (((24 : Nat), (0 : Nat), (0 : Nat)), (245 : Nat), [.inr (.inr (.inl (226 : Nat))), .inl ((0 : Int), (7 : Int), []), .inl ((0 : Int), (299 : Int), [])], ([], [], [((227 : Nat), (2 : Int), (2 : Int), ((0 : Int), (8 : Int), [((20 : Nat), (0 : Int))])), ((227 : Nat), (3 : Int), (3 : Int), ((0 : Int), (8 : Int), [((21 : Nat), (0 : Int))])), ((227 : Nat), (5 : Int), (5 : Int), ((0 : Int), (8 : Int), [((23 : Nat), (0 : Int))])), ((227 : Nat), (9 : Int), (9 : Int), ((0 : Int), (299 : Int), [((11 : Nat), (0 : Int))]))]), ([((226 : Nat), (0 : Int), (0 : Int)), ((226 : Nat), (17 : Int), (23 : Int)), ((226 : Nat), (26 : Int), (26 : Int)), ((226 : Nat), (29 : Int), (30 : Int)), ((233 : Nat), (0 : Int), (399 : Int)), ((235 : Nat), (0 : Int), (29699 : Int)), ((236 : Nat), (0 : Int), (299 : Int)), ((237 : Nat), (0 : Int), (299 : Int)), ((240 : Nat), (0 : Int), (2407 : Int)), ((241 : Nat), (0 : Int), (2407 : Int)), ((242 : Nat), (0 : Int), (2407 : Int))], []), [(.inr (some (.inl (ck_one 0))), (245 : Nat), ([], [], [((226 : Nat), (0 : Int), (0 : Int), ck_one 1)])), (.inr (some (.inl ((-2147483648 : Int), (2147483647 : Int), []))), (245 : Nat), ([], [], [((226 : Nat), (0 : Int), (0 : Int), ck_one 0)]))])
set_option maxRecDepth 100000 in
theorem q_p2_s1553_s : ck_Ok qR_O X LX 356 q_p2_s1553 := ck_okq (cuts := [((44 : Nat), [some (.inr (.inr (.inl (226 : Nat)))), some (.inl ((0 : Int), (7 : Int), [])), some (.inl ((0 : Int), (299 : Int), [])), some (.inl ((-2147483648 : Int), (2147483647 : Int), [])), some (.inl ((0 : Int), (8 : Int), [])), none], ([], [], [((226 : Nat), (0 : Int), (0 : Int), ck_one 0), ((227 : Nat), (2 : Int), (2 : Int), ((0 : Int), (8 : Int), [((20 : Nat), (0 : Int))])), ((227 : Nat), (3 : Int), (3 : Int), ((0 : Int), (8 : Int), [((21 : Nat), (0 : Int))])), ((227 : Nat), (5 : Int), (5 : Int), ((0 : Int), (8 : Int), [((23 : Nat), (0 : Int))])), ((227 : Nat), (9 : Int), (9 : Int), ((0 : Int), (299 : Int), [((11 : Nat), (0 : Int))]))]), (100 : Nat), .inl (4 : Nat), true)]) (f := 194) ⟨qR_nmu, (ck_E1 (ck_S1 qRl_p2_s365 ck_S0) (ck_E1 (ck_S1 qRl_p2_s241 (ck_S1 qRl_p2_s242 (ck_S1 qRl_p2_s243 ck_S0))) (ck_E1 (ck_S1 qRl_p2_s263 ck_S0) (ck_E1 (ck_S1 q_p2_s1513_s ck_S0) (ck_E1 (ck_S1 qRl_p2_s186 ck_S0) (ck_E1 (ck_S1 qRl_p2_s1514 ck_S0) ck_E0))))))⟩ (by decide +kernel)
theorem qRl_p2_s166 : ck_Ok qR_O X LX 261 p2_s166 := qR_l p2_s166_s (by decide +kernel)
theorem qRl_p2_s1575 : ck_Ok qR_O X LX 333 p2_s1575 := qR_l p2_s1575_s (by decide +kernel)
theorem qRl_p2_s1576 : ck_Ok qR_O X LX 333 p2_s1576 := qR_l p2_s1576_s (by decide +kernel)
theorem qRl_p2_s1577 : ck_Ok qR_O X LX 333 p2_s1577 := qR_l p2_s1577_s (by decide +kernel)
theorem qRl_p2_s1578 : ck_Ok qR_O X LX 333 p2_s1578 := qR_l p2_s1578_s (by decide +kernel)
theorem qRl_p2_s1579 : ck_Ok qR_O X LX 333 p2_s1579 := qR_l p2_s1579_s (by decide +kernel)
theorem qRl_p2_s1580 : ck_Ok qR_O X LX 333 p2_s1580 := qR_l p2_s1580_s (by decide +kernel)
noncomputable def q_p2_s1581 : ck_Sum := (((25 : Nat), (0 : Nat), (0 : Nat)), (245 : Nat), [.inr (.inr (.inl (226 : Nat))), .inl ((0 : Int), (30 : Int), [])], ([], [], [((227 : Nat), (2 : Int), (2 : Int), ((0 : Int), (8 : Int), [((20 : Nat), (0 : Int))])), ((227 : Nat), (4 : Int), (4 : Int), ((0 : Int), (24 : Int), [((22 : Nat), (0 : Int))])), ((227 : Nat), (5 : Int), (5 : Int), ((0 : Int), (8 : Int), [((23 : Nat), (0 : Int))])), ((227 : Nat), (9 : Int), (9 : Int), ((0 : Int), (299 : Int), [((11 : Nat), (0 : Int))]))]), ([((226 : Nat), (17 : Int), (23 : Int)), ((226 : Nat), (26 : Int), (26 : Int)), ((226 : Nat), (29 : Int), (30 : Int)), ((233 : Nat), (0 : Int), (399 : Int)), ((235 : Nat), (0 : Int), (29699 : Int)), ((236 : Nat), (0 : Int), (299 : Int)), ((237 : Nat), (0 : Int), (299 : Int)), ((238 : Nat), (0 : Int), (23 : Int)), ((243 : Nat), (0 : Int), (5 : Int)), ((244 : Nat), (0 : Int), (5 : Int))], []), [(.inr none, (245 : Nat), ([], [], []))])
set_option maxRecDepth 100000 in
theorem q_p2_s1581_s : ck_Ok qR_O X LX 358 q_p2_s1581 := ck_okq (cuts := [((6 : Nat), [some (.inr (.inr (.inl (226 : Nat)))), some (.inl ((0 : Int), (30 : Int), [])), some (.inl ((0 : Int), (6 : Int), [])), none, none], ([], [], [((227 : Nat), (2 : Int), (2 : Int), ((0 : Int), (8 : Int), [((20 : Nat), (0 : Int))])), ((227 : Nat), (4 : Int), (4 : Int), ((0 : Int), (24 : Int), [((22 : Nat), (0 : Int))])), ((227 : Nat), (5 : Int), (5 : Int), ((0 : Int), (8 : Int), [((23 : Nat), (0 : Int))])), ((227 : Nat), (9 : Int), (9 : Int), ((0 : Int), (299 : Int), [((11 : Nat), (0 : Int))]))]), (100 : Nat), .inl (2 : Nat), true), ((34 : Nat), [some (.inr (.inr (.inl (226 : Nat)))), some (.inl ((0 : Int), (30 : Int), [])), some (.inl ((-1 : Int), (328 : Int), [])), none, none], ([], [], [((227 : Nat), (2 : Int), (2 : Int), ((0 : Int), (8 : Int), [((20 : Nat), (0 : Int))])), ((227 : Nat), (4 : Int), (4 : Int), ((0 : Int), (24 : Int), [((22 : Nat), (0 : Int))])), ((227 : Nat), (5 : Int), (5 : Int), ((0 : Int), (8 : Int), [((23 : Nat), (0 : Int))])), ((227 : Nat), (9 : Int), (9 : Int), ((0 : Int), (299 : Int), [((11 : Nat), (0 : Int))]))]), (300 : Nat), .inl (2 : Nat), false), ((44 : Nat), [some (.inr (.inr (.inl (226 : Nat)))), some (.inl ((0 : Int), (30 : Int), [])), some (.inl ((0 : Int), (328 : Int), [((300 : Nat), (0 : Int))])), some (.inl ((0 : Int), (6 : Int), [])), none], ([], [], [((227 : Nat), (2 : Int), (2 : Int), ((0 : Int), (8 : Int), [((20 : Nat), (0 : Int))])), ((227 : Nat), (4 : Int), (4 : Int), ((0 : Int), (24 : Int), [((22 : Nat), (0 : Int))])), ((227 : Nat), (5 : Int), (5 : Int), ((0 : Int), (8 : Int), [((23 : Nat), (0 : Int))])), ((227 : Nat), (9 : Int), (9 : Int), ((0 : Int), (299 : Int), [((11 : Nat), (0 : Int))]))]), (500 : Nat), .inl (3 : Nat), true), ((152 : Nat), [some (.inr (.inr (.inl (226 : Nat)))), some (.inl ((0 : Int), (30 : Int), [])), some (.inl ((0 : Int), (328 : Int), [((300 : Nat), (0 : Int))])), some (.inl ((0 : Int), (6 : Int), [])), none], ([], [], [((227 : Nat), (2 : Int), (2 : Int), ((0 : Int), (8 : Int), [((20 : Nat), (0 : Int))])), ((227 : Nat), (4 : Int), (4 : Int), ((0 : Int), (24 : Int), [((22 : Nat), (0 : Int))])), ((227 : Nat), (5 : Int), (5 : Int), ((0 : Int), (8 : Int), [((23 : Nat), (0 : Int))])), ((227 : Nat), (9 : Int), (9 : Int), ((0 : Int), (299 : Int), [((11 : Nat), (0 : Int))]))]), (700 : Nat), .inl (3 : Nat), true)]) (f := 800) ⟨qR_nmu, (ck_E1 (ck_S1 q_p2_s1373_s ck_S0) (ck_E1 (ck_S1 qRl_p2_s190 ck_S0) (ck_E1 (ck_S1 qRl_p2_s166 ck_S0) (ck_E1 (ck_S1 qRl_p2_s1575 (ck_S1 qRl_p2_s1576 (ck_S1 qRl_p2_s1577 (ck_S1 qRl_p2_s1578 (ck_S1 qRl_p2_s1579 (ck_S1 qRl_p2_s1580 ck_S0)))))) ck_E0))))⟩ (by decide +kernel)
theorem qRl_p2_s1574 : ck_Ok qR_O X LX 286 p2_s1574 := qR_l p2_s1574_s (by decide +kernel)
noncomputable def q_p2_s1582 : ck_Sum := (((26 : Nat), (0 : Nat), (0 : Nat)), (245 : Nat), [.inr (.inr (.inl (226 : Nat))), .inl ((0 : Int), (30 : Int), []), .inl ((0 : Int), (1 : Int), [])], ([], [], [((227 : Nat), (2 : Int), (2 : Int), ((0 : Int), (8 : Int), [((20 : Nat), (0 : Int))])), ((227 : Nat), (4 : Int), (4 : Int), ((0 : Int), (24 : Int), [((22 : Nat), (0 : Int))])), ((227 : Nat), (5 : Int), (5 : Int), ((0 : Int), (8 : Int), [((23 : Nat), (0 : Int))])), ((227 : Nat), (9 : Int), (9 : Int), ((0 : Int), (299 : Int), [((11 : Nat), (0 : Int))]))]), ([((226 : Nat), (0 : Int), (0 : Int)), ((226 : Nat), (17 : Int), (23 : Int)), ((226 : Nat), (26 : Int), (26 : Int)), ((226 : Nat), (29 : Int), (30 : Int)), ((233 : Nat), (0 : Int), (399 : Int)), ((235 : Nat), (0 : Int), (29699 : Int)), ((236 : Nat), (0 : Int), (299 : Int)), ((237 : Nat), (0 : Int), (299 : Int)), ((238 : Nat), (0 : Int), (23 : Int)), ((243 : Nat), (0 : Int), (5 : Int)), ((244 : Nat), (0 : Int), (5 : Int))], []), [(.inr (some (.inl ((0 : Int), (5 : Int), []))), (245 : Nat), ([], [], [((226 : Nat), (0 : Int), (0 : Int), ((0 : Int), (1 : Int), []))])), (.inr (some (.inl ((-2147483648 : Int), (2147483647 : Int), []))), (245 : Nat), ([], [], [((226 : Nat), (0 : Int), (0 : Int), ck_one 0)]))])
set_option maxRecDepth 100000 in
theorem q_p2_s1582_s : ck_Ok qR_O X LX 357 q_p2_s1582 := ck_okq (cuts := [((40 : Nat), [some (.inr (.inr (.inl (226 : Nat)))), some (.inl ((0 : Int), (30 : Int), [])), some (.inl ((0 : Int), (1 : Int), [])), some (.inl ((0 : Int), (5 : Int), [])), some (.inl ((1 : Int), (6 : Int), []))], ([], [], [((226 : Nat), (0 : Int), (0 : Int), ck_one 0), ((227 : Nat), (2 : Int), (2 : Int), ((0 : Int), (8 : Int), [((20 : Nat), (0 : Int))])), ((227 : Nat), (4 : Int), (4 : Int), ((0 : Int), (24 : Int), [((22 : Nat), (0 : Int))])), ((227 : Nat), (5 : Int), (5 : Int), ((0 : Int), (8 : Int), [((23 : Nat), (0 : Int))])), ((227 : Nat), (9 : Int), (9 : Int), ((0 : Int), (299 : Int), [((11 : Nat), (0 : Int))]))]), (100 : Nat), .inl (4 : Nat), true)]) (f := 174) ⟨qR_nmu, (ck_E1 (ck_S1 qRl_p2_s1574 ck_S0) (ck_E1 (ck_S1 qRl_p2_s241 (ck_S1 qRl_p2_s242 ck_S0)) (ck_E1 (ck_S1 q_p2_s1581_s ck_S0) (ck_E1 (ck_S1 qRl_p2_s166 ck_S0) ck_E0))))⟩ (by decide +kernel)
noncomputable def q_p2_s1590 : ck_Sum := (((25 : Nat), (0 : Nat), (0 : Nat)), (245 : Nat), [.inr (.inr (.inl (226 : Nat))), .inl ((0 : Int), (30 : Int), []), .inl ((0 : Int), (1 : Int), [])], ([], [], [((227 : Nat), (2 : Int), (2 : Int), ((0 : Int), (8 : Int), [((20 : Nat), (0 : Int))])), ((227 : Nat), (4 : Int), (4 : Int), ((0 : Int), (24 : Int), [((22 : Nat), (0 : Int))])), ((227 : Nat), (5 : Int), (5 : Int), ((0 : Int), (8 : Int), [((23 : Nat), (0 : Int))])), ((227 : Nat), (9 : Int), (9 : Int), ((0 : Int), (299 : Int), [((11 : Nat), (0 : Int))]))]), ([((226 : Nat), (0 : Int), (0 : Int)), ((226 : Nat), (17 : Int), (23 : Int)), ((226 : Nat), (26 : Int), (26 : Int)), ((226 : Nat), (29 : Int), (30 : Int)), ((233 : Nat), (0 : Int), (399 : Int)), ((235 : Nat), (0 : Int), (29699 : Int)), ((236 : Nat), (0 : Int), (299 : Int)), ((237 : Nat), (0 : Int), (299 : Int)), ((238 : Nat), (0 : Int), (23 : Int)), ((243 : Nat), (0 : Int), (5 : Int))], []), [(.inr (some (.inl ((0 : Int), (2147483647 : Int), []))), (245 : Nat), ([], [], [((226 : Nat), (0 : Int), (0 : Int), ((0 : Int), (1 : Int), []))])), (.inr (some (.inl ((-1 : Int), (5 : Int), []))), (245 : Nat), ([], [], [((226 : Nat), (0 : Int), (0 : Int), ck_one 0)]))])
set_option maxRecDepth 100000 in
theorem q_p2_s1590_s : ck_Ok qR_O X LX 359 q_p2_s1590 := ck_okq (cuts := [((36 : Nat), [some (.inr (.inr (.inl (226 : Nat)))), some (.inl ((0 : Int), (30 : Int), [])), some (.inl ((0 : Int), (1 : Int), [])), some (.inl ((0 : Int), (6 : Int), [])), none, none, none, none], ([], [], [((226 : Nat), (0 : Int), (0 : Int), ck_one 0), ((227 : Nat), (2 : Int), (2 : Int), ((0 : Int), (8 : Int), [((20 : Nat), (0 : Int))])), ((227 : Nat), (4 : Int), (4 : Int), ((0 : Int), (24 : Int), [((22 : Nat), (0 : Int))])), ((227 : Nat), (5 : Int), (5 : Int), ((0 : Int), (8 : Int), [((23 : Nat), (0 : Int))])), ((227 : Nat), (9 : Int), (9 : Int), ((0 : Int), (299 : Int), [((11 : Nat), (0 : Int))]))]), (100 : Nat), .inl (3 : Nat), true), ((105 : Nat), [some (.inr (.inr (.inl (226 : Nat)))), some (.inl ((0 : Int), (30 : Int), [])), some (.inl ((0 : Int), (1 : Int), [])), some (.inl ((-1 : Int), (5 : Int), [])), some (.inl ((0 : Int), (2147483647 : Int), [])), some (.inl ((0 : Int), (6 : Int), [])), none, none], ([], [], [((226 : Nat), (0 : Int), (0 : Int), ck_one 0), ((227 : Nat), (2 : Int), (2 : Int), ((0 : Int), (8 : Int), [((20 : Nat), (0 : Int))])), ((227 : Nat), (4 : Int), (4 : Int), ((0 : Int), (24 : Int), [((22 : Nat), (0 : Int))])), ((227 : Nat), (5 : Int), (5 : Int), ((0 : Int), (8 : Int), [((23 : Nat), (0 : Int))])), ((227 : Nat), (9 : Int), (9 : Int), ((0 : Int), (299 : Int), [((11 : Nat), (0 : Int))]))]), (300 : Nat), .inl (5 : Nat), true), ((57 : Nat), [some (.inr (.inr (.inl (226 : Nat)))), some (.inl ((0 : Int), (30 : Int), [])), some (.inl ((0 : Int), (1 : Int), [])), some (.inl ((0 : Int), (5 : Int), [((100 : Nat), (0 : Int))])), some (.inl ((0 : Int), (399 : Int), [((1000011 : Nat), (0 : Int))])), none, none, none], ([], [], [((226 : Nat), (0 : Int), (0 : Int), ck_one 0), ((227 : Nat), (2 : Int), (2 : Int), ((0 : Int), (8 : Int), [((20 : Nat), (0 : Int))])), ((227 : Nat), (4 : Int), (4 : Int), ((0 : Int), (24 : Int), [((22 : Nat), (0 : Int))])), ((227 : Nat), (5 : Int), (5 : Int), ((0 : Int), (8 : Int), [((23 : Nat), (0 : Int))])), ((227 : Nat), (9 : Int), (9 : Int), ((0 : Int), (299 : Int), [((11 : Nat), (0 : Int))]))]), (500 : Nat), .inl (4 : Nat), true), ((120 : Nat), [some (.inr (.inr (.inl (226 : Nat)))), some (.inl ((0 : Int), (30 : Int), [])), some (.inl ((0 : Int), (1 : Int), [])), some (.inl ((-1 : Int), (5 : Int), [])), some (.inl ((0 : Int), (2147483647 : Int), [])), some (.inl ((0 : Int), (5 : Int), [((300 : Nat), (0 : Int))])), some (.inl ((0 : Int), (2147483647 : Int), [])), some (.inl ((0 : Int), (6 : Int), []))], ([], [], [((226 : Nat), (0 : Int), (0 : Int), ck_one 0), ((227 : Nat), (2 : Int), (2 : Int), ((0 : Int), (8 : Int), [((20 : Nat), (0 : Int))])), ((227 : Nat), (4 : Int), (4 : Int), ((0 : Int), (24 : Int), [((22 : Nat), (0 : Int))])), ((227 : Nat), (5 : Int), (5 : Int), ((0 : Int), (8 : Int), [((23 : Nat), (0 : Int))])), ((227 : Nat), (9 : Int), (9 : Int), ((0 : Int), (299 : Int), [((11 : Nat), (0 : Int))]))]), (700 : Nat), .inl (7 : Nat), true)]) (f := 360) ⟨qR_nmu, (ck_E1 (ck_S1 qRl_p2_s1574 ck_S0) (ck_E1 (ck_S1 qRl_p2_s241 (ck_S1 qRl_p2_s242 ck_S0)) (ck_E1 (ck_S1 q_p2_s1373_s ck_S0) (ck_E1 (ck_S1 qRl_p2_s166 ck_S0) (ck_E1 (ck_S1 qRl_p2_s190 ck_S0) (ck_E1 (ck_S1 qRl_p2_s1575 ck_S0) ck_E0))))))⟩ (by decide +kernel)
theorem qRl_p2_s412 : ck_Ok qR_O X LX 312 p2_s412 := qR_l p2_s412_s (by decide +kernel)
theorem qRl_p2_s1395 : ck_Ok qR_O X LX 337 p2_s1395 := qR_l p2_s1395_s (by decide +kernel)
noncomputable def q_p2_s1602 : ck_Sum := (((23 : Nat), (0 : Nat), (0 : Nat)), (245 : Nat), [.inr (.inr (.inl (226 : Nat))), .inl ((0 : Int), (23 : Int), []), .inl ((0 : Int), (23 : Int), [])], ([], [], [((227 : Nat), (2 : Int), (2 : Int), ((0 : Int), (8 : Int), [((20 : Nat), (0 : Int))])), ((227 : Nat), (4 : Int), (4 : Int), ((0 : Int), (24 : Int), [((22 : Nat), (0 : Int))])), ((227 : Nat), (5 : Int), (5 : Int), ((0 : Int), (8 : Int), [((23 : Nat), (0 : Int))])), ((227 : Nat), (9 : Int), (9 : Int), ((0 : Int), (299 : Int), [((11 : Nat), (0 : Int))]))]), ([((226 : Nat), (0 : Int), (0 : Int)), ((226 : Nat), (17 : Int), (23 : Int)), ((226 : Nat), (26 : Int), (26 : Int)), ((226 : Nat), (29 : Int), (30 : Int)), ((233 : Nat), (0 : Int), (399 : Int)), ((235 : Nat), (0 : Int), (29699 : Int)), ((236 : Nat), (0 : Int), (299 : Int)), ((237 : Nat), (0 : Int), (299 : Int)), ((239 : Nat), (0 : Int), (299 : Int))], []), [(.inr (some (.inl ((0 : Int), (299 : Int), []))), (245 : Nat), ([], [], [((226 : Nat), (0 : Int), (0 : Int), ((0 : Int), (2 : Int), []))])), (.inr (some (.inl (ck_one (-1)))), (245 : Nat), ([], [], [((226 : Nat), (0 : Int), (0 : Int), ck_one 0)]))])
set_option maxRecDepth 100000 in
theorem q_p2_s1602_s : ck_Ok qR_O X LX 360 q_p2_s1602 := ck_okq (cuts := [((92 : Nat), [some (.inr (.inr (.inl (226 : Nat)))), some (.inl ((0 : Int), (23 : Int), [])), some (.inl ((0 : Int), (23 : Int), [])), some (.inl ((0 : Int), (300 : Int), [((1000011 : Nat), (0 : Int))]))], ([], [], [((226 : Nat), (0 : Int), (0 : Int), ck_one 0), ((227 : Nat), (2 : Int), (2 : Int), ((0 : Int), (8 : Int), [((20 : Nat), (0 : Int))])), ((227 : Nat), (4 : Int), (4 : Int), ((0 : Int), (24 : Int), [((22 : Nat), (0 : Int))])), ((227 : Nat), (5 : Int), (5 : Int), ((0 : Int), (8 : Int), [((23 : Nat), (0 : Int))])), ((227 : Nat), (9 : Int), (9 : Int), ((0 : Int), (299 : Int), [((11 : Nat), (0 : Int))]))]), (100 : Nat), .inl (3 : Nat), true)]) (f := 278) ⟨qR_nmu, (ck_E1 (ck_S1 qRl_p2_s406 ck_S0) (ck_E1 (ck_S1 qRl_p2_s241 (ck_S1 qRl_p2_s242 (ck_S1 qRl_p2_s243 (ck_S1 qRl_p2_s244 ck_S0)))) (ck_E1 (ck_S1 qRl_p2_s375 ck_S0) (ck_E1 (ck_S1 q_p2_s380_s ck_S0) (ck_E1 (ck_S1 qRl_p2_s1394 ck_S0) (ck_E1 (ck_S1 qRl_p2_s190 ck_S0) (ck_E1 (ck_S1 qRl_p2_s412 ck_S0) (ck_E1 (ck_S1 qRl_p2_s1395 ck_S0) ck_E0))))))))⟩ (by decide +kernel)
noncomputable def q_p2_s1609 : ck_Sum := (((25 : Nat), (0 : Nat), (0 : Nat)), (245 : Nat), [.inr (.inr (.inl (226 : Nat))), .inl ((0 : Int), (299 : Int), [])], ([], [], [((227 : Nat), (2 : Int), (2 : Int), ((0 : Int), (8 : Int), [((20 : Nat), (0 : Int))])), ((227 : Nat), (4 : Int), (4 : Int), ((0 : Int), (24 : Int), [((22 : Nat), (0 : Int))])), ((227 : Nat), (5 : Int), (5 : Int), ((0 : Int), (8 : Int), [((23 : Nat), (0 : Int))]))]), ([((226 : Nat), (0 : Int), (0 : Int)), ((226 : Nat), (17 : Int), (23 : Int)), ((226 : Nat), (26 : Int), (26 : Int)), ((226 : Nat), (29 : Int), (30 : Int)), ((233 : Nat), (0 : Int), (399 : Int)), ((235 : Nat), (0 : Int), (29699 : Int)), ((236 : Nat), (0 : Int), (299 : Int)), ((237 : Nat), (0 : Int), (299 : Int)), ((238 : Nat), (0 : Int), (23 : Int))], []), [(.inr (some (.inl ((-2147483648 : Int), (2147483647 : Int), []))), (245 : Nat), ([], [], [((226 : Nat), (0 : Int), (0 : Int), ck_one 0)]))])
set_option maxRecDepth 100000 in
theorem q_p2_s1609_s : ck_Ok qR_O X LX 361 q_p2_s1609 := ck_okq (cuts := []) (f := 104) ⟨qR_nmu, (ck_E1 (ck_S1 qRl_p2_s263 ck_S0) (ck_E1 (ck_S1 qRl_p2_s242 ck_S0) (ck_E1 (ck_S1 q_p2_s1373_s ck_S0) (ck_E1 (ck_S1 qRl_p2_s1374 ck_S0) ck_E0))))⟩ (by decide +kernel)
noncomputable def q_p2_s1612 : ck_Sum := (((25 : Nat), (0 : Nat), (0 : Nat)), (245 : Nat), [.inr (.inr (.inl (226 : Nat))), .inl ((-2147483648 : Int), (2147483647 : Int), [])], ([], [], [((227 : Nat), (2 : Int), (2 : Int), ((0 : Int), (8 : Int), [((20 : Nat), (0 : Int))])), ((227 : Nat), (4 : Int), (4 : Int), ((0 : Int), (24 : Int), [((22 : Nat), (0 : Int))])), ((227 : Nat), (5 : Int), (5 : Int), ((0 : Int), (8 : Int), [((23 : Nat), (0 : Int))]))]), ([((226 : Nat), (0 : Int), (0 : Int)), ((226 : Nat), (17 : Int), (23 : Int)), ((226 : Nat), (26 : Int), (26 : Int)), ((226 : Nat), (29 : Int), (30 : Int)), ((233 : Nat), (0 : Int), (399 : Int)), ((235 : Nat), (0 : Int), (29699 : Int)), ((236 : Nat), (0 : Int), (299 : Int)), ((237 : Nat), (0 : Int), (299 : Int)), ((238 : Nat), (0 : Int), (23 : Int))], []), [(.inr (some (.inl (ck_one (-1)))), (245 : Nat), ([], [], [((226 : Nat), (0 : Int), (0 : Int), ck_one 0)])), (.inr (some (.inl ((0 : Int), (23 : Int), []))), (245 : Nat), ([], [], [((226 : Nat), (0 : Int), (0 : Int), ck_one 0), ((227 : Nat), (4 : Int), (4 : Int), ((1 : Int), (24 : Int), [((22 : Nat), (0 : Int))]))]))])
set_option maxRecDepth 100000 in
theorem q_p2_s1612_s : ck_Ok qR_O X LX 362 q_p2_s1612 := ck_okq (cuts := [((13 : Nat), [some (.inr (.inr (.inl (226 : Nat)))), some (.inl ((-2147483648 : Int), (2147483647 : Int), [])), some (.inl ((-2147483648 : Int), (2147483647 : Int), [])), some (.inl ((0 : Int), (300 : Int), [])), none], ([], [], [((226 : Nat), (0 : Int), (0 : Int), ck_one 0), ((227 : Nat), (2 : Int), (2 : Int), ((0 : Int), (8 : Int), [((20 : Nat), (0 : Int))])), ((227 : Nat), (4 : Int), (4 : Int), ((0 : Int), (24 : Int), [((22 : Nat), (0 : Int))])), ((227 : Nat), (5 : Int), (5 : Int), ((0 : Int), (8 : Int), [((23 : Nat), (0 : Int))]))]), (100 : Nat), .inl (3 : Nat), true), ((27 : Nat), [some (.inr (.inr (.inl (226 : Nat)))), some (.inl ((0 : Int), (2147483647 : Int), [])), some (.inl ((-2147483648 : Int), (2147483647 : Int), [])), some (.inl ((0 : Int), (299 : Int), [((100 : Nat), (0 : Int))])), some (.inl ((0 : Int), (24 : Int), []))], ([], [], [((226 : Nat), (0 : Int), (0 : Int), ck_one 0), ((227 : Nat), (2 : Int), (2 : Int), ((0 : Int), (8 : Int), [((20 : Nat), (0 : Int))])), ((227 : Nat), (4 : Int), (4 : Int), ((0 : Int), (24 : Int), [((22 : Nat), (0 : Int))])), ((227 : Nat), (5 : Int), (5 : Int), ((0 : Int), (8 : Int), [((23 : Nat), (0 : Int))]))]), (300 : Nat), .inl (4 : Nat), true)]) (f := 206) ⟨qR_nmu, (ck_E1 (ck_S1 q_p2_s1373_s ck_S0) (ck_E1 (ck_S1 qRl_p2_s176 ck_S0) ck_E0))⟩ (by decide +kernel)
noncomputable def q_p2_s1618 : ck_Sum := (((25 : Nat), (0 : Nat), (0 : Nat)), (245 : Nat), [.inr (.inr (.inl (226 : Nat))), .inl ((0 : Int), (299 : Int), []), .inl ((0 : Int), (1 : Int), [])], ([], [], [((227 : Nat), (2 : Int), (2 : Int), ((0 : Int), (8 : Int), [((20 : Nat), (0 : Int))])), ((227 : Nat), (4 : Int), (4 : Int), ((0 : Int), (24 : Int), [((22 : Nat), (0 : Int))])), ((227 : Nat), (5 : Int), (5 : Int), ((0 : Int), (8 : Int), [((23 : Nat), (0 : Int))]))]), ([((226 : Nat), (0 : Int), (0 : Int)), ((226 : Nat), (17 : Int), (23 : Int)), ((226 : Nat), (26 : Int), (26 : Int)), ((226 : Nat), (29 : Int), (30 : Int)), ((233 : Nat), (0 : Int), (399 : Int)), ((235 : Nat), (0 : Int), (29699 : Int)), ((236 : Nat), (0 : Int), (299 : Int)), ((237 : Nat), (0 : Int), (299 : Int)), ((238 : Nat), (0 : Int), (23 : Int))], []), [(.inr (some (.inl ((-2147483648 : Int), (2147483647 : Int), []))), (245 : Nat), ([], [], [((226 : Nat), (0 : Int), (0 : Int), ck_one 0)]))])
set_option maxRecDepth 100000 in
theorem q_p2_s1618_s : ck_Ok qR_O X LX 363 q_p2_s1618 := ck_okq (cuts := [((28 : Nat), [some (.inr (.inr (.inl (226 : Nat)))), some (.inl ((0 : Int), (299 : Int), [])), some (.inl ((0 : Int), (1 : Int), [])), some (.inl ((-2147483648 : Int), (2147483647 : Int), [])), some (.inl ((0 : Int), (24 : Int), []))], ([], [], [((226 : Nat), (0 : Int), (0 : Int), ck_one 0), ((227 : Nat), (2 : Int), (2 : Int), ((0 : Int), (8 : Int), [((20 : Nat), (0 : Int))])), ((227 : Nat), (4 : Int), (4 : Int), ((0 : Int), (24 : Int), [((22 : Nat), (0 : Int))])), ((227 : Nat), (5 : Int), (5 : Int), ((0 : Int), (8 : Int), [((23 : Nat), (0 : Int))]))]), (100 : Nat), .inl (4 : Nat), true)]) (f := 234) ⟨qR_nmu, (ck_E1 (ck_S1 qRl_p2_s263 ck_S0) (ck_E1 (ck_S1 qRl_p2_s242 ck_S0) (ck_E1 (ck_S1 q_p2_s1373_s ck_S0) (ck_E1 (ck_S1 qRl_p2_s176 ck_S0) (ck_E1 (ck_S1 qRl_p2_s375 ck_S0) ck_E0)))))⟩ (by decide +kernel)
noncomputable def q_p2_s1628 : ck_Sum := (((23 : Nat), (0 : Nat), (0 : Nat)), (245 : Nat), [.inr (.inr (.inl (226 : Nat))), .inl ((0 : Int), (5 : Int), []), .inl ((0 : Int), (299 : Int), [])], ([], [], [((227 : Nat), (2 : Int), (2 : Int), ((0 : Int), (8 : Int), [((20 : Nat), (0 : Int))])), ((227 : Nat), (5 : Int), (5 : Int), ((0 : Int), (8 : Int), [((23 : Nat), (0 : Int))]))]), ([((226 : Nat), (0 : Int), (0 : Int)), ((226 : Nat), (17 : Int), (23 : Int)), ((226 : Nat), (26 : Int), (26 : Int)), ((226 : Nat), (29 : Int), (30 : Int)), ((233 : Nat), (0 : Int), (399 : Int)), ((235 : Nat), (0 : Int), (29699 : Int)), ((236 : Nat), (0 : Int), (299 : Int)), ((237 : Nat), (0 : Int), (299 : Int))], []), [(.inr (some (.inl (ck_one 0))), (245 : Nat), ([], [], [((226 : Nat), (0 : Int), (0 : Int), ck_one 1)])), (.inr (some (.inl ((-299 : Int), (299 : Int), []))), (245 : Nat), ([], [], [((226 : Nat), (0 : Int), (0 : Int), ck_one 0)]))])
set_option maxRecDepth 100000 in
theorem q_p2_s1628_s : ck_Ok qR_O X LX 364 q_p2_s1628 := ck_okq (cuts := []) (f := 126) ⟨qR_nmu, (ck_E1 (ck_S1 qRl_p2_s290 ck_S0) (ck_E1 (ck_S1 qRl_p2_s241 (ck_S1 qRl_p2_s242 (ck_S1 qRl_p2_s243 ck_S0))) (ck_E1 (ck_S1 qRl_p2_s263 ck_S0) (ck_E1 (ck_S1 q_p2_s1326_s ck_S0) ck_E0))))⟩ (by decide +kernel)
noncomputable def q_p2_s1638 : ck_Sum := (((23 : Nat), (0 : Nat), (0 : Nat)), (245 : Nat), [.inr (.inr (.inl (226 : Nat))), .inl ((0 : Int), (98 : Int), []), .inl ((0 : Int), (299 : Int), [])], ([], [], [((227 : Nat), (2 : Int), (2 : Int), ((0 : Int), (8 : Int), [((20 : Nat), (0 : Int))])), ((227 : Nat), (5 : Int), (5 : Int), ((0 : Int), (8 : Int), [((23 : Nat), (0 : Int))]))]), ([((226 : Nat), (0 : Int), (0 : Int)), ((226 : Nat), (17 : Int), (23 : Int)), ((226 : Nat), (26 : Int), (26 : Int)), ((226 : Nat), (29 : Int), (30 : Int)), ((233 : Nat), (0 : Int), (399 : Int)), ((235 : Nat), (0 : Int), (29699 : Int)), ((236 : Nat), (0 : Int), (299 : Int)), ((237 : Nat), (0 : Int), (299 : Int))], []), [(.inr (some (.inl (ck_one 0))), (245 : Nat), ([], [], [((226 : Nat), (0 : Int), (0 : Int), ck_one 1)])), (.inr (some (.inl ((-1 : Int), (5 : Int), []))), (245 : Nat), ([], [], [((226 : Nat), (0 : Int), (0 : Int), ck_one 0)]))])
set_option maxRecDepth 100000 in
theorem q_p2_s1638_s : ck_Ok qR_O X LX 365 q_p2_s1638 := ck_okq (cuts := [((42 : Nat), [some (.inr (.inr (.inl (226 : Nat)))), some (.inl ((0 : Int), (98 : Int), [])), some (.inl ((0 : Int), (299 : Int), [])), some (.inl ((-1 : Int), (5 : Int), [])), some (.inl ((0 : Int), (1000 : Int), [])), some (.inl ((0 : Int), (6 : Int), [])), none], ([], [], [((226 : Nat), (0 : Int), (0 : Int), ck_one 0), ((227 : Nat), (2 : Int), (2 : Int), ((0 : Int), (8 : Int), [((20 : Nat), (0 : Int))])), ((227 : Nat), (5 : Int), (5 : Int), ((0 : Int), (8 : Int), [((23 : Nat), (0 : Int))]))]), (100 : Nat), .inl (5 : Nat), true)]) (f := 182) ⟨qR_nmu, (ck_E1 (ck_S1 qRl_p2_s298 ck_S0) (ck_E1 (ck_S1 qRl_p2_s241 (ck_S1 qRl_p2_s242 (ck_S1 qRl_p2_s243 ck_S0))) (ck_E1 (ck_S1 qRl_p2_s263 ck_S0) (ck_E1 (ck_S1 qRl_p2_s166 ck_S0) (ck_E1 (ck_S1 q_p2_s1326_s ck_S0) ck_E0)))))⟩ (by decide +kernel)
theorem qRl_p2_s413 : ck_Ok qR_O X LX 311 p2_s413 := qR_l p2_s413_s (by decide +kernel)
noncomputable def q_p2_s1644 : ck_Sum := (((23 : Nat), (0 : Nat), (0 : Nat)), (245 : Nat), [.inr (.inr (.inl (226 : Nat))), .inl ((0 : Int), (299 : Int), [])], ([], [], [((227 : Nat), (2 : Int), (2 : Int), ((0 : Int), (8 : Int), [((20 : Nat), (0 : Int))])), ((227 : Nat), (4 : Int), (4 : Int), ((0 : Int), (24 : Int), [((22 : Nat), (0 : Int))])), ((227 : Nat), (5 : Int), (5 : Int), ((0 : Int), (8 : Int), [((23 : Nat), (0 : Int))]))]), ([((226 : Nat), (0 : Int), (0 : Int)), ((226 : Nat), (17 : Int), (23 : Int)), ((226 : Nat), (26 : Int), (26 : Int)), ((226 : Nat), (29 : Int), (30 : Int)), ((233 : Nat), (0 : Int), (399 : Int)), ((235 : Nat), (0 : Int), (29699 : Int)), ((236 : Nat), (0 : Int), (299 : Int)), ((237 : Nat), (0 : Int), (299 : Int))], []), [(.inr (some (.inl ((-2147483648 : Int), (2147483647 : Int), []))), (245 : Nat), ([], [], [((226 : Nat), (0 : Int), (0 : Int), ck_one 0)]))])
set_option maxRecDepth 100000 in
theorem q_p2_s1644_s : ck_Ok qR_O X LX 366 q_p2_s1644 := ck_okq (cuts := [((23 : Nat), [some (.inr (.inr (.inl (226 : Nat)))), some (.inl ((0 : Int), (299 : Int), [])), some (.inl ((-2147483648 : Int), (2147483647 : Int), [])), some (.inl ((0 : Int), (24 : Int), []))], ([], [], [((226 : Nat), (0 : Int), (0 : Int), ck_one 0), ((227 : Nat), (2 : Int), (2 : Int), ((0 : Int), (8 : Int), [((20 : Nat), (0 : Int))])), ((227 : Nat), (4 : Int), (4 : Int), ((0 : Int), (24 : Int), [((22 : Nat), (0 : Int))])), ((227 : Nat), (5 : Int), (5 : Int), ((0 : Int), (8 : Int), [((23 : Nat), (0 : Int))]))]), (100 : Nat), .inl (3 : Nat), true)]) (f := 182) ⟨qR_nmu, (ck_E1 (ck_S1 qRl_p2_s263 ck_S0) (ck_E1 (ck_S1 qRl_p2_s242 ck_S0) (ck_E1 (ck_S1 qRl_p2_s176 ck_S0) (ck_E1 (ck_S1 q_p2_s380_s ck_S0) (ck_E1 (ck_S1 qRl_p2_s413 ck_S0) ck_E0)))))⟩ (by decide +kernel)
theorem qRl_p2_s1773 : ck_Ok qR_O X LX 286 p2_s1773 := qR_l p2_s1773_s (by decide +kernel)
theorem qRl_p2_s1774 : ck_Ok qR_O X LX 286 p2_s1774 := qR_l p2_s1774_s (by decide +kernel)
theorem qRl_p2_s1775 : ck_Ok qR_O X LX 286 p2_s1775 := qR_l p2_s1775_s (by decide +kernel)
theorem qRl_p2_s1776 : ck_Ok qR_O X LX 286 p2_s1776 := qR_l p2_s1776_s (by decide +kernel)
theorem qRl_p2_s1777 : ck_Ok qR_O X LX 286 p2_s1777 := qR_l p2_s1777_s (by decide +kernel)
noncomputable def q_p2_s1778 : ck_Sum := (((25 : Nat), (0 : Nat), (0 : Nat)), (245 : Nat), [.inr (.inr (.inl (226 : Nat))), .inl ((10 : Int), (2147483647 : Int), [])], ([], [], [((227 : Nat), (2 : Int), (2 : Int), ((0 : Int), (8 : Int), [((20 : Nat), (0 : Int))])), ((227 : Nat), (4 : Int), (4 : Int), ((0 : Int), (24 : Int), [((22 : Nat), (0 : Int))])), ((227 : Nat), (5 : Int), (5 : Int), ((0 : Int), (8 : Int), [((23 : Nat), (0 : Int))])), ((227 : Nat), (14 : Int), (14 : Int), ((0 : Int), (24 : Int), [((26 : Nat), (0 : Int))])), ((226 : Nat), (6 : Int), (6 : Int), ((0 : Int), (12 : Int), [((27 : Nat), (0 : Int))])), ((227 : Nat), (9 : Int), (9 : Int), ((0 : Int), (299 : Int), [((11 : Nat), (0 : Int))]))]), ([((226 : Nat), (0 : Int), (0 : Int)), ((226 : Nat), (17 : Int), (23 : Int)), ((226 : Nat), (26 : Int), (26 : Int)), ((226 : Nat), (29 : Int), (30 : Int)), ((233 : Nat), (0 : Int), (399 : Int)), ((235 : Nat), (0 : Int), (29699 : Int)), ((236 : Nat), (0 : Int), (299 : Int)), ((237 : Nat), (0 : Int), (299 : Int))], []), [(.inr (some (.inl ((-2147483648 : Int), (2147483647 : Int), []))), (245 : Nat), ([], [], [((226 : Nat), (0 : Int), (0 : Int), ck_one 0)])), (.inr (some (.inl ((0 : Int), (9999 : Int), []))), (245 : Nat), ([], [], [((226 : Nat), (0 : Int), (0 : Int), ck_one 0)]))])
set_option maxRecDepth 100000 in
theorem q_p2_s1778_s : ck_Ok qR_O X LX 368 q_p2_s1778 := ck_okq (cuts := [((132 : Nat), [some (.inr (.inr (.inl (226 : Nat)))), some (.inl (ck_one 16)), some (.inl ((-2147483648 : Int), (2147483647 : Int), [])), some (.inl ((0 : Int), (24 : Int), [])), none], ([], [], [((226 : Nat), (0 : Int), (0 : Int), ck_one 0), ((227 : Nat), (2 : Int), (2 : Int), ((0 : Int), (8 : Int), [((20 : Nat), (0 : Int))])), ((227 : Nat), (4 : Int), (4 : Int), ((0 : Int), (24 : Int), [((22 : Nat), (0 : Int))])), ((227 : Nat), (5 : Int), (5 : Int), ((0 : Int), (8 : Int), [((23 : Nat), (0 : Int))])), ((227 : Nat), (14 : Int), (14 : Int), ((0 : Int), (24 : Int), [((26 : Nat), (0 : Int))])), ((226 : Nat), (6 : Int), (6 : Int), ((0 : Int), (12 : Int), [((27 : Nat), (0 : Int))])), ((227 : Nat), (9 : Int), (9 : Int), ((0 : Int), (299 : Int), [((11 : Nat), (0 : Int))]))]), (100 : Nat), .inl (3 : Nat), true), ((98 : Nat), [some (.inr (.inr (.inl (226 : Nat)))), some (.inl (ck_one 15)), some (.inl ((-2147483648 : Int), (2147483647 : Int), [])), some (.inl ((0 : Int), (24 : Int), [])), none], ([], [], [((226 : Nat), (0 : Int), (0 : Int), ck_one 0), ((227 : Nat), (2 : Int), (2 : Int), ((0 : Int), (8 : Int), [((20 : Nat), (0 : Int))])), ((227 : Nat), (4 : Int), (4 : Int), ((0 : Int), (24 : Int), [((22 : Nat), (0 : Int))])), ((227 : Nat), (5 : Int), (5 : Int), ((0 : Int), (8 : Int), [((23 : Nat), (0 : Int))])), ((227 : Nat), (14 : Int), (14 : Int), ((0 : Int), (24 : Int), [((26 : Nat), (0 : Int))])), ((226 : Nat), (6 : Int), (6 : Int), ((0 : Int), (12 : Int), [((27 : Nat), (0 : Int))])), ((227 : Nat), (9 : Int), (9 : Int), ((0 : Int), (299 : Int), [((11 : Nat), (0 : Int))]))]), (300 : Nat), .inl (3 : Nat), true)]) (f := 242) ⟨qR_nmu, (ck_E1 (ck_S1 qRl_p2_s1773 (ck_S1 qRl_p2_s1774 (ck_S1 qRl_p2_s1775 (ck_S1 qRl_p2_s1776 (ck_S1 qRl_p2_s1777 ck_S0))))) (ck_E1 (ck_S1 qRl_p2_s176 ck_S0) (ck_E1 (ck_S1 q_p2_s381_s ck_S0) (ck_E1 (ck_S1 qRl_p2_s190 ck_S0) (ck_E1 (ck_S1 q_p2_s382_s ck_S0) ck_E0)))))⟩ (by decide +kernel)
end GHR
end
/-! 7c40.vw -/
section
/-! THE LAW'S CALLS, told of class and reference by one state. -/
theorem gm_lc_ne {L : gm_L} {j i : Nat} (h : ¬ i + 1 = j) : (gm_lc L j)[i]? = L[i]? := by
  cases j with
  | zero => rfl
  | succ j =>
    show (match L[j]? with
      | some (some (.inr (.inl _))) => L.set j none
      | _ => L)[i]? = _
    split
    · rw [List.getElem?_set, if_neg (by omega)]
    · rfl
/-- the law's variables: script, class, reference, out, i -/
noncomputable def mn_L (i : Int) (L : gm_L) : Prop := L.length = 7 ∧ L[0]? = some (some (gm_vo 2000)) ∧ L[1]? = some (some (gm_vr 1)) ∧ L[2]? = some (some (gm_vr 226)) ∧ L[3]? = some (some (gm_vr 245)) ∧ L[4]? = some (some (gm_vi i))
theorem mn_L_s {i y : Int} {L : gm_L} {j : Nat} (h : mn_L i L) (hj : j = 5 ∨ j = 6) : mn_L i (gm_lst L j (gm_vi y)) := by
  obtain ⟨h0, h1, h2, h3, h4, h5⟩ := h
  show mn_L i ((gm_lc L j).set j (some (gm_vi y)))
  have e : ∀ k, k < 4 → ((gm_lc L j).set j (some (gm_vi y)))[k]? = L[k]? := fun k hk => by
    rw [List.getElem?_set, if_neg (by omega), gm_lc_ne (by omega)]
  refine ⟨by rw [List.length_set, gm_lc_len]; exact h0, (e 0 (by decide)).trans h1, (e 1 (by decide)).trans h2, (e 2 (by decide)).trans h3, (e 3 (by decide)).trans h4, ?_⟩
  rw [List.getElem?_set, if_neg (by omega)]
  rcases hj with rfl | rfl
  · show (match L[4]? with
      | some (some (.inr (.inl _))) => L.set 4 none
      | _ => L)[4]? = _
    rw [h5]
    exact h5
  · rw [gm_lc_ne (by decide)]
    exact h5
section MN
variable {X : Int → Int} {LX d bc bs pc n : Nat} {L : gm_L} {st : List gm_V} {K : gm_K} {R : gm_R} {M : gm_M} {Q : gm_Q}
theorem mn_arg {j i : Int} (a0 : gm_at 370 pc = some (.aload_n 0)) (a1 : gm_at 370 (pc + 1) = some (.iload 4)) (a2 : gm_at 370 (pc + 3) = some (.iconst j)) (a3 : gm_at 370 (pc + 4) = some .iadd) (a4 : gm_at 370 (pc + 5) = some .iaload) (hL : mn_L i L) (hi : 0 ≤ i ∧ i + 6 ≤ (LX : Int)) (hj : 1 ≤ j ∧ j ≤ 5) (hX : LX ≤ 3072) (k : gm_Wp X LX d bc bs 370 (pc + 6) L (gm_vi (X (i + j)) :: st) n K R M Q) : gm_Wp X LX d bc bs 370 pc L st n K R M Q := by
  obtain ⟨h0, h1, h2, h3, h4, h5⟩ := hL
  have w : gm_w (i + j) = i + j := gm_w_id (by omega) (by omega)
  refine gm_sz (gm_p_load a0 (sr := 2) (j := 0) rfl h1 rfl) ?_
  refine gm_sz (gm_p_load a1 (sr := 0) (j := 4) rfl h5 rfl) ?_
  refine gm_sz (gm_p_const a2 (v := gm_vi j) rfl) ?_
  refine gm_sz (gm_p_bin a3 (f := fun x y => x + y) rfl) ?_
  refine gm_sz (gm_p_sald a4 (by rw [w]; omega)) ?_
  rw [w]
  exact k
/-- a truth, as javac lays it down -/
noncomputable def bz (x : Int) : Int := if gm_w x = gm_w 0 then 0 else 1
theorem bz_0 {x : Int} : 0 ≤ bz x := by unfold bz; split <;> decide
theorem bz_1 {x : Int} : bz x ≤ 1 := by unfold bz; split <;> decide
theorem mn_bool {x : Int} (a0 : gm_at 370 pc = some (.ifCond .eq 7)) (a1 : gm_at 370 (pc + 3) = some (.iconst 1)) (a2 : gm_at 370 (pc + 4) = some (.goto 4)) (a3 : gm_at 370 (pc + 7) = some (.iconst 0)) (k : gm_Wp X LX d bc bs 370 (pc + 8) L (gm_vi (bz x) :: st) n K R M Q) : gm_Wp X LX d bc bs 370 pc L (gm_vi x :: st) n K R M Q := by
  have t7 : gm_tgt pc 7 = pc + 7 := by unfold gm_tgt; omega
  have t4 : gm_tgt (pc + 4) 4 = pc + 8 := by unfold gm_tgt; omega
  refine gm_b_if a0 (by omega) (fun hp => ?_) (fun hp => ?_)
  · have hp : gm_w x = gm_w 0 := hp
    rw [t7]
    refine gm_sz (gm_p_const a3 (v := gm_vi 0) rfl) ?_
    rw [show bz x = 0 from if_pos hp] at k
    exact k
  · have hp : ¬ gm_w x = gm_w 0 := hp
    refine gm_sz (gm_p_const a1 (v := gm_vi 1) rfl) ?_
    refine gm_sz (gm_p_goto (pc := pc + 4) a2 (by omega)) ?_
    rw [show bz x = 1 from if_neg hp] at k
    rw [t4]
    exact k
end MN
theorem bc_in0 : bc_in [] [] := trivial
theorem bc_in1 {b : Int × Int} {bs : List (Int × Int)} {x : Int} {xs : List Int} (h : b.1 ≤ x ∧ x ≤ b.2) (h2 : bc_in bs xs) : bc_in (b :: bs) (x :: xs) := ⟨h, h2⟩
theorem mn_w {x : Int} (h : gm_ir x) : -2147483648 ≤ x ∧ x ≤ 2147483647 := ⟨h.1, by have := h.2; omega⟩
noncomputable def mn_u (r : Bool) (u : Option gm_V) : Prop := if r = true then ∃ y, u = some (gm_vi y) else u = none
noncomputable def w_r (r : Bool) (S : ck_Sum) : Bool := S.2.2.2.2.2.all fun oc => match oc.1 with
  | .inr none => !r
  | .inr (some _) => r
  | _ => false
/-- class and reference are told the same, of whatever state -/
noncomputable def RELW (la : Nat → Nat) (K : gm_K) (M : gm_M) : Prop := ∃ (N : Int → Int) (lw : Option (List lln)) (A : List (Int → Int)) (im : Option ((Int → Int) × Option (List lln))) (t w : Int) (f : Int → Int), REL la K M N lw A im t w f
section VW
variable {X : Int → Int} {LX : Nat} {O : gm_Or} {g z g1 bc bs ix mj pc : Nat} {la : Nat → Nat} {K : gm_K} {R : gm_R} {M : gm_M} {L : gm_L} {st : List gm_V} {Q : gm_Q} {N : Int → Int} {lw : Option (List lln)} {A : List (Int → Int)} {im : Option ((Int → Int) × Option (List lln))} {t w : Int} {f : Int → Int} {S : ck_Sum} {l l0 l1 : List ck_Sum} {ds : List (Int × Int)} {xs : List Int} {r : Bool} {u : Option gm_V} {P : (Nat → Nat) → gm_K → gm_M → Prop}
theorem hck_int {oc : ck_Oc} (h : bc_ok O z g1 S = true) (hoc : oc ∈ S.2.2.2.2.2) : (match oc.1 with
  | .inr none => true
  | .inr (some (.inl _)) => true
  | _ => false) = true := by
  simp only [bc_ok, Bool.and_eq_true, decide_eq_true_eq] at h
  obtain ⟨-, -, -, -, h5⟩ := h
  have h6 := List.all_eq_true.mp h5 oc hoc
  simp only [Bool.and_eq_true, decide_eq_true_eq] at h6
  exact h6.1
theorem vr_s (h : w_r r S = true) (hok : bc_ok O z g1 S = true) (hv : mq_V S u) : mn_u r u := by
  obtain ⟨oc, hoc, σ, ho⟩ := hv
  have h9 := List.all_eq_true.mp h oc hoc
  unfold mn_u
  rcases hoc1 : oc.1 with x | a
  · rw [hoc1] at h9; cases h9
  · rw [hoc1] at ho
    rcases a with _ | a
    · rw [hoc1] at h9
      have h9 : (!r) = true := h9
      rw [if_neg (by cases r <;> simp_all)]
      cases u with
      | none => rfl
      | some v => exact absurd ho id
    · rw [hoc1] at h9
      have h9 : r = true := h9
      rw [if_pos h9]
      have h10 := hck_int (S := S) hok hoc
      rw [hoc1] at h10
      cases u with
      | none => exact absurd ho id
      | some v =>
        rcases a with a | a
        · obtain ⟨y, rfl, -⟩ := ho
          exact ⟨y, rfl⟩
        · cases h10
/-- behind a call -/
noncomputable def rq_K (X : Int → Int) (LX bc bs pc : Nat) (L : gm_L) (st : List gm_V) (Q : gm_Q) (g : Nat) (r : Bool) (P : (Nat → Nat) → gm_K → gm_M → Prop) : Prop := ∀ (u : Option gm_V) (la2 : Nat → Nat) (K2 : gm_K) (R2 : gm_R) (M2 : gm_M), mn_u r u → bg g la2 K2 R2 M2 → P la2 K2 M2 → gm_Wp X LX 280 (bc - 6) (bs - 600) 370 pc L (u.toList ++ st) (245 + 4 * g) K2 R2 M2 Q
theorem rq_go (hw : w_r r S = true) (hok : bc_ok O z g1 S = true) (k : rq_K X LX bc bs pc L st Q g r P) : mq_K X LX bc bs pc L st Q g P (fun u _ => mq_V S u) := fun u la2 K2 R2 M2 hv hb2 hp => k u la2 K2 R2 M2 (vr_s hw hok hv) hb2 hp
theorem lw_0 (hR : REL la K M N lw A im t w f) (h3 : la 3 = 0) : lw = none := by
  cases lw with
  | none => rfl
  | some ls => exact absurd h3 (hR.2.1.1.2 ls rfl).1
theorem lw_1 (hR : REL la K M N lw A im t w f) (h3 : ¬ la 3 = 0) : ∃ ls, lw = some ls := by
  cases lw with
  | none => exact absurd (hR.2.1.1.1 rfl) h3
  | some ls => exact ⟨ls, rfl⟩
theorem rq_as {k1 : Nat} (ha : bc_args S k1 false = true) (hin : bc_in (bc_box S) xs) (hi : ∀ x ∈ xs, gm_ir x) : ∀ σ, ck_gas σ S.2.2.1 (gm_vr k1 :: xs.map gm_vi) := fun σ => by
  have := bc_gas2 (σ := σ) ha hin hi
  rwa [mw_as] at this
/-- a call that only asks: the class, by one of the law's own methods -/
theorem rq_x (hb : bg g la K R M) (hg : g < 10000) (hR : REL la K M N lw A im t w f) (h : gm_at 370 pc = some (.invokestatic ix)) (hc : gm_cal (gm_ow 370) ix = some (5, mj)) (hmx : gm_ow mj ≠ gm_mxi) (hhj : ¬ gm_hh mj = []) (hna : xs.length + 2 = gm_na mj) (hlen : xs.length + 2 ≤ gm_ml mj) (hst : (st.map gm_cat).sum ≤ 8) (s0 : ∀ S ∈ l0, ck_Ok q0_O X LX mj S) (s1 : ∀ S ∈ l1, ck_Ok qL_O X LX mj S) (c0 : l0.all (fun S => w_k q0_O 0 0 1 true S && w_r r S) = true) (c1 : l1.all (fun S => w_k qL_O 246 1 1 true S && w_r r S) = true) (v0 : bc_cov 60 ds (l0.map bc_box) = true) (v1 : bc_cov 60 ds (l1.map bc_box) = true) (hx : bc_in ds xs) (hi : ∀ x ∈ xs, gm_ir x) (hbc : 6 ≤ bc) (hbs : 600 ≤ bs) (k : rq_K X LX bc bs (pc + 3) L st Q g r (fun la2 K2 M2 => REL la2 K2 M2 N lw A im t w f)) : gm_Wp X LX 280 bc bs 370 pc L (gm_vr 245 :: ((xs.map gm_vi).reverse ++ gm_vr 1 :: st)) (245 + 4 * g) K R M Q := by
  by_cases h3 : la 3 = 0
  · have hz : bs_ok la 0 0 := Or.inl ⟨rfl, rfl, h3⟩
    have el := lw_0 hR h3
    subst el
    obtain ⟨S, hS, hin⟩ := mw_in v0 hx
    have hck := List.all_eq_true.mp c0 S hS
    simp only [Bool.and_eq_true] at hck
    obtain ⟨hck, hw⟩ := hck
    have hck2 := hck
    simp only [w_k, Bool.and_eq_true, decide_eq_true_eq] at hck2
    exact bc_statX (O := q0_O) (z := 0) (g1 := 0) hb hz hg q0_nmu (fun _ _ _ _ h => q0_p h) (bs_q0 hb hR) h hc hmx hhj hna hlen hst (s0 S hS) hck2.1 (by omega) (by omega) (by omega) (fun σ => bc_gas2 hck2.2.1 hin hi) (wk0_s hb h3 hck hR hbc hbs (rq_go hw hck2.1 k))
  · have hz : bs_ok la 246 1 := Or.inr (Or.inr ⟨rfl, rfl, h3⟩)
    obtain ⟨ls, rfl⟩ := lw_1 hR h3
    obtain ⟨S, hS, hin⟩ := mw_in v1 hx
    have hck := List.all_eq_true.mp c1 S hS
    simp only [Bool.and_eq_true] at hck
    obtain ⟨hck, hw⟩ := hck
    have hck2 := hck
    simp only [w_k, Bool.and_eq_true, decide_eq_true_eq] at hck2
    exact bc_statX (O := qL_O) (z := 246) (g1 := 1) hb hz hg qL_nmu (fun _ _ _ _ h => pl_o (qL_p h)) (bs_qL hb h3 hR) h hc hmx hhj hna hlen hst (s1 S hS) hck2.1 (by omega) (by omega) (by omega) (fun σ => bc_gas2 hck2.2.1 hin hi) (wkL_s hb h3 hck hR hbc hbs (rq_go hw hck2.1 k))
/-- the class itself -/
theorem rq_d (hb : bg g la K R M) (hg : g < 10000) (hR : REL la K M N lw A im t w f) (h : gm_at 370 pc = some (.invokevirtual ix)) (hc : gm_cal (gm_ow 370) ix = some (0, mj)) (hmx : gm_ow mj ≠ gm_mxi) (hcn : gm_cn 0 = (gm_mn mj).cls) (hna : xs.length = gm_na mj) (hlen : xs.length + 1 ≤ gm_ml mj) (hst : (st.map gm_cat).sum ≤ 8) (s0 : ∀ S ∈ l0, ck_Ok q0_O X LX mj S) (s1 : ∀ S ∈ l1, ck_Ok qL_O X LX mj S) (c0 : l0.all (fun S => w_k q0_O 0 0 1 false S && w_r r S) = true) (c1 : l1.all (fun S => w_k qL_O 246 1 1 false S && w_r r S) = true) (v0 : bc_cov 60 ds (l0.map bc_box) = true) (v1 : bc_cov 60 ds (l1.map bc_box) = true) (hx : bc_in ds xs) (hi : ∀ x ∈ xs, gm_ir x) (hbc : 6 ≤ bc) (hbs : 600 ≤ bs) (k : rq_K X LX bc bs (pc + 3) L st Q g r (fun la2 K2 M2 => REL la2 K2 M2 N lw A im t w f)) : gm_Wp X LX 280 bc bs 370 pc L ((xs.map gm_vi).reverse ++ gm_vr 1 :: st) (245 + 4 * g) K R M Q := by
  by_cases h3 : la 3 = 0
  · have hz : bs_ok la 0 0 := Or.inl ⟨rfl, rfl, h3⟩
    have el := lw_0 hR h3
    subst el
    obtain ⟨S, hS, hin⟩ := mw_in v0 hx
    have hck := List.all_eq_true.mp c0 S hS
    simp only [Bool.and_eq_true] at hck
    obtain ⟨hck, hw⟩ := hck
    have hck2 := hck
    simp only [w_k, Bool.and_eq_true, decide_eq_true_eq] at hck2
    exact bc_virtX (O := q0_O) (z := 0) (g1 := 0) (k1 := 1) (ci := 0) hb hz hg q0_nmu (fun _ _ _ _ h => q0_p h) (bs_q0 hb hR) ⟨by decide, by decide⟩ (mw_k1 hb).1 h hc hmx (by decide) hcn hna hlen hst (s0 S hS) hck2.1 (by omega) (by omega) (by omega) (rq_as hck2.2.1 hin hi) (wk0_s hb h3 hck hR hbc hbs (rq_go hw hck2.1 k))
  · have hz : bs_ok la 246 1 := Or.inr (Or.inr ⟨rfl, rfl, h3⟩)
    obtain ⟨ls, rfl⟩ := lw_1 hR h3
    obtain ⟨S, hS, hin⟩ := mw_in v1 hx
    have hck := List.all_eq_true.mp c1 S hS
    simp only [Bool.and_eq_true] at hck
    obtain ⟨hck, hw⟩ := hck
    have hck2 := hck
    simp only [w_k, Bool.and_eq_true, decide_eq_true_eq] at hck2
    exact bc_virtX (O := qL_O) (z := 246) (g1 := 1) (k1 := 1) (ci := 0) hb hz hg qL_nmu (fun _ _ _ _ h => pl_o (qL_p h)) (bs_qL hb h3 hR) ⟨by decide, by decide⟩ (mw_k1 hb).1 h hc hmx (by decide) hcn hna hlen hst (s1 S hS) hck2.1 (by omega) (by omega) (by omega) (rq_as hck2.2.1 hin hi) (wkL_s hb h3 hck hR hbc hbs (rq_go hw hck2.1 k))
/-- the reference -/
theorem rq_m (hb : bg g la K R M) (hg : g < 10000) (hR : REL la K M N lw A im t w f) (h : gm_at 370 pc = some (.invokevirtual ix)) (hc : gm_cal (gm_ow 370) ix = some (0, mj)) (hmx : gm_ow mj ≠ gm_mxi) (hcn : gm_cn 11 = (gm_mn mj).cls) (hna : xs.length = gm_na mj) (hlen : xs.length + 1 ≤ gm_ml mj) (hst : (st.map gm_cat).sum ≤ 8) (s0 : ∀ S ∈ l, ck_Ok qR_O X LX mj S) (c0 : l.all (fun S => w_kR S && w_r r S) = true) (v0 : bc_cov 60 ds (l.map bc_box) = true) (hx : bc_in ds xs) (hi : ∀ x ∈ xs, gm_ir x) (hbc : 6 ≤ bc) (hbs : 600 ≤ bs) (k : rq_K X LX bc bs (pc + 3) L st Q g r (fun la2 K2 M2 => REL la2 K2 M2 N lw A im t w f)) : gm_Wp X LX 280 bc bs 370 pc L ((xs.map gm_vi).reverse ++ gm_vr 226 :: st) (245 + 4 * g) K R M Q := by
  obtain ⟨S, hS, hin⟩ := mw_in v0 hx
  have hck := List.all_eq_true.mp c0 S hS
  simp only [Bool.and_eq_true] at hck
  obtain ⟨hck, hw⟩ := hck
  have hck2 := hck
  simp only [w_kR, Bool.and_eq_true, decide_eq_true_eq] at hck2
  exact bc_virtX (O := qR_O) (z := 100003) (g1 := 0) (k1 := 226) (ci := 11) hb (Or.inr (Or.inl ⟨rfl, rfl⟩)) hg qR_nmu (fun _ _ _ _ h => qR_p h) (bs_qR hb hR) ⟨by decide, by decide⟩ (mw_k1 hb).2 h hc hmx (by decide) hcn hna hlen hst (s0 S hS) hck2.1 (by omega) (by omega) (by omega) (rq_as hck2.2.1 hin hi) (wkR_s hb hck hR hbc hbs (rq_go hw hck2.1 k))
/-- FIT: the class, the reference -/
theorem ft_x (hb : bg g la K R M) (hg : g < 10000) (hR : REL la K M N lw A im t w f) (h : gm_at 370 pc = some (.invokestatic ix)) (hc : gm_cal (gm_ow 370) ix = some (5, mj)) (hmx : gm_ow mj ≠ gm_mxi) (hhj : ¬ gm_hh mj = []) (hna : xs.length + 2 = gm_na mj) (hlen : xs.length + 2 ≤ gm_ml mj) (hst : (st.map gm_cat).sum ≤ 8) (s0 : ∀ S ∈ l0, ck_Ok p2_O X LX mj S) (s1 : ∀ S ∈ l1, ck_Ok p2_OL X LX mj S) (c0 : l0.all (fun S => w_ft p2_O 0 0 1 true 1 1 S && w_r r S) = true) (c1 : l1.all (fun S => w_ft p2_OL 246 1 1 true 1 1 S && w_r r S) = true) (v0 : bc_cov 60 ds (l0.map bc_box) = true) (v1 : bc_cov 60 ds (l1.map bc_box) = true) (hx : bc_in ds xs) (hi : ∀ x ∈ xs, gm_ir x) (hbc : 6 ≤ bc) (hbs : 600 ≤ bs) (k : rq_K X LX bc bs (pc + 3) L st Q g r (fun la2 K2 M2 => MID la2 K2 M2 N lw A im 0 w f N lw A im t w f)) : gm_Wp X LX 280 bc bs 370 pc L (gm_vr 245 :: ((xs.map gm_vi).reverse ++ gm_vr 1 :: st)) (245 + 4 * g) K R M Q := by
  by_cases h3 : la 3 = 0
  · have hz : bs_ok la 0 0 := Or.inl ⟨rfl, rfl, h3⟩
    obtain ⟨S, hS, hin⟩ := mw_in v0 hx
    have hck := List.all_eq_true.mp c0 S hS
    simp only [Bool.and_eq_true] at hck
    obtain ⟨hck, hw⟩ := hck
    have hck2 := hck
    simp only [w_ft, Bool.and_eq_true, decide_eq_true_eq] at hck2
    exact bc_statX (O := p2_O) (z := 0) (g1 := 0) hb hz hg p2_nmu (fun _ _ _ _ h => h) (bs_F0 hb) h hc hmx hhj hna hlen hst (s0 S hS) hck2.1 (by omega) (by omega) (by omega) (fun σ => bc_gas2 hck2.2.1 hin hi) (fx_K hb hz hck hR hbc hbs (rq_go hw hck2.1 k))
  · have hz : bs_ok la 246 1 := Or.inr (Or.inr ⟨rfl, rfl, h3⟩)
    obtain ⟨S, hS, hin⟩ := mw_in v1 hx
    have hck := List.all_eq_true.mp c1 S hS
    simp only [Bool.and_eq_true] at hck
    obtain ⟨hck, hw⟩ := hck
    have hck2 := hck
    simp only [w_ft, Bool.and_eq_true, decide_eq_true_eq] at hck2
    exact bc_statX (O := p2_OL) (z := 246) (g1 := 1) hb hz hg pl_nmu (fun _ _ _ _ h => pl_o h) (bs_F1 hb h3) h hc hmx hhj hna hlen hst (s1 S hS) hck2.1 (by omega) (by omega) (by omega) (fun σ => bc_gas2 hck2.2.1 hin hi) (fx_K hb hz hck hR hbc hbs (rq_go hw hck2.1 k))
theorem ft_m (hb : bg g la K R M) (hg : g < 10000) (hR : MID la K M N lw A im 0 w f N lw A im t w f) (h : gm_at 370 pc = some (.invokevirtual ix)) (hc : gm_cal (gm_ow 370) ix = some (0, mj)) (hmx : gm_ow mj ≠ gm_mxi) (hcn : gm_cn 11 = (gm_mn mj).cls) (hna : xs.length = gm_na mj) (hlen : xs.length + 1 ≤ gm_ml mj) (hst : (st.map gm_cat).sum ≤ 8) (s0 : ∀ S ∈ l, ck_Ok p2_O X LX mj S) (c0 : l.all (fun S => w_ft p2_O 100003 0 226 false 226 8 S && w_r r S) = true) (v0 : bc_cov 60 ds (l.map bc_box) = true) (hx : bc_in ds xs) (hi : ∀ x ∈ xs, gm_ir x) (hbc : 6 ≤ bc) (hbs : 600 ≤ bs) (k : rq_K X LX bc bs (pc + 3) L st Q g r (fun la2 K2 M2 => REL la2 K2 M2 N lw A im 0 w f)) : gm_Wp X LX 280 bc bs 370 pc L ((xs.map gm_vi).reverse ++ gm_vr 226 :: st) (245 + 4 * g) K R M Q := by
  obtain ⟨S, hS, hin⟩ := mw_in v0 hx
  have hck := List.all_eq_true.mp c0 S hS
  simp only [Bool.and_eq_true] at hck
  obtain ⟨hck, hw⟩ := hck
  have hck2 := hck
  simp only [w_ft, Bool.and_eq_true, decide_eq_true_eq] at hck2
  exact bc_virtX (O := p2_O) (z := 100003) (g1 := 0) (k1 := 226) (ci := 11) hb (Or.inr (Or.inl ⟨rfl, rfl⟩)) hg p2_nmu (fun _ _ _ _ h => h) (bs_F0 hb) ⟨by decide, by decide⟩ (mw_k1 hb).2 h hc hmx (by decide) hcn hna hlen hst (s0 S hS) hck2.1 (by omega) (by omega) (by omega) (rq_as hck2.2.1 hin hi) (fm_K hb hck hR hbc hbs (rq_go hw hck2.1 k))
/-- m.thrown() -/
theorem mn_th {j0 : Nat} (hb : bg g la K R M) (h : gm_at 370 pc = some (.invokevirtual ix)) (hc : gm_cal (gm_ow 370) ix = some (0, mj)) (hmx : gm_ow mj ≠ gm_mxi) (hh : gm_hh 370 = []) (hcn : gm_cn 11 = (gm_mn mj).cls) (hna : 0 = gm_na mj) (hlen : 1 ≤ gm_ml mj) (hst : (st.map gm_cat).sum ≤ 8) (a0 : gm_at mj 0 = some (.aload_n 0)) (a1 : gm_at mj 1 = some (.getfield j0)) (a2 : gm_at mj 4 = some .ireturn) (hf : gm_fld (gm_ow mj) j0 11 = some 0) (hs : ¬ gm_isr 11 0 = true) (hr : gm_rt mj = some .int) (k : gm_Wp X LX 280 bc bs 370 (pc + 3) L (gm_vi (M 226 0) :: st) (245 + 4 * g) K R M Q) : gm_Wp X LX 280 bc bs 370 pc L (gm_vr 226 :: st) (245 + 4 * g) K R M Q := by
  have k226 : (1 ≤ 226 ∧ 226 ≤ 245 + 4 * g) ∧ (K 226).1 = 11 + 4 := e0k (e0F hb.2.1) (k := 226) (c := 11) (by decide +kernel)
  refine gm_c_virt (k := 226) (ci := 11) (mj := mj) (ix := ix) (pc := pc) (as := []) (st := st) (d' := 1) (bc' := 0) (bs' := 0) h hc hmx hh k226.1 k226.2 (by decide) hcn hna fw_c0 hlen hst (by decide) (Nat.zero_le _) (Nat.zero_le _) ?_
  refine gm_sz (gm_p_load (pc := 0) (i := .aload_n 0) (sr := 2) (j := 0) a0 rfl rfl rfl) ?_
  refine gm_sz (fw_gi (pc := 1) (ix := j0) (ci := 11) (j := 0) (x := M 226 0) a1 k226 hf hs rfl) ?_
  refine gm_r_int (pc := 4) a2 (Or.inl hr) ?_
  show gm_Wp X LX 280 (bc - 0) (bs - 0) 370 (pc + 3) L (gm_vi (M 226 0) :: st) (245 + 4 * g) K R M Q
  exact k
theorem mn_l5 {i y : Int} (hL : mn_L i L) : (gm_lst L 5 (gm_vi y))[5]? = some (some (gm_vi y)) := by
  show ((gm_lc L 5).set 5 (some (gm_vi y)))[5]? = _
  rw [List.getElem?_set, if_pos rfl, if_pos (by rw [gm_lc_len]; have := hL.1; omega)]
theorem mn_l6 {i y : Int} (hL : mn_L i L) : (gm_lst L 6 (gm_vi y))[6]? = some (some (gm_vi y)) := by
  show ((gm_lc L 6).set 6 (some (gm_vi y)))[6]? = _
  rw [List.getElem?_set, if_pos rfl, if_pos (by rw [gm_lc_len]; have := hL.1; omega)]
theorem mn_l65 {x y : Int} (h : L[5]? = some (some (gm_vi x))) : (gm_lst L 6 (gm_vi y))[5]? = some (some (gm_vi x)) := by
  show ((gm_lc L 6).set 6 (some (gm_vi y)))[5]? = _
  rw [List.getElem?_set, if_neg (by decide)]
  show (match L[5]? with
    | some (some (.inr (.inl _))) => L.set 5 none
    | _ => L)[5]? = _
  rw [h]
  exact h
/-- thrown the same, and, where nothing is, the same number -/
theorem mn_cmpA {i c y : Int} {p ixt jt : Nat} (hb : bg g la K R M) (hL : mn_L i L) (l5 : L[5]? = some (some (gm_vi c))) (l6 : L[6]? = some (some (gm_vi y))) (a0 : gm_at 370 p = some (.aload_n 2)) (a1 : gm_at 370 (p + 1) = some (.invokevirtual ixt)) (hc : gm_cal (gm_ow 370) ixt = some (0, mj)) (hmx : gm_ow mj ≠ gm_mxi) (hh : gm_hh 370 = []) (hcn : gm_cn 11 = (gm_mn mj).cls) (hna : 0 = gm_na mj) (hlen : 1 ≤ gm_ml mj) (b0 : gm_at mj 0 = some (.aload_n 0)) (b1 : gm_at mj 1 = some (.getfield jt)) (b2 : gm_at mj 4 = some .ireturn) (hf : gm_fld (gm_ow mj) jt 11 = some 0) (hs : ¬ gm_isr 11 0 = true) (hr : gm_rt mj = some .int)
    (a4 : gm_at 370 (p + 4) = some (.iload 5)) (a6 : gm_at 370 (p + 6) = some (.if_icmp .eq 5)) (a11 : gm_at 370 (p + 11) = some (.iload 5)) (a13 : gm_at 370 (p + 13) = some (.ifCond .ne 15)) (a16 : gm_at 370 (p + 16) = some (.aload_n 3)) (a17 : gm_at 370 (p + 17) = some (.iconst 0)) (a18 : gm_at 370 (p + 18) = some .laload) (a19 : gm_at 370 (p + 19) = some (.iload 6)) (a21 : gm_at 370 (p + 21) = some .i2l) (a22 : gm_at 370 (p + 22) = some .lcmp) (a23 : gm_at 370 (p + 23) = some (.ifCond .eq 5))
    (hth : gm_w (M 226 0) = gm_w c) (hv : gm_w c = gm_w 0 → gm_w6 (M 245 0) = gm_w6 (gm_w y)) (k : gm_Wp X LX 280 bc bs 370 (p + 28) L [] (245 + 4 * g) K R M Q) : gm_Wp X LX 280 bc bs 370 p L [] (245 + 4 * g) K R M Q := by
  have t1 : gm_tgt (p + 6) 5 = p + 11 := by unfold gm_tgt; omega
  have t2 : gm_tgt (p + 13) 15 = p + 28 := by unfold gm_tgt; omega
  have t3 : gm_tgt (p + 23) 5 = p + 28 := by unfold gm_tgt; omega
  have k245 : K 245 = (2, 1) := (hb.2.1.1 245 (2, 1) (by decide +kernel)).2.2
  refine gm_sz (gm_p_load a0 (sr := 2) (j := 2) rfl hL.2.2.2.1 rfl) ?_
  refine mn_th hb a1 hc hmx hh hcn hna hlen (by decide) b0 b1 b2 hf hs hr ?_
  refine gm_sz (gm_p_load (pc := p + 4) a4 (sr := 0) (j := 5) rfl l5 rfl) ?_
  refine gm_b_ic (cc := .eq) (pc := p + 6) a6 (by omega) (fun _ => ?_) (fun hp => absurd hth hp)
  rw [t1]
  refine gm_sz (gm_p_load (pc := p + 11) a11 (sr := 0) (j := 5) rfl l5 rfl) ?_
  refine gm_b_if (cc := .ne) (pc := p + 13) a13 (by omega) (fun hp => ?_) (fun hp => ?_)
  · rw [t2]
    exact k
  · have h0 : gm_w c = gm_w 0 := Classical.not_not.mp hp
    refine gm_sz (gm_p_load (pc := p + 16) a16 (sr := 2) (j := 3) rfl hL.2.2.2.2.1 rfl) ?_
    refine gm_sz (gm_p_const (pc := p + 17) a17 (v := gm_vi 0) rfl) ?_
    refine gm_sz (gm_p_lald (pc := p + 18) (k := 245) a18 ⟨by decide, by omega⟩ (by rw [k245]) (by rw [k245]; decide)) ?_
    refine gm_sz (gm_p_load (pc := p + 19) a19 (sr := 0) (j := 6) rfl l6 rfl) ?_
    refine gm_sz (gm_p_i2l (pc := p + 21) a21) ?_
    refine gm_sz (gm_p_lcmp (pc := p + 22) a22) ?_
    have eq0 : gm_lcm (M 245 (gm_w 0)) (gm_w y) = 0 := by
      have a : gm_w6 (M 245 0) = gm_w6 (gm_w y) := hv h0
      show gm_lcm (M 245 0) (gm_w y) = 0
      unfold gm_lcm
      rw [if_neg (by omega), if_pos a]
    rw [eq0]
    refine gm_b_if (cc := .eq) (pc := p + 23) a23 (by omega) (fun _ => ?_) (fun hp3 => absurd rfl hp3)
    rw [t3]
    exact k
end VW
end
/-! 7c42.ct -/
section
/-! THE CLASS'S CONSTRUCTOR, told by two rows at once: what is reached by the same references is the same. -/
noncomputable def dt_S (n n1 n2 : Nat) (S : Nat → Nat → Prop) (K1 : gm_K) (R1 : gm_R) (M1 : gm_M) (K2 : gm_K) (R2 : gm_R) (M2 : gm_M) : Prop :=
  (∀ k, 1 ≤ k → k ≤ n → S k k) ∧
  (∀ k1 k2 c j r1 r2 : Nat, S k1 k2 → K1 k1 = K2 k2 → (K1 k1).1 = c + 4 → j < gm_nf c → gm_isr c j = true → R1 k1 (j : Int) = r1 → R2 k2 (j : Int) = r2 → 1 ≤ r1 → r1 ≤ n1 → r1 < 100000 → 1 ≤ r2 → r2 ≤ n2 → r2 < 100000 → S r1 r2) ∧
  (∀ k1 k2 : Nat, S k1 k2 → K1 k1 = K2 k2 → (K1 k1).1 = 0 → ∀ j : Nat, j < (K1 k1).2 → Int32.ofInt (M1 k1 (j : Int)) = Int32.ofInt (M2 k2 (j : Int)))
theorem dt_mem2 {D : va_G} {ti : Nat → ClassId} {H : Heap} {α α1 α2 : Nat → Nat} {n n1 n2 : Nat} {K1 K2 : gm_K} {R1 R2 : gm_R} {M1 M2 : gm_M} (x1 : gm_xt α n α1 n1) (x2 : gm_xt α n α2 n2) (p1 : va_P D gm_cs (gm_wl ti α1 n1 K1 R1 M1) H) (p2 : va_P D gm_cs (gm_wl ti α2 n2 K2 R2 M2) H) : dt_S n n1 n2 (fun k1 k2 => α1 k1 = α2 k2 ∧ (1 ≤ k1 ∧ k1 ≤ n1) ∧ 1 ≤ k2 ∧ k2 ≤ n2) K1 R1 M1 K2 R2 M2 := by
  refine ⟨fun k h1 h2 => ⟨(x1.2.1 k h1 h2).trans (x2.2.1 k h1 h2).symm, ⟨h1, Nat.le_trans h2 x1.1⟩, h1, Nat.le_trans h2 x2.1⟩, fun k1 k2 c j r1 r2 hs hK h hj hr e1 e2 b1 b2 b3 b4 b5 b6 => ⟨?_, ⟨b1, b2⟩, b4, b5⟩, fun k1 k2 hs hK h j hj => ?_⟩
  · obtain ⟨ha, ⟨s1, s2⟩, s3, s4⟩ := hs
    have a1 := p1 _ _ (gm_wl_at (ti := ti) (α := α1) (K := K1) (R := R1) (M := M1) s1 s2)
    have a2 := p2 _ _ (gm_wl_at (ti := ti) (α := α2) (K := K2) (R := R2) (M := M2) s3 s4)
    rw [← ha] at a2
    have g1 : gm_en ti α1 K1 R1 M1 k1 = .inr (c, gm_fs α1 R1 M1 k1 c) := gm_en_obj h
    have g2 : gm_en ti α2 K2 R2 M2 k2 = .inr (c, gm_fs α2 R2 M2 k2 c) := gm_en_obj (by rw [← hK]; exact h)
    rw [g1] at a1
    rw [g2] at a2
    obtain ⟨q1, hq1, c1, v1, -, -, f1⟩ := a1
    obtain ⟨q2, hq2, c2, v2, -, -, f2⟩ := a2
    have hq1 : gm_cs[c]? = some q1 := hq1
    have hq2 : gm_cs[c]? = some q2 := hq2
    rw [hq1] at hq2
    cases hq2
    rw [v1] at v2
    cases v2
    have hc : c < 12 := (List.getElem?_eq_some_iff.mp hq1).1
    obtain ⟨T, N, w1, w2⟩ := gm_cs_get hc
    rw [hq1] at w1
    cases w1
    have g1 : c1.slots[D.2 c j]? = some (vp_V (gm_fs α1 R1 M1 k1 c) j) := f1 j (by show j < N; omega)
    have g2 : c1.slots[D.2 c j]? = some (vp_V (gm_fs α2 R2 M2 k2 c) j) := f2 j (by show j < N; omega)
    rw [g1] at g2
    have g3 := Option.some.inj g2
    unfold vp_V at g3
    rw [List.getD_eq_getElem?_getD, List.getD_eq_getElem?_getD, gm_fs_at hj, gm_fs_at hj, if_pos hr, if_pos hr, e1, e2] at g3
    cases r1 with
    | zero => omega
    | succ a =>
      cases r2 with
      | zero => omega
      | succ b =>
        have g4 : (if a + 1 < 100000 then Value.ref (α1 (a + 1)) else match α1 (a + 1) with | 0 => Value.null | x + 1 => Value.ref x) = (if b + 1 < 100000 then Value.ref (α2 (b + 1)) else match α2 (b + 1) with | 0 => Value.null | x + 1 => Value.ref x) := g3
        rw [if_pos b3, if_pos b6] at g4
        exact Value.ref.inj g4
  · obtain ⟨ha, ⟨s1, s2⟩, s3, s4⟩ := hs
    have a1 := p1 _ _ (gm_wl_at (ti := ti) (α := α1) (K := K1) (R := R1) (M := M1) s1 s2)
    have a2 := p2 _ _ (gm_wl_at (ti := ti) (α := α2) (K := K2) (R := R2) (M := M2) s3 s4)
    rw [← ha] at a2
    have e1 : gm_en ti α1 K1 R1 M1 k1 = .inl (ti 0, (K1 k1).2, .inl fun j => Int32.ofInt (M1 k1 j)) := by unfold gm_en; rw [h]
    have e2 : gm_en ti α2 K2 R2 M2 k2 = .inl (ti 0, (K1 k1).2, .inl fun j => Int32.ofInt (M2 k2 j)) := by unfold gm_en; rw [← hK, h]
    rw [e1] at a1
    rw [e2] at a2
    have a3 : H[α1 k1]? = some (arrV (ti 0) (K1 k1).2 (fun j => .int (Int32.ofInt (M1 k1 (j : Int))))) := a1
    have a4 : H[α1 k1]? = some (arrV (ti 0) (K1 k1).2 (fun j => .int (Int32.ofInt (M2 k2 (j : Int))))) := a2
    rw [a3] at a4
    have a5 := dt_arr (f := fun j : Nat => .int (Int32.ofInt (M1 k1 (j : Int)))) (g := fun j : Nat => .int (Int32.ofInt (M2 k2 (j : Int)))) (Option.some.inj a4) j hj
    exact Value.int.inj a5
theorem gm_Wp_and2 {X : Int → Int} {LX d bc bs mi pc n : Nat} {L : gm_L} {st : List gm_V} {K : gm_K} {R : gm_R} {M : gm_M} {Q1 Q2 : gm_Q} (h1 : gm_Wp X LX d bc bs mi pc L st n K R M Q1) (h2 : gm_Wp X LX d bc bs mi pc L st n K R M Q2) : gm_Wp X LX d bc bs mi pc L st n K R M (fun o n1 K1 R1 M1 => Q1 o n1 K1 R1 M1 ∧ ∃ (o2 : gm_O) (n2 : Nat) (K2 : gm_K) (R2 : gm_R) (M2 : gm_M) (S : Nat → Nat → Prop), Q2 o2 n2 K2 R2 M2 ∧ dt_o o o2 ∧ dt_S n n1 n2 S K1 R1 M1 K2 R2 M2) := by
  intro p l e Rm s m args below meth c D ti adK adV A α0 n0 mc ms hcx hev hd hd2 hmc hms hA α H locs cells slots ls sv hxt hc1 hc2 hR hL hS
  have k1 := h1 p l e Rm s m args below meth c D ti adK adV A α n mc ms hcx hev hd hd2 hmc hms hA α H locs cells slots ls sv gm_xt.rf hc1 hc2 hR hL hS
  have k2 := h2 p l e Rm s m args below meth c D ti adK adV A α n mc ms hcx hev hd hd2 hmc hms hA α H locs cells slots ls sv gm_xt.rf hc1 hc2 hR hL hS
  intro T hT Xs
  obtain ⟨t1, s1, o1, r1, e1, q1⟩ := k1 T hT Xs
  obtain ⟨t2, s2, o2, r2, e2, q2⟩ := k2 T hT Xs
  obtain ⟨rfl, rfl⟩ := dt_end s1 e1 s2 e2
  refine ⟨t1, s1, o1, r1, e1, ?_⟩
  rcases q1 with ⟨⟨⟨v1, u1, α1, n1, K1, R1, M1, ho1, hv1, hq1, hx1, hk1, hp1, hd1, hr1⟩, hF1⟩, hL1⟩ | ⟨a1, ho1, E1, ce1, L1, ⟨⟨x1, α1, n1, K1, R1, M1, hE1, hx15, hq1, hx1, hk1, hp1, hd1, hr1⟩, hF1⟩, hrest⟩
  · rcases q2 with ⟨⟨⟨v2, u2, α2, n2, K2, R2, M2, ho2, hv2, hq2, hx2, hk2, hp2, hd2', hr2⟩, -⟩, -⟩ | ⟨a2, ho2, -⟩
    · rw [ho1] at ho2
      cases ho2
      exact Or.inl ⟨⟨⟨v1, u1, α1, n1, K1, R1, M1, ho1, hv1, ⟨hq1, .inl u2, n2, K2, R2, M2, _, hq2, dt_cv hv1 hv2, dt_mem2 hx1 hx2 hp1 hp2⟩, gm_xt.trans hxt hx1, hk1, hp1, hd1, hr1⟩, hF1⟩, hL1⟩
    · rw [ho1] at ho2
      cases ho2
  · rcases q2 with ⟨⟨⟨v2, u2, α2, n2, K2, R2, M2, ho2, hv2, hq2, hx2, hk2, hp2, hd2', hr2⟩, -⟩, -⟩ | ⟨a2, ho2, E2, ce2, L2, ⟨⟨x2, α2, n2, K2, R2, M2, hE2, hx25, hq2, hx2, hk2, hp2, hd2', hr2⟩, -⟩, -⟩
    · rw [ho1] at ho2
      cases ho2
    · exact Or.inr ⟨a1, ho1, E1, ce1, L1, ⟨⟨x1, α1, n1, K1, R1, M1, hE1, hx15, ⟨hq1, .inr x2, n2, K2, R2, M2, _, hq2, trivial, dt_mem2 hx1 hx2 hp1 hp2⟩, gm_xt.trans hxt hx1, hk1, hp1, hd1, hr1⟩, hF1⟩, hrest⟩
noncomputable def st_U : ck_F := match pc_s130u.2.2.2.2.2 with
  | oc :: _ => oc.2.2
  | [] => ([], [], [])
/-- THE ROW of the class's constructor, every heat told -/
noncomputable def pc_s130 : ck_Sum := (pc_s130u.1, pc_s130u.2.1, pc_s130u.2.2.1, pc_s130u.2.2.2.1, pc_s130u.2.2.2.2.1, [(.inr none, (225 : Nat), (st_U.1, st_U.2.1, st_H ++ st_U.2.2))])
set_option maxRecDepth 100000 in
theorem st_u1 : pc_s130u.2.2.2.2.2 = [(.inr none, 225, st_U)] ∧ (pc_s130u.2.1 = 1 ∧ pc_s130u.2.2.2.1 = ([(1, 4, 0)], [], [])) := ⟨rfl, rfl, rfl⟩
set_option maxRecDepth 100000 in
theorem st_u2 : (st_U.1.any (fun q => decide (q = (200, 8, 0))) && st_U.1.any (fun q => decide (q = (201, 0, 300)))) = true ∧ (st_U.2.1.any (fun q => decide (q = (1, 8, 200))) && (st_U.2.1.any (fun q => decide (q = (200, 1, 201))) && st_U.2.2.any (fun q => decide (q.1 = 201 ∧ q.2.1 = 0 ∧ q.2.2.1 = 299)))) = true := by decide +kernel
set_option maxRecDepth 100000 in
theorem st_u3 : st_H.all (fun q => decide (q.1 = 201 ∧ 0 ≤ q.2.1 ∧ q.2.1 = q.2.2.1 ∧ q.2.1 < 300)) = true := by decide +kernel
theorem st_any {T : Type} {l : List T} {p : T → Prop} [DecidablePred p] (h : l.any (fun q => decide (p q)) = true) : ∃ q ∈ l, p q := by
  obtain ⟨q, h1, h2⟩ := List.any_eq_true.mp h
  exact ⟨q, h1, of_decide_eq_true h2⟩
theorem pc_s130_s {X : Int → Int} {LX : Nat} : ck_Ok ck_O0 X LX 0 pc_s130 := by
  intro d σ vs n K R M hd hn ha hm hF hf
  have h1 := pc_s130u_s (X := X) (LX := LX) d σ vs n K R M hd hn ha hm hF hf
  have h2 := pc_w130_s (X := X) (LX := LX) d σ vs n K R M hd hn ha hm hF hf
  refine gm_Wp_mono ?_ (gm_Wp_and2 h1 h2)
  rintro o n1 K1 R1 M1 ⟨⟨g1, g2, oc, hoc, g3, g4, g5⟩, o2, n2, K2, R2, M2, S, ⟨-, w2, oc2, hoc2, -, w4, w5⟩, -, hS⟩
  rw [st_u1.1] at hoc
  have hoc : oc = (.inr none, 225, st_U) := List.mem_singleton.mp hoc
  subst hoc
  have hoc2 : oc2 = (.inr none, 225, ([(200, 8, 0), (201, 0, 300)], [(1, 8, 200), (200, 1, 201)], st_H)) := List.mem_singleton.mp hoc2
  subst hoc2
  have g4 : n1 = 225 := g4
  have w4 : n2 = 225 := w4
  have hn : n = 1 := hn.trans st_u1.2.1
  have u2 := st_u2
  simp only [Bool.and_eq_true] at u2
  obtain ⟨⟨a1, a2⟩, a3, a4, a5⟩ := u2
  obtain ⟨q1, m1, rfl⟩ := st_any a1
  obtain ⟨q2, m2, rfl⟩ := st_any a2
  obtain ⟨q3, m3, rfl⟩ := st_any a3
  obtain ⟨q4, m4, rfl⟩ := st_any a4
  obtain ⟨q5, m5, b1, b2, b3⟩ := st_any a5
  have k1 : K1 200 = (8, 0) := (g5.1 _ m1).2
  have k2 : K1 201 = (0, 300) := (g5.1 _ m2).2
  have k3 : R1 1 8 = 200 := (g5.2.1 _ m3).2
  have k4 : R1 200 1 = 201 := (g5.2.1 _ m4).2
  have k5 : K2 200 = (8, 0) := (w5.1 (200, 8, 0) (by simp)).2
  have k6 : K2 201 = (0, 300) := (w5.1 (201, 0, 300) (by simp)).2
  have k7 : R2 1 8 = 200 := (w5.2.1 (1, 8, 200) (by simp)).2
  have k8 : R2 200 1 = 201 := (w5.2.1 (200, 1, 201) (by simp)).2
  have k0 : K 1 = (4, 0) := by
    have hf1 := hf.1
    rw [show pc_s130.2.2.2.1 = ([(1, 4, 0)], [], []) from st_u1.2.2] at hf1
    exact (hf1 (1, 4, 0) (by simp)).2
  have c1 : K1 1 = (4, 0) := (g2.2.1 1 (by omega)).trans k0
  have c2 : K2 1 = (4, 0) := (w2.2.1 1 (by omega)).trans k0
  have s1 : S 1 1 := hS.1 1 (Nat.le_refl _) (by omega)
  have s2 : S 200 200 := hS.2.1 1 1 0 8 200 200 s1 (c1.trans c2.symm) (by rw [c1]) (by decide) (by decide) k3 k7 (by omega) (by omega) (by omega) (by omega) (by omega) (by omega)
  have s3 : S 201 201 := hS.2.1 200 200 4 1 201 201 s2 (k1.trans k5.symm) (by rw [k1]) (by decide) (by decide) k4 k8 (by omega) (by omega) (by omega) (by omega) (by omega) (by omega)
  have hH : ∀ j : Int, 0 ≤ j → j < 300 → gm_ir (M2 201 j) → M1 201 j = M2 201 j := fun j j0 j1 hj => by
    have h3 := hS.2.2 201 201 s3 (k2.trans k6.symm) (by rw [k2]) j.toNat (by rw [k2]; show j.toNat < 300; omega)
    rw [show ((j.toNat : Nat) : Int) = j by omega] at h3
    have h4 := (g5.2.2 q5 m5).2 j (by omega) (by omega)
    rw [b1] at h4
    exact dt_i h3 h4.1 hj
  refine ⟨g1, g2, (.inr none, 225, (st_U.1, st_U.2.1, st_H ++ st_U.2.2)), List.mem_singleton.mpr rfl, g3, g4, g5.1, g5.2.1, fun q hq => ?_⟩
  rcases List.mem_append.mp hq with hq | hq
  · obtain ⟨e1, e2, e3, e4⟩ := of_decide_eq_true (List.all_eq_true.mp st_u3 q hq)
    have h3 := w5.2.2 q hq
    refine ⟨by omega, fun j j1 j2 => ?_⟩
    have h4 := h3.2 j j1 j2
    rw [e1] at h4 ⊢
    rw [hH j (by omega) (by omega) h4.1]
    exact h4
  · exact g5.2.2 q hq
end
/-! 7c43.go -/
section
/-! FROM THE ENTRY to the loop's head, told of class and reference. -/
noncomputable def st_A : ck_F := match pc_s130.2.2.2.2.2 with
  | oc :: _ => oc.2.2
  | [] => ([], [], [])
noncomputable def st_B : ck_F := match pc_s132.2.2.2.2.2 with
  | oc :: _ => oc.2.2
  | [] => ([], [], [])
noncomputable def st_F : ck_F := (st_A.1 ++ (st_B.1 ++ [(1, 4, 0), (226, 15, 0), (245, 2, 1)]), st_A.2.1 ++ st_B.2.1, st_A.2.2 ++ (st_B.2.2 ++ [(226, 0, 12, ck_one 0), (226, 14, 25, ck_one 0), (226, 27, 60, ck_one 0), (245, 0, 0, ck_one 0)]))
/-- the reference's row in parts: what is ahead of the heats, the heats, what is behind -/
noncomputable def st_Bp : List (Nat × Int × Int × ck_I) := [((226 : Nat), (26 : Int), (26 : Int), ck_one (-1)), ((227 : Nat), (13 : Int), (13 : Int), ck_one 1), ((227 : Nat), (12 : Int), (12 : Int), ck_one 3), ((227 : Nat), (11 : Int), (11 : Int), ck_one 2), ((227 : Nat), (10 : Int), (10 : Int), ck_one 10), ((227 : Nat), (1 : Int), (1 : Int), ck_one 40), ((227 : Nat), (0 : Int), (0 : Int), ck_one 3), ((226 : Nat), (13 : Int), (13 : Int), ck_one (-1)), ((232 : Nat), (0 : Int), (4 : Int), ck_one 0), ((244 : Nat), (0 : Int), (5 : Int), ck_one 0), ((243 : Nat), (0 : Int), (5 : Int), ck_one 0), ((227 : Nat), (2 : Int), (9 : Int), ck_one 0), ((238 : Nat), (0 : Int), (23 : Int), ck_one 0)]
noncomputable def st_H2 : List (Nat × Int × Int × ck_I) := [((234 : Nat), (299 : Int), (299 : Int), ck_one 9), ((234 : Nat), (298 : Int), (298 : Int), ck_one 4), ((234 : Nat), (297 : Int), (297 : Int), ck_one 5), ((234 : Nat), (296 : Int), (296 : Int), ck_one 1), ((234 : Nat), (295 : Int), (295 : Int), ck_one 2), ((234 : Nat), (294 : Int), (294 : Int), ck_one 7), ((234 : Nat), (293 : Int), (293 : Int), ck_one 3), ((234 : Nat), (292 : Int), (292 : Int), ck_one 9), ((234 : Nat), (291 : Int), (291 : Int), ck_one 2), ((234 : Nat), (290 : Int), (290 : Int), ck_one 4), ((234 : Nat), (289 : Int), (289 : Int), ck_one 2), ((234 : Nat), (288 : Int), (288 : Int), ck_one 9), ((234 : Nat), (287 : Int), (287 : Int), ck_one 5), ((234 : Nat), (286 : Int), (286 : Int), ck_one 3), ((234 : Nat), (285 : Int), (285 : Int), ck_one 2), ((234 : Nat), (284 : Int), (284 : Int), ck_one 8), ((234 : Nat), (283 : Int), (283 : Int), ck_one 1), ((234 : Nat), (282 : Int), (282 : Int), ck_one 9), ((234 : Nat), (281 : Int), (281 : Int), ck_one 5), ((234 : Nat), (280 : Int), (280 : Int), ck_one 9), ((234 : Nat), (279 : Int), (279 : Int), ck_one 0), ((234 : Nat), (278 : Int), (278 : Int), ck_one 5), ((234 : Nat), (277 : Int), (277 : Int), ck_one 2), ((234 : Nat), (276 : Int), (276 : Int), ck_one 8), ((234 : Nat), (275 : Int), (275 : Int), ck_one 7), ((234 : Nat), (274 : Int), (274 : Int), ck_one 2), ((234 : Nat), (273 : Int), (273 : Int), ck_one 9), ((234 : Nat), (272 : Int), (272 : Int), ck_one 4), ((234 : Nat), (271 : Int), (271 : Int), ck_one 6), ((234 : Nat), (270 : Int), (270 : Int), ck_one 9), ((234 : Nat), (269 : Int), (269 : Int), ck_one 1), ((234 : Nat), (268 : Int), (268 : Int), ck_one 1), ((234 : Nat), (267 : Int), (267 : Int), ck_one 3), ((234 : Nat), (266 : Int), (266 : Int), ck_one 8), ((234 : Nat), (265 : Int), (265 : Int), ck_one 3), ((234 : Nat), (264 : Int), (264 : Int), ck_one 6), ((234 : Nat), (263 : Int), (263 : Int), ck_one 0), ((234 : Nat), (262 : Int), (262 : Int), ck_one 9), ((234 : Nat), (261 : Int), (261 : Int), ck_one 7), ((234 : Nat), (260 : Int), (260 : Int), ck_one 1), ((234 : Nat), (259 : Int), (259 : Int), ck_one 0), ((234 : Nat), (258 : Int), (258 : Int), ck_one 1), ((234 : Nat), (257 : Int), (257 : Int), ck_one 6), ((234 : Nat), (256 : Int), (256 : Int), ck_one 0), ((234 : Nat), (255 : Int), (255 : Int), ck_one 2), ((234 : Nat), (254 : Int), (254 : Int), ck_one 1), ((234 : Nat), (253 : Int), (253 : Int), ck_one 9), ((234 : Nat), (252 : Int), (252 : Int), ck_one 1), ((234 : Nat), (251 : Int), (251 : Int), ck_one 8), ((234 : Nat), (250 : Int), (250 : Int), ck_one 5), ((234 : Nat), (249 : Int), (249 : Int), ck_one 0), ((234 : Nat), (248 : Int), (248 : Int), ck_one 0), ((234 : Nat), (247 : Int), (247 : Int), ck_one 2), ((234 : Nat), (246 : Int), (246 : Int), ck_one 9), ((234 : Nat), (245 : Int), (245 : Int), ck_one 5), ((234 : Nat), (244 : Int), (244 : Int), ck_one 2), ((234 : Nat), (243 : Int), (243 : Int), ck_one 0), ((234 : Nat), (242 : Int), (242 : Int), ck_one 4), ((234 : Nat), (241 : Int), (241 : Int), ck_one 5), ((234 : Nat), (240 : Int), (240 : Int), ck_one 5), ((234 : Nat), (239 : Int), (239 : Int), ck_one 9), ((234 : Nat), (238 : Int), (238 : Int), ck_one 1), ((234 : Nat), (237 : Int), (237 : Int), ck_one 4), ((234 : Nat), (236 : Int), (236 : Int), ck_one 9), ((234 : Nat), (235 : Int), (235 : Int), ck_one 4), ((234 : Nat), (234 : Int), (234 : Int), ck_one 8), ((234 : Nat), (233 : Int), (233 : Int), ck_one 4), ((234 : Nat), (232 : Int), (232 : Int), ck_one 1), ((234 : Nat), (231 : Int), (231 : Int), ck_one 6), ((234 : Nat), (230 : Int), (230 : Int), ck_one 2), ((234 : Nat), (229 : Int), (229 : Int), ck_one 3), ((234 : Nat), (228 : Int), (228 : Int), ck_one 1), ((234 : Nat), (227 : Int), (227 : Int), ck_one 3), ((234 : Nat), (226 : Int), (226 : Int), ck_one 8), ((234 : Nat), (225 : Int), (225 : Int), ck_one 1), ((234 : Nat), (224 : Int), (224 : Int), ck_one 2), ((234 : Nat), (223 : Int), (223 : Int), ck_one 6), ((234 : Nat), (222 : Int), (222 : Int), ck_one 6), ((234 : Nat), (221 : Int), (221 : Int), ck_one 5), ((234 : Nat), (220 : Int), (220 : Int), ck_one 8), ((234 : Nat), (219 : Int), (219 : Int), ck_one 6), ((234 : Nat), (218 : Int), (218 : Int), ck_one 7), ((234 : Nat), (217 : Int), (217 : Int), ck_one 5), ((234 : Nat), (216 : Int), (216 : Int), ck_one 4), ((234 : Nat), (215 : Int), (215 : Int), ck_one 4), ((234 : Nat), (214 : Int), (214 : Int), ck_one 2), ((234 : Nat), (213 : Int), (213 : Int), ck_one 2), ((234 : Nat), (212 : Int), (212 : Int), ck_one 1), ((234 : Nat), (211 : Int), (211 : Int), ck_one 4), ((234 : Nat), (210 : Int), (210 : Int), ck_one 2), ((234 : Nat), (209 : Int), (209 : Int), ck_one 7), ((234 : Nat), (208 : Int), (208 : Int), ck_one 5), ((234 : Nat), (207 : Int), (207 : Int), ck_one 8), ((234 : Nat), (206 : Int), (206 : Int), ck_one 7), ((234 : Nat), (205 : Int), (205 : Int), ck_one 0), ((234 : Nat), (204 : Int), (204 : Int), ck_one 9), ((234 : Nat), (203 : Int), (203 : Int), ck_one 9), ((234 : Nat), (202 : Int), (202 : Int), ck_one 0), ((234 : Nat), (201 : Int), (201 : Int), ck_one 0), ((234 : Nat), (200 : Int), (200 : Int), ck_one 3), ((234 : Nat), (199 : Int), (199 : Int), ck_one 6), ((234 : Nat), (198 : Int), (198 : Int), ck_one 5), ((234 : Nat), (197 : Int), (197 : Int), ck_one 6), ((234 : Nat), (196 : Int), (196 : Int), ck_one 1), ((234 : Nat), (195 : Int), (195 : Int), ck_one 1), ((234 : Nat), (194 : Int), (194 : Int), ck_one 3), ((234 : Nat), (193 : Int), (193 : Int), ck_one 9), ((234 : Nat), (192 : Int), (192 : Int), ck_one 4), ((234 : Nat), (191 : Int), (191 : Int), ck_one 5), ((234 : Nat), (190 : Int), (190 : Int), ck_one 3), ((234 : Nat), (189 : Int), (189 : Int), ck_one 8), ((234 : Nat), (188 : Int), (188 : Int), ck_one 5), ((234 : Nat), (187 : Int), (187 : Int), ck_one 6), ((234 : Nat), (186 : Int), (186 : Int), ck_one 1), ((234 : Nat), (185 : Int), (185 : Int), ck_one 9), ((234 : Nat), (184 : Int), (184 : Int), ck_one 3), ((234 : Nat), (183 : Int), (183 : Int), ck_one 5), ((234 : Nat), (182 : Int), (182 : Int), ck_one 8), ((234 : Nat), (181 : Int), (181 : Int), ck_one 4), ((234 : Nat), (180 : Int), (180 : Int), ck_one 2), ((234 : Nat), (179 : Int), (179 : Int), ck_one 3), ((234 : Nat), (178 : Int), (178 : Int), ck_one 1), ((234 : Nat), (177 : Int), (177 : Int), ck_one 8), ((234 : Nat), (176 : Int), (176 : Int), ck_one 2), ((234 : Nat), (175 : Int), (175 : Int), ck_one 7), ((234 : Nat), (174 : Int), (174 : Int), ck_one 1), ((234 : Nat), (173 : Int), (173 : Int), ck_one 7), ((234 : Nat), (172 : Int), (172 : Int), ck_one 3), ((234 : Nat), (171 : Int), (171 : Int), ck_one 6), ((234 : Nat), (170 : Int), (170 : Int), ck_one 8), ((234 : Nat), (169 : Int), (169 : Int), ck_one 8), ((234 : Nat), (168 : Int), (168 : Int), ck_one 6), ((234 : Nat), (167 : Int), (167 : Int), ck_one 6), ((234 : Nat), (166 : Int), (166 : Int), ck_one 6), ((234 : Nat), (165 : Int), (165 : Int), ck_one 1), ((234 : Nat), (164 : Int), (164 : Int), ck_one 6), ((234 : Nat), (163 : Int), (163 : Int), ck_one 8), ((234 : Nat), (162 : Int), (162 : Int), ck_one 3), ((234 : Nat), (161 : Int), (161 : Int), ck_one 7), ((234 : Nat), (160 : Int), (160 : Int), ck_one 9), ((234 : Nat), (159 : Int), (159 : Int), ck_one 7), ((234 : Nat), (158 : Int), (158 : Int), ck_one 3), ((234 : Nat), (157 : Int), (157 : Int), ck_one 1), ((234 : Nat), (156 : Int), (156 : Int), ck_one 3), ((234 : Nat), (155 : Int), (155 : Int), ck_one 6), ((234 : Nat), (154 : Int), (154 : Int), ck_one 5), ((234 : Nat), (153 : Int), (153 : Int), ck_one 9), ((234 : Nat), (152 : Int), (152 : Int), ck_one 3), ((234 : Nat), (151 : Int), (151 : Int), ck_one 7), ((234 : Nat), (150 : Int), (150 : Int), ck_one 9), ((234 : Nat), (149 : Int), (149 : Int), ck_one 7), ((234 : Nat), (148 : Int), (148 : Int), ck_one 3), ((234 : Nat), (147 : Int), (147 : Int), ck_one 7), ((234 : Nat), (146 : Int), (146 : Int), ck_one 6), ((234 : Nat), (145 : Int), (145 : Int), ck_one 1), ((234 : Nat), (144 : Int), (144 : Int), ck_one 4), ((234 : Nat), (143 : Int), (143 : Int), ck_one 5), ((234 : Nat), (142 : Int), (142 : Int), ck_one 5), ((234 : Nat), (141 : Int), (141 : Int), ck_one 5), ((234 : Nat), (140 : Int), (140 : Int), ck_one 5), ((234 : Nat), (139 : Int), (139 : Int), ck_one 4), ((234 : Nat), (138 : Int), (138 : Int), ck_one 9), ((234 : Nat), (137 : Int), (137 : Int), ck_one 0), ((234 : Nat), (136 : Int), (136 : Int), ck_one 0), ((234 : Nat), (135 : Int), (135 : Int), ck_one 5), ((234 : Nat), (134 : Int), (134 : Int), ck_one 2), ((234 : Nat), (133 : Int), (133 : Int), ck_one 0), ((234 : Nat), (132 : Int), (132 : Int), ck_one 0), ((234 : Nat), (131 : Int), (131 : Int), ck_one 2), ((234 : Nat), (130 : Int), (130 : Int), ck_one 5), ((234 : Nat), (129 : Int), (129 : Int), ck_one 5), ((234 : Nat), (128 : Int), (128 : Int), ck_one 6), ((234 : Nat), (127 : Int), (127 : Int), ck_one 9), ((234 : Nat), (126 : Int), (126 : Int), ck_one 1), ((234 : Nat), (125 : Int), (125 : Int), ck_one 0), ((234 : Nat), (124 : Int), (124 : Int), ck_one 3), ((234 : Nat), (123 : Int), (123 : Int), ck_one 7), ((234 : Nat), (122 : Int), (122 : Int), ck_one 6), ((234 : Nat), (121 : Int), (121 : Int), ck_one 2), ((234 : Nat), (120 : Int), (120 : Int), ck_one 6), ((234 : Nat), (119 : Int), (119 : Int), ck_one 9), ((234 : Nat), (118 : Int), (118 : Int), ck_one 0), ((234 : Nat), (117 : Int), (117 : Int), ck_one 0), ((234 : Nat), (116 : Int), (116 : Int), ck_one 8), ((234 : Nat), (115 : Int), (115 : Int), ck_one 0), ((234 : Nat), (114 : Int), (114 : Int), ck_one 3), ((234 : Nat), (113 : Int), (113 : Int), ck_one 4), ((234 : Nat), (112 : Int), (112 : Int), ck_one 3), ((234 : Nat), (111 : Int), (111 : Int), ck_one 8), ((234 : Nat), (110 : Int), (110 : Int), ck_one 1), ((234 : Nat), (109 : Int), (109 : Int), ck_one 4), ((234 : Nat), (108 : Int), (108 : Int), ck_one 6), ((234 : Nat), (107 : Int), (107 : Int), ck_one 3), ((234 : Nat), (106 : Int), (106 : Int), ck_one 6), ((234 : Nat), (105 : Int), (105 : Int), ck_one 5), ((234 : Nat), (104 : Int), (104 : Int), ck_one 2), ((234 : Nat), (103 : Int), (103 : Int), ck_one 7), ((234 : Nat), (102 : Int), (102 : Int), ck_one 4), ((234 : Nat), (101 : Int), (101 : Int), ck_one 1), ((234 : Nat), (100 : Int), (100 : Int), ck_one 2), ((234 : Nat), (99 : Int), (99 : Int), ck_one 1), ((234 : Nat), (98 : Int), (98 : Int), ck_one 8), ((234 : Nat), (97 : Int), (97 : Int), ck_one 9), ((234 : Nat), (96 : Int), (96 : Int), ck_one 4), ((234 : Nat), (95 : Int), (95 : Int), ck_one 3), ((234 : Nat), (94 : Int), (94 : Int), ck_one 5), ((234 : Nat), (93 : Int), (93 : Int), ck_one 4), ((234 : Nat), (92 : Int), (92 : Int), ck_one 9), ((234 : Nat), (91 : Int), (91 : Int), ck_one 5), ((234 : Nat), (90 : Int), (90 : Int), ck_one 0), ((234 : Nat), (89 : Int), (89 : Int), ck_one 1), ((234 : Nat), (88 : Int), (88 : Int), ck_one 6), ((234 : Nat), (87 : Int), (87 : Int), ck_one 1), ((234 : Nat), (86 : Int), (86 : Int), ck_one 1), ((234 : Nat), (85 : Int), (85 : Int), ck_one 9), ((234 : Nat), (84 : Int), (84 : Int), ck_one 0), ((234 : Nat), (83 : Int), (83 : Int), ck_one 6), ((234 : Nat), (82 : Int), (82 : Int), ck_one 3), ((234 : Nat), (81 : Int), (81 : Int), ck_one 2), ((234 : Nat), (80 : Int), (80 : Int), ck_one 3), ((234 : Nat), (79 : Int), (79 : Int), ck_one 4), ((234 : Nat), (78 : Int), (78 : Int), ck_one 1), ((234 : Nat), (77 : Int), (77 : Int), ck_one 5), ((234 : Nat), (76 : Int), (76 : Int), ck_one 6), ((234 : Nat), (75 : Int), (75 : Int), ck_one 2), ((234 : Nat), (74 : Int), (74 : Int), ck_one 4), ((234 : Nat), (73 : Int), (73 : Int), ck_one 6), ((234 : Nat), (72 : Int), (72 : Int), ck_one 8), ((234 : Nat), (71 : Int), (71 : Int), ck_one 0), ((234 : Nat), (70 : Int), (70 : Int), ck_one 6), ((234 : Nat), (69 : Int), (69 : Int), ck_one 6), ((234 : Nat), (68 : Int), (68 : Int), ck_one 9), ((234 : Nat), (67 : Int), (67 : Int), ck_one 7), ((234 : Nat), (66 : Int), (66 : Int), ck_one 8), ((234 : Nat), (65 : Int), (65 : Int), ck_one 9), ((234 : Nat), (64 : Int), (64 : Int), ck_one 0), ((234 : Nat), (63 : Int), (63 : Int), ck_one 4), ((234 : Nat), (62 : Int), (62 : Int), ck_one 1), ((234 : Nat), (61 : Int), (61 : Int), ck_one 3), ((234 : Nat), (60 : Int), (60 : Int), ck_one 9), ((234 : Nat), (59 : Int), (59 : Int), ck_one 5), ((234 : Nat), (58 : Int), (58 : Int), ck_one 7), ((234 : Nat), (57 : Int), (57 : Int), ck_one 7), ((234 : Nat), (56 : Int), (56 : Int), ck_one 2), ((234 : Nat), (55 : Int), (55 : Int), ck_one 8), ((234 : Nat), (54 : Int), (54 : Int), ck_one 2), ((234 : Nat), (53 : Int), (53 : Int), ck_one 3), ((234 : Nat), (52 : Int), (52 : Int), ck_one 4), ((234 : Nat), (51 : Int), (51 : Int), ck_one 0), ((234 : Nat), (50 : Int), (50 : Int), ck_one 3), ((234 : Nat), (49 : Int), (49 : Int), ck_one 4), ((234 : Nat), (48 : Int), (48 : Int), ck_one 2), ((234 : Nat), (47 : Int), (47 : Int), ck_one 3), ((234 : Nat), (46 : Int), (46 : Int), ck_one 5), ((234 : Nat), (45 : Int), (45 : Int), ck_one 6), ((234 : Nat), (44 : Int), (44 : Int), ck_one 7), ((234 : Nat), (43 : Int), (43 : Int), ck_one 3), ((234 : Nat), (42 : Int), (42 : Int), ck_one 5), ((234 : Nat), (41 : Int), (41 : Int), ck_one 8), ((234 : Nat), (40 : Int), (40 : Int), ck_one 8), ((234 : Nat), (39 : Int), (39 : Int), ck_one 6), ((234 : Nat), (38 : Int), (38 : Int), ck_one 1), ((234 : Nat), (37 : Int), (37 : Int), ck_one 3), ((234 : Nat), (36 : Int), (36 : Int), ck_one 4), ((234 : Nat), (35 : Int), (35 : Int), ck_one 7), ((234 : Nat), (34 : Int), (34 : Int), ck_one 1), ((234 : Nat), (33 : Int), (33 : Int), ck_one 2), ((234 : Nat), (32 : Int), (32 : Int), ck_one 4), ((234 : Nat), (31 : Int), (31 : Int), ck_one 5), ((234 : Nat), (30 : Int), (30 : Int), ck_one 4), ((234 : Nat), (29 : Int), (29 : Int), ck_one 6), ((234 : Nat), (28 : Int), (28 : Int), ck_one 2), ((234 : Nat), (27 : Int), (27 : Int), ck_one 5), ((234 : Nat), (26 : Int), (26 : Int), ck_one 1), ((234 : Nat), (25 : Int), (25 : Int), ck_one 4), ((234 : Nat), (24 : Int), (24 : Int), ck_one 7), ((234 : Nat), (23 : Int), (23 : Int), ck_one 1), ((234 : Nat), (22 : Int), (22 : Int), ck_one 5), ((234 : Nat), (21 : Int), (21 : Int), ck_one 8), ((234 : Nat), (20 : Int), (20 : Int), ck_one 6), ((234 : Nat), (19 : Int), (19 : Int), ck_one 6), ((234 : Nat), (18 : Int), (18 : Int), ck_one 7), ((234 : Nat), (17 : Int), (17 : Int), ck_one 3), ((234 : Nat), (16 : Int), (16 : Int), ck_one 9), ((234 : Nat), (15 : Int), (15 : Int), ck_one 3), ((234 : Nat), (14 : Int), (14 : Int), ck_one 5), ((234 : Nat), (13 : Int), (13 : Int), ck_one 0), ((234 : Nat), (12 : Int), (12 : Int), ck_one 4), ((234 : Nat), (11 : Int), (11 : Int), ck_one 7), ((234 : Nat), (10 : Int), (10 : Int), ck_one 9), ((234 : Nat), (9 : Int), (9 : Int), ck_one 6), ((234 : Nat), (8 : Int), (8 : Int), ck_one 2), ((234 : Nat), (7 : Int), (7 : Int), ck_one 9), ((234 : Nat), (6 : Int), (6 : Int), ck_one 0), ((234 : Nat), (5 : Int), (5 : Int), ck_one 7), ((234 : Nat), (4 : Int), (4 : Int), ck_one 1), ((234 : Nat), (3 : Int), (3 : Int), ck_one 5), ((234 : Nat), (2 : Int), (2 : Int), ck_one 3), ((234 : Nat), (1 : Int), (1 : Int), ck_one 8), ((234 : Nat), (0 : Int), (0 : Int), ck_one 8)]
noncomputable def st_Bs : List (Nat × Int × Int × ck_I) := [((239 : Nat), (0 : Int), (299 : Int), ck_one 0), ((237 : Nat), (0 : Int), (299 : Int), ck_one 0), ((236 : Nat), (0 : Int), (299 : Int), ck_one 0), ((233 : Nat), (0 : Int), (399 : Int), ck_one 0), ((231 : Nat), (0 : Int), (399 : Int), ck_one 0), ((229 : Nat), (0 : Int), (1243 : Int), ck_one 0), ((228 : Nat), (0 : Int), (1243 : Int), ck_one 0), ((227 : Nat), (14 : Int), (2092 : Int), ck_one 0), ((242 : Nat), (0 : Int), (2407 : Int), ck_one 0), ((241 : Nat), (0 : Int), (2407 : Int), ck_one 0), ((240 : Nat), (0 : Int), (2407 : Int), ck_one 0), ((230 : Nat), (0 : Int), (4739 : Int), ck_one 0), ((235 : Nat), (0 : Int), (29699 : Int), ck_one 0)]
/-- the facts, the heats left out -/
noncomputable def st_F0 : ck_F := (st_A.1 ++ (st_B.1 ++ [(1, 4, 0), (226, 15, 0), (245, 2, 1)]), st_A.2.1 ++ st_B.2.1, st_U.2.2 ++ ((st_Bp ++ ((234, 0, 299, (0, 9, [])) :: st_Bs)) ++ [(226, 0, 12, ck_one 0), (226, 14, 25, ck_one 0), (226, 27, 60, ck_one 0), (245, 0, 0, ck_one 0)]))
set_option maxRecDepth 100000 in
theorem st_b1 : st_B.2.2 = st_Bp ++ (st_H2 ++ st_Bs) := rfl
theorem st_a1 : st_A.2.2 = st_H ++ st_U.2.2 := rfl
set_option maxRecDepth 100000 in
theorem st_d3 : (List.range 300).all (fun y => st_cov (st_k st_H 201) (hts 1 (y : Int)) (hts 1 (y : Int)) 50 (y : Int) (y : Int)) = true := by decide +kernel
set_option maxRecDepth 100000 in
theorem st_d4 : (List.range 300).all (fun y => st_cov (st_k st_H2 234) (hts 1 (y : Int)) (hts 1 (y : Int)) 50 (y : Int) (y : Int)) = true := by decide +kernel
theorem st_hC {σ : Nat → Int} {K : gm_K} {R : gm_R} {M : gm_M} (hf : ck_gf σ st_F 245 K R M) (y : Int) (y0 : 0 ≤ y) (y1 : y < 300) : M 201 y = hts 1 y := by
  obtain ⟨j, rfl⟩ : ∃ j : Nat, y = (j : Int) := ⟨y.toNat, by omega⟩
  have h := st_cov_s (k := 201) (fun q hq => hf.2.2 q (List.mem_append.mpr (Or.inl (by rw [st_a1]; exact List.mem_append.mpr (Or.inl hq))))) 50 (j : Int) (j : Int) (List.all_eq_true.mp st_d3 j (List.mem_range.mpr (by omega))) (j : Int) (Int.le_refl _) (Int.le_refl _)
  omega
theorem st_hR {σ : Nat → Int} {K : gm_K} {R : gm_R} {M : gm_M} (hf : ck_gf σ st_F 245 K R M) (y : Int) (y0 : 0 ≤ y) (y1 : y < 300) : M 234 y = hts 1 y := by
  obtain ⟨j, rfl⟩ : ∃ j : Nat, y = (j : Int) := ⟨y.toNat, by omega⟩
  have h := st_cov_s (k := 234) (fun q hq => hf.2.2 q (List.mem_append.mpr (Or.inr (List.mem_append.mpr (Or.inl (by rw [st_b1]; exact List.mem_append.mpr (Or.inr (List.mem_append.mpr (Or.inl hq)))))))) ) 50 (j : Int) (j : Int) (List.all_eq_true.mp st_d4 j (List.mem_range.mpr (by omega))) (j : Int) (Int.le_refl _) (Int.le_refl _)
  omega
theorem st_f0 {σ : Nat → Int} {K : gm_K} {R : gm_R} {M : gm_M} (hf : ck_gf σ st_F 245 K R M) : ck_gf σ st_F0 245 K R M := by
  refine ⟨hf.1, hf.2.1, fun q hq => ?_⟩
  rcases List.mem_append.mp hq with hq | hq
  · exact hf.2.2 q (List.mem_append.mpr (Or.inl (by rw [st_a1]; exact List.mem_append.mpr (Or.inr hq))))
  · rcases List.mem_append.mp hq with hq | hq
    · rcases List.mem_append.mp hq with hq | hq
      · exact hf.2.2 q (List.mem_append.mpr (Or.inr (List.mem_append.mpr (Or.inl (by rw [st_b1]; exact List.mem_append.mpr (Or.inl hq))))))
      · rcases List.mem_cons.mp hq with rfl | hq
        · refine ⟨by decide, fun j j0 j1 => ?_⟩
          have j0 : 0 ≤ j := j0
          have j1 : j ≤ 299 := j1
          have e := st_hR hf j j0 (by omega)
          have b := hts_b (s := 1) (y := j)
          show gm_ir (M 234 j) ∧ (0 ≤ M 234 j ∧ M 234 j ≤ 9 ∧ _)
          rw [e]
          exact ⟨⟨by omega, by omega⟩, b.1, b.2, fun _ h => nomatch h⟩
        · exact hf.2.2 q (List.mem_append.mpr (Or.inr (List.mem_append.mpr (Or.inl (by rw [st_b1]; exact List.mem_append.mpr (Or.inr (List.mem_append.mpr (Or.inr hq))))))))
    · exact hf.2.2 q (List.mem_append.mpr (Or.inr (List.mem_append.mpr (Or.inr hq))))
set_option maxRecDepth 100000 in
theorem st_c1 : st_T st_F0 = true := by decide +kernel
set_option maxRecDepth 100000 in
theorem st_c2 : ((st_cov (st_k st_F0.2.2 227) 0 0 50 4 4 = true ∧ st_cov (st_k st_F0.2.2 227) 0 0 50 14 2092 = true) ∧ (st_cov (st_k st_F0.2.2 228) 0 0 50 0 1243 = true ∧ st_cov (st_k st_F0.2.2 229) 0 0 50 0 1243 = true)) ∧ st_cov (st_k st_F0.2.2 230) 0 0 50 0 4739 = true ∧ (st_cov (st_k st_F0.2.2 1) 0 0 50 1 1 = true ∧ st_cov (st_k st_F0.2.2 226) 0 0 50 8 8 = true) := by decide +kernel
set_option maxRecDepth 100000 in
theorem st_c3 : bg_ss.all (fun s => st_F0.2.1.any fun q => decide (q = (s, 8, 0))) = true := by decide +kernel
set_option maxRecDepth 100000 in
theorem st_c4 : (List.range 246).all (fun k => match ck_tab p2_T k with
  | none => k == 0
  | some e => if e.1.1 = 3 then (List.range e.1.2).all (fun j => (fl_lki (j : Int) e.2.1).isSome) else if 4 ≤ e.1.1 then (List.range (gm_nf (e.1.1 - 4))).all (fun j => !gm_isr (e.1.1 - 4) j || ((fl_lki (j : Int) e.2.1).isSome || decide (k ∈ bg_ss ∧ j = 8))) else true) = true := by decide +kernel
set_option maxRecDepth 100000 in
theorem st_o1 : pc_s130.2.2.2.2.2 = [(.inr none, 225, st_A)] ∧ pc_s132.2.2.2.2.2 = [(.inr none, 244, st_B)] := ⟨rfl, rfl⟩
set_option maxRecDepth 100000 in
theorem st_w1 : (pc_s132.2.2.2.2.1.1.all (fun w => decide (w.1 = 226 ∧ ((w.2.1 = 13 ∧ w.2.2 = 13) ∨ (w.2.1 = 26 ∧ w.2.2 = 26)))) && pc_s132.2.2.2.2.1.2.all (fun w => decide (w.1 = 226))) = true ∧ (st_A.1.all (fun q => decide (q.1 ≤ 225)) && (st_A.2.1.all (fun q => decide (q.1 ≤ 225)) && st_A.2.2.all (fun q => decide (q.1 ≤ 225)))) = true := by decide +kernel
section GO
variable {X : Int → Int} {LX : Nat}
theorem st_nR {K : gm_K} {R : gm_R} {M : gm_M} (hF : gm_Fx p2_O 245 K R M) (h0 : ∀ s ∈ bg_ss, R s 8 = 0) : nR_ok 245 K R (bg_R 0 fun _ => 0) := by
  intro k h1 h2
  have hk := List.all_eq_true.mp st_c4 k (List.mem_range.mpr (by omega))
  cases he : ck_tab p2_T k with
  | none => rw [he] at hk; have : k = 0 := eq_of_beq hk; omega
  | some e =>
    rw [he] at hk
    have hK : K k = e.1 := (hF.1 k e.1 (show (match ck_tab p2_T k with | some e => some e.1 | none => none) = some e.1 by rw [he])).2.2
    have hr : ∀ (j : Int) (r : Nat), fl_lki j e.2.1 = some r → R k j = bg_R 0 (fun _ => 0) k j := fun j r hj => by
      have ho : p2_O.2.1 k j = some r := by
        show (match ck_tab p2_T k with | some e => fl_lki j e.2.1 | none => none) = some r
        rw [he]; exact hj
      rw [(hF.2.1 k j r ho).2]
      unfold bg_R
      rw [ho]
    refine ⟨fun c j hc hj hi => ?_, fun h3 j hj => ?_⟩
    · rw [hK] at hc
      have hk : (if e.1.1 = 3 then (List.range e.1.2).all (fun j => (fl_lki (j : Int) e.2.1).isSome) else if 4 ≤ e.1.1 then (List.range (gm_nf (e.1.1 - 4))).all (fun j => !gm_isr (e.1.1 - 4) j || ((fl_lki (j : Int) e.2.1).isSome || decide (k ∈ bg_ss ∧ j = 8))) else true) = true := hk
      rw [if_neg (by omega), if_pos (by omega), show e.1.1 - 4 = c by omega] at hk
      have h5 := List.all_eq_true.mp hk j (List.mem_range.mpr hj)
      rw [hi] at h5
      simp only [Bool.not_true, Bool.false_or, Bool.or_eq_true, decide_eq_true_eq] at h5
      rcases h5 with h5 | ⟨h5, rfl⟩
      · obtain ⟨r, hr2⟩ := Option.isSome_iff_exists.mp h5
        exact hr _ r hr2
      · rw [show R k ((8 : Nat) : Int) = 0 from h0 k h5]
        unfold bg_R
        cases ho : p2_O.2.1 k ((8 : Nat) : Int) with
        | some r => exact absurd ⟨h5, rfl⟩ (bg_rfo ho).2.2
        | none =>
          show _ = if k ∈ bg_ss ∧ ((8 : Nat) : Int) = 8 then bg_lr (fun _ => 0) k else _
          rw [if_pos ⟨h5, rfl⟩]
          rfl
    · rw [hK] at h3 hj
      have hk : (if e.1.1 = 3 then (List.range e.1.2).all (fun j => (fl_lki (j : Int) e.2.1).isSome) else if 4 ≤ e.1.1 then (List.range (gm_nf (e.1.1 - 4))).all (fun j => !gm_isr (e.1.1 - 4) j || ((fl_lki (j : Int) e.2.1).isSome || decide (k ∈ bg_ss ∧ j = 8))) else true) = true := hk
      rw [if_pos h3] at hk
      obtain ⟨r, hr2⟩ := Option.isSome_iff_exists.mp (List.all_eq_true.mp hk j (List.mem_range.mpr hj))
      exact hr _ r hr2
theorem st_mv {σ : Nat → Int} {F : ck_F} {n n' : Nat} {K K' : gm_K} {R R' : gm_R} {M M' : gm_M} (h : ck_gf σ F n K R M) (hl : (F.1.all (fun q => decide (q.1 ≤ 225)) && (F.2.1.all (fun q => decide (q.1 ≤ 225)) && F.2.2.all (fun q => decide (q.1 ≤ 225)))) = true) (hn : n ≤ n') (hK : ∀ k, k ≤ 225 → K' k = K k) (hR : ∀ k j, k ≤ 225 → R' k j = R k j) (hM : ∀ k j, k ≤ 225 → M' k j = M k j) : ck_gf σ F n' K' R' M' := by
  simp only [Bool.and_eq_true] at hl
  obtain ⟨l1, l2, l3⟩ := hl
  refine ⟨fun q hq => ?_, fun q hq => ?_, fun q hq => ?_⟩
  · have := of_decide_eq_true (List.all_eq_true.mp l1 q hq)
    obtain ⟨a, b⟩ := h.1 q hq
    exact ⟨⟨a.1, by omega⟩, (hK _ this).trans b⟩
  · have := of_decide_eq_true (List.all_eq_true.mp l2 q hq)
    obtain ⟨a, b⟩ := h.2.1 q hq
    exact ⟨by omega, (hR _ _ this).trans b⟩
  · have := of_decide_eq_true (List.all_eq_true.mp l3 q hq)
    obtain ⟨a, b⟩ := h.2.2 q hq
    refine ⟨by omega, fun j j1 j2 => ?_⟩
    rw [hM _ _ this]
    exact b j j1 j2
/-- what a new object is told of -/
noncomputable def iN (i : Int) : Int := if i = 0 then 3 else if i = 1 then 40 else if i = 10 then 10 else if i = 11 then 2 else if i = 12 then 3 else if i = 13 then 1 else 0
noncomputable def st_v (k : Nat) (v j : Int) : Bool := st_cov (st_k st_F0.2.2 k) v v 50 j j
noncomputable def st_g (F : List (Nat × Int × Int × ck_I)) (c : Nat) : Bool := (List.range 395).all (fun i => i == 8 || (!((pl (i : Int)).1 == c) || st_cov F (iN (i : Int)) (iN (i : Int)) 50 (pl (i : Int)).2 (pl (i : Int)).2))
set_option maxRecDepth 100000 in
theorem st_d1 : (List.range 13).all (fun c => st_g (st_k st_F0.2.2 (3 + c)) c) = true := by decide +kernel
set_option maxRecDepth 100000 in
theorem st_d2 : (List.range 395).all (fun i => i == 8 || st_v 227 (iN (i : Int)) (i : Int)) = true := by decide +kernel
set_option maxRecDepth 100000 in
theorem st_d5 : (((st_v 42 0 1 && st_v 42 0 2) && (st_v 1 0 15 && st_v 1 0 6)) && ((st_v 1 0 1 && st_v 1 (-1) 2) && (st_v 226 0 6 && st_v 227 0 8)) && ((st_v 226 (-1) 26 && st_v 226 0 5) && (st_v 226 0 8 && st_v 226 (-1) 13))) = true := by decide +kernel
set_option maxRecDepth 100000 in
theorem st_d6 : (((st_cov (st_k st_F0.2.2 202) 0 0 50 0 593 && st_cov (st_k st_F0.2.2 203) 0 0 50 0 299) && (st_cov (st_k st_F0.2.2 2) 0 0 50 0 399 && st_cov (st_k st_F0.2.2 231) 0 0 50 0 399)) && st_cov (st_k st_F0.2.2 235) 0 0 50 0 29699) = true := by decide +kernel
theorem iN_ir : irN iN := fun i => by
  have h : 0 ≤ iN i ∧ iN i ≤ 40 := by
    unfold iN
    split
    · decide
    · split
      · decide
      · split
        · decide
        · split
          · decide
          · split
            · decide
            · split <;> decide
  exact ⟨by omega, by omega⟩
theorem iN_R : NR iN := by
  have e2 : iN 2 = 0 := by decide
  have e3 : iN 3 = 0 := by decide
  have e4 : iN 4 = 0 := by decide
  have e5 : iN 5 = 0 := by decide
  refine ⟨by decide, by decide, fun f f0 f1 => ?_, fun p p0 p1 => ?_, fun l l0 l1 => ?_⟩
  · rw [e5] at f1; omega
  · rw [e3] at p1; omega
  · rw [e4] at l1; omega
theorem iN_S : NS iN := fun s s0 s1 => by
  have e2 : iN 2 = 0 := by decide
  rw [e2] at s1
  omega
theorem iN_L : LOGI iN := by
  unfold LOGI
  rw [show (iN 4).toNat = 0 by decide]
  exact (show iN 14 = 0 by decide)
theorem iN_J : GJ iN := ⟨⟨iN_R, iN_S, iN_L⟩, iN_ir⟩
theorem iN_sp {l r : Int} : spd iN l r = 0 := by
  unfold spd nsp
  rw [show (iN 2).toNat = 0 by decide]
  split <;> rfl
theorem st_vs {σ : Nat → Int} {K : gm_K} {R : gm_R} {M : gm_M} (hf : ck_gf σ st_F 245 K R M) {k : Nat} {v j : Int} (h : st_v k v j = true) : M k j = v := by
  have := st_cov_s (st_f0 hf).2.2 50 j j h j (Int.le_refl _) (Int.le_refl _)
  omega
set_option maxRecDepth 100000 in
theorem st_REL {σ : Nat → Int} {K : gm_K} {R : gm_R} {M : gm_M} (hf : ck_gf σ st_F 245 K R M) (hF : gm_Fx p2_O 245 K R M) : REL (fun _ => 0) K M iN none [] none 0 (-1) (fun _ => 0) := by
  have v : ∀ {k : Nat} {v j : Int}, st_v k v j = true → M k j = v := fun h => st_vs hf h
  have z : ∀ k lo hi, st_cov (st_k st_F0.2.2 k) 0 0 50 lo hi = true → ∀ j, lo ≤ j → j ≤ hi → M k j = 0 := fun k lo hi h j j1 j2 => by
    have := st_cov_s (st_f0 hf).2.2 50 lo hi h j j1 j2
    omega
  have d5 := st_d5
  have d6 := st_d6
  simp only [Bool.and_eq_true] at d5 d6
  have a1 := d5.1.1.1.1
  have a2 := d5.1.1.1.2
  have a3 := d5.1.1.2.1
  have a4 := d5.1.1.2.2
  have a5 := d5.1.2.1.1
  have a6 := d5.1.2.1.2
  have a7 := d5.1.2.2.1
  have a8 := d5.1.2.2.2
  have b1 := d5.2.1.1
  have b2 := d5.2.1.2
  have b3 := d5.2.2.1
  have b4 := d5.2.2.2
  obtain ⟨⟨⟨c1, c2⟩, c3, c4⟩, c5⟩ := d6
  have e13 : iN 13 = 1 := by decide
  have eC : cs M 3 = iN := by
    funext i
    by_cases hi : 0 ≤ i ∧ i < 395 ∧ ¬ i = 8
    · rw [cs_pl hi]
      obtain ⟨k, rfl⟩ : ∃ k : Nat, i = (k : Int) := ⟨i.toNat, by omega⟩
      have hc : (pl (k : Int)).1 < 13 := Nat.lt_succ_of_le (pl_le hi)
      have h := List.all_eq_true.mp (List.all_eq_true.mp st_d1 (pl (k : Int)).1 (List.mem_range.mpr hc)) k (List.mem_range.mpr (by omega))
      simp only [Bool.or_eq_true] at h
      rcases h with h | h | h
      · exact absurd (eq_of_beq h) (by omega)
      · simp at h
      · have := st_cov_s (st_f0 hf).2.2 50 _ _ h _ (Int.le_refl _) (Int.le_refl _)
        omega
    · rw [cs_no hi]
      unfold iN
      rw [if_neg (by omega), if_neg (by omega), if_neg (by omega), if_neg (by omega), if_neg (by omega), if_neg (by omega)]
  have eW : ws (M 227) = iN := by
    funext i
    unfold ws
    by_cases hi : 0 ≤ i ∧ i < 395 ∧ ¬ i = 8
    · rw [if_pos hi]
      obtain ⟨k, rfl⟩ : ∃ k : Nat, i = (k : Int) := ⟨i.toNat, by omega⟩
      have h := List.all_eq_true.mp st_d2 k (List.mem_range.mpr (by omega))
      simp only [Bool.or_eq_true] at h
      rcases h with h | h
      · exact absurd (eq_of_beq h) (by omega)
      · exact v h
    · rw [if_neg hi]
      unfold iN
      rw [if_neg (by omega), if_neg (by omega), if_neg (by omega), if_neg (by omega), if_neg (by omega), if_neg (by omega)]
  have eH : ∀ k : Nat, (k = 201 ∨ k = 234) → ∀ y, 0 ≤ y → y < 300 → M k y = hts (iN 13) y := fun k hk y y0 y1 => by
    rw [e13]
    rcases hk with rfl | rfl
    · exact st_hC hf y y0 y1
    · exact st_hR hf y y0 y1
  refine ⟨⟨iN_J, (fun ls e => nomatch e), (fun N1 h => nomatch h), (fun NI lI e => nomatch e), ⟨by decide, by decide⟩, ⟨by decide, by decide⟩, fun j _ _ => ⟨show (-128 : Int) ≤ 0 by decide, show (0 : Int) ≤ 127 by decide⟩⟩, ⟨⟨fun _ => rfl, (fun ls e => nomatch e)⟩, fun i hi => absurd hi (Nat.not_lt_zero _), (fun NI lI e => nomatch e)⟩, ?_, ?_⟩
  · refine ⟨⟨⟨cstF hF, eC, fun y y0 y1 => ⟨eH 201 (Or.inl rfl) y y0 y1, hts_b, ?_⟩, fun l r l0 l1 r0 r1 => ?_⟩, 0, ⟨by decide, by decide⟩, v a1, v a2, by decide, (fun i N1 e => nomatch e)⟩, Or.inl (v a3), fun h => absurd rfl h, Or.inl ⟨v a4, rfl⟩, ⟨v a5, v a6⟩, fun j j0 j1 => z _ _ _ c3 j j0 (by omega)⟩
    · rw [z _ _ _ c2 y y0 (by omega)]
      exact fbk_f (k := 0) fbk_0 (show ((0 : Nat) : Int) = iN 5 by decide)
    · rw [iN_sp]
      exact z _ _ _ c1 _ (by omega) (by omega)
  · refine ⟨⟨⟨eW, fun y y0 y1 => ⟨eH 234 (Or.inr rfl) y y0 y1, hts_b⟩⟩, ⟨fun _ => v a8, (fun ls e => nomatch e)⟩, ⟨v a7, by decide⟩, (fun i N1 e => nomatch e)⟩, ⟨?_, fun j j0 j1 => ?_, fun r y h0 => ?_⟩, Or.inl ⟨v b2, rfl⟩, ⟨v b3, v b4⟩, fun j j0 j1 => z _ _ _ c4 j j0 (by omega)⟩
    · rw [v b1]; exact ⟨by decide, by decide⟩
    · rw [z _ _ _ c5 j j0 (by omega)]; exact ⟨by decide, by decide⟩
    · rw [v b1] at h0; omega
theorem st_bg {σ : Nat → Int} {K : gm_K} {R : gm_R} {M : gm_M} (hf : ck_gf σ st_F 245 K R M) : bg 0 (fun _ => 0) K (bg_R 0 fun _ => 0) M ∧ nR_ok 245 K R (bg_R 0 fun _ => 0) ∧ RELW (fun _ => 0) K M := by
  have z : ∀ k lo hi, st_cov (st_k st_F0.2.2 k) 0 0 50 lo hi = true → ∀ j, lo ≤ j → j ≤ hi → M k j = 0 := fun k lo hi h j j1 j2 => by
    have := st_cov_s (st_f0 hf).2.2 50 lo hi h j j1 j2
    omega
  obtain ⟨⟨⟨a1, a2⟩, a3, a4⟩, a5, -, -⟩ := st_c2
  have hF := st_Fx (st_f0 hf) st_c1 (st_J (K := K) (fun j h1 h2 => by
    rcases h1 with rfl | h1
    · exact z _ _ _ a1 4 (Int.le_refl _) (Int.le_refl _)
    · exact z _ _ _ a2 j h1 h2) (fun j h1 h2 => z _ _ _ a3 j h1 h2) (fun j h1 h2 => z _ _ _ a4 j h1 h2) (fun j h1 h2 => z _ _ _ a5 j h1 h2))
  have h0 : ∀ s ∈ bg_ss, R s 8 = 0 := fun s hs => by
    obtain ⟨q, hq, e⟩ := List.any_eq_true.mp (List.all_eq_true.mp st_c3 s hs)
    have := ((st_f0 hf).2.1 q hq).2
    rw [of_decide_eq_true e] at this
    exact this
  refine ⟨⟨⟨rfl, by decide⟩, ⟨hF.1, fun k j r hr => ⟨(hF.2.1 k j r hr).1, by unfold bg_R; rw [hr]⟩, hF.2.2⟩, fun i hi => by omega, fun s _ => Nat.le_refl _⟩, st_nR hF h0, ⟨_, _, _, _, _, _, _, st_REL hf hF⟩⟩
end GO
end
/-! 7c45.fx -/
section
/-! CALLS THAT ONLY ASK, by their row and by a judgement that tells the answer. -/
/-- the class answers c (thrown, or, of its own methods, the answer); out[0] is told -/
noncomputable def CF (c : Int) (ov : Option Int) : gm_Q := fun o _ K1 _ M1 => K1 245 = (2, 1) ∧ o = .inl (some (gm_vi c)) ∧ ∀ v, ov = some v → M1 245 0 = gm_w v
/-- the reference throws c, answers v where it throws nothing -/
noncomputable def RF (c v : Int) : gm_Q := fun o _ K1 _ M1 => K1 226 = (15, 0) ∧ (∃ x, o = .inl (some (gm_vi x)) ∧ (c = 0 → x = v)) ∧ M1 226 0 = c
noncomputable def cF (c : Int) (ov : Option Int) (u : Option gm_V) (M2 : gm_M) : Prop := ∃ y, u = some (gm_vi y) ∧ gm_w y = gm_w c ∧ ∀ v, ov = some v → Int64.ofInt (M2 245 0) = Int64.ofInt (gm_w v)
noncomputable def rF9 (c v : Int) (M : gm_M) (u : Option gm_V) (M2 : gm_M) : Prop := ∃ y, u = some (gm_vi y) ∧ (c = 0 → gm_w y = gm_w v) ∧ gm_w (M2 226 0) = gm_w c ∧ M2 245 0 = M 245 0
section FX45
variable {X : Int → Int} {LX : Nat} {O : gm_Or} {g z g1 n0 ix mj : Nat} {la : Nat → Nat} {K K' K2 : gm_K} {R R' R2 : gm_R} {M M' M2 : gm_M} {L : gm_L} {st : List gm_V} {Q Qf : gm_Q} {N : Int → Int} {lw lw2 : Option (List lln)} {ls : List lln} {A : List (Int → Int)} {im : Option ((Int → Int) × Option (List lln))} {t w c v : Int} {f W : Int → Int} {bc bs pc : Nat} {S : ck_Sum} {l l0 l1 : List ck_Sum} {ds : List (Int × Int)} {xs : List Int} {ov : Option Int} {u : Option gm_V}
/-- what the judgement says beside the row -/
noncomputable def bF (Qf : gm_Q) (n0 : Nat) (u : Option gm_V) (K' : gm_K) (M' : gm_M) : Prop := ∃ (o2 : gm_O) (n2 : Nat) (Ka : gm_K) (Ra : gm_R) (Ma : gm_M), Qf o2 n2 Ka Ra Ma ∧ dt_o (.inl u) o2 ∧ dt_m n0 K' M' Ka Ma
noncomputable def bc_KF (X : Int → Int) (LX d bc bs mi pc : Nat) (L : gm_L) (st : List gm_V) (Q : gm_Q) (O : gm_Or) (z g1 g : Nat) (la : Nat → Nat) (K : gm_K) (M : gm_M) (S : ck_Sum) (Qf : gm_Q) : Prop := ∀ oc ∈ S.2.2.2.2.2, ∀ (σ : Nat → Int) (u : Option gm_V) (n' : Nat) (K' : gm_K) (R' : gm_R) (M' : gm_M), (∀ q ∈ O.2.2.nm, σ q.1 = bs_M la M q.2.1 q.2.2) → ck_ho σ oc.1 (.inl u) → ck_gf σ oc.2.2 n' K' R' M' → gm_Fx O n' K' R' M' → ck_fr S.2.2.2.2.1 (245 + 4 * g1) (bs_K la K) (bs_R z g1) (bs_M la M) n' K' R' M' → bF Qf (245 + 4 * g1) u K' M' → bg g (bg_la la g 0 R') (bg_K g K K') (bg_R g (bg_la la g 0 R')) (bg_M g M M') → gm_Wp X LX d bc bs mi pc L (u.toList ++ st) (245 + 4 * g) (bg_K g K K') (bg_R g (bg_la la g 0 R')) (bg_M g M M') Q
theorem bc_ownF {d bc bs mi pc mj d' bc' bs' : Nat} {vs : List gm_V} (hb : bg g la K R M) (hz : bs_ok la z g1) (hg : g < 10000) (hnm : ck_nmu O) (hO : ∀ n K R M, gm_Fx O n K R M → gm_Fx p2_O n K R M) (hF : gm_Fx O (245 + 4 * g1) (bs_K la K) (bs_R z g1) (bs_M la M)) (hS : ck_Ok O X LX mj S) (hck : bc_ok O z g1 S = true) (h1 : S.1.1 ≤ d') (h2 : S.1.2.1 ≤ bc') (h3 : S.1.2.2 ≤ bs') (hvs : ∀ σ, ck_gas σ S.2.2.1 vs) (hf : gm_Wp X LX d' bc' bs' mj 0 (gm_ent mj vs) [] (245 + 4 * g1) (bs_K la K) (bs_R z g1) (bs_M la M) Qf) (k : bc_KF X LX d bc bs mi pc L st Q O z g1 g la K M S Qf) : gm_Wp X LX d' bc' bs' mj 0 (gm_ent mj vs) [] (245 + 4 * g1) (bs_K la K) (bs_R z g1) (bs_M la M) (gm_owe X LX d bc bs mi pc L st (bg_rho (la 3)) (bg_f la) (245 + 4 * g1) (245 + 4 * g) K R M Q) := by
  have hck2 := hck
  simp only [bc_ok, Bool.and_eq_true, decide_eq_true_eq] at hck2
  have hσ := ck_sn_s (σ := fun _ => 0) (M := bs_M la M) hnm
  refine gm_Wp_mono (fun o n' K' R' M' hq => ?_) (gm_Wp_and (gm_Wp_wk (Nat.le_refl _) h2 h3 (hS d' (ck_sn O (fun _ => 0) (bs_M la M)) vs _ _ _ _ h1 hck2.1.symm (hvs _) hσ hF (bc_f_s hck2.2.1 hF (by omega) hσ))) hf)
  obtain ⟨hq, hex⟩ := hq
  obtain ⟨hrt, oc, hoc, u, rfl, hu, ho, hf⟩ := bc_rt hck hz hO hq
  exact bg_oweX (c := 0) hb hz hg hrt hu (fun hb2 => k oc hoc _ u n' K' R' M' hσ ho hf hq.1 hq.2.1 hex hb2)
theorem bc_virtF {ix mj k1 ci mi pc d bc bs d' bc' bs' : Nat} {xs : List Int} (hb : bg g la K R M) (hz : bs_ok la z g1) (hg : g < 10000) (hnm : ck_nmu O) (hO : ∀ n K R M, gm_Fx O n K R M → gm_Fx p2_O n K R M) (hF : gm_Fx O (245 + 4 * g1) (bs_K la K) (bs_R z g1) (bs_M la M)) (hk1 : 1 ≤ k1 ∧ k1 ≤ 245) (hK1 : (K k1).1 = ci + 4) (h : gm_at mi pc = some (.invokevirtual ix)) (hc : gm_cal (gm_ow mi) ix = some (0, mj)) (hmx : gm_ow mj ≠ gm_mxi) (hci : ci < 12) (hcn : gm_cn ci = (gm_mn mj).cls) (hna : xs.length = gm_na mj) (hlen : xs.length + 1 ≤ gm_ml mj) (hst : (st.map gm_cat).sum ≤ 8) (hS : ck_Ok O X LX mj S) (hck : bc_ok O z g1 S = true) (h1 : S.1.1 ≤ d') (h2 : S.1.2.1 ≤ bc') (h3 : S.1.2.2 ≤ bs') (hd : d' + 1 ≤ d) (hb1 : bc' ≤ bc) (hb2 : bs' ≤ bs) (hvs : ∀ σ, ck_gas σ S.2.2.1 (gm_vr k1 :: xs.map gm_vi)) (hf : gm_Wp X LX d' bc' bs' mj 0 (gm_ent mj (gm_vr k1 :: xs.map gm_vi)) [] (245 + 4 * g1) (bs_K la K) (bs_R z g1) (bs_M la M) Qf) (k : bc_KF X LX d (bc - bc') (bs - bs') mi (pc + 3) L st Q O z g1 g la K M S Qf) : gm_Wp X LX d bc bs mi pc L ((xs.map gm_vi).reverse ++ gm_vr k1 :: st) (245 + 4 * g) K R M Q := by
  have er : bg_rho (la 3) k1 = k1 := by unfold bg_rho; rw [if_pos (by omega)]
  have := gm_c_virtS (k1 := k1) (as := xs.map gm_vi) (d' := d') (bc' := bc') (bs' := bs') (fun ti α => bg_sbw hb hz ti α) (fun i j a b c d e => bc_hin hz i j a b c d e) (bs_Rv hz) ⟨hk1.1, by omega⟩ (show (bs_K la K k1).1 = ci + 4 by unfold bs_K; rw [er]; exact hK1) h hc hmx hci hcn (by rw [List.length_map]; exact hna) (fun v hv => by obtain ⟨x, -, rfl⟩ := List.mem_map.mp hv; exact ⟨x, rfl⟩) (by rw [List.length_map]; exact hlen) hst hd hb1 hb2 (bc_ownF hb hz hg hnm hO hF hS hck h1 h2 h3 hvs hf k)
  rw [er] at this
  exact this
theorem bc_statF {ix mj mi pc d bc bs d' bc' bs' : Nat} {xs : List Int} (hb : bg g la K R M) (hz : bs_ok la z g1) (hg : g < 10000) (hnm : ck_nmu O) (hO : ∀ n K R M, gm_Fx O n K R M → gm_Fx p2_O n K R M) (hF : gm_Fx O (245 + 4 * g1) (bs_K la K) (bs_R z g1) (bs_M la M)) (h : gm_at mi pc = some (.invokestatic ix)) (hc : gm_cal (gm_ow mi) ix = some (5, mj)) (hmx : gm_ow mj ≠ gm_mxi) (hhj : ¬ gm_hh mj = []) (hna : xs.length + 2 = gm_na mj) (hlen : xs.length + 2 ≤ gm_ml mj) (hst : (st.map gm_cat).sum ≤ 8) (hS : ck_Ok O X LX mj S) (hck : bc_ok O z g1 S = true) (h1 : S.1.1 ≤ d') (h2 : S.1.2.1 ≤ bc') (h3 : S.1.2.2 ≤ bs') (hd : d' + 1 ≤ d) (hb1 : bc' ≤ bc) (hb2 : bs' ≤ bs) (hvs : ∀ σ, ck_gas σ S.2.2.1 (gm_vr 1 :: bc_as xs true)) (hf : gm_Wp X LX d' bc' bs' mj 0 (gm_ent mj (gm_vr 1 :: bc_as xs true)) [] (245 + 4 * g1) (bs_K la K) (bs_R z g1) (bs_M la M) Qf) (k : bc_KF X LX d (bc - bc') (bs - bs') mi (pc + 3) L st Q O z g1 g la K M S Qf) : gm_Wp X LX d bc bs mi pc L (gm_vr 245 :: ((xs.map gm_vi).reverse ++ gm_vr 1 :: st)) (245 + 4 * g) K R M Q := by
  have hl : (gm_vr 1 :: bc_as xs true).length = xs.length + 2 := by simp [bc_as]
  have := gm_c_statS (as1 := gm_vr 1 :: bc_as xs true) (as := gm_vr 1 :: bc_as xs true) (d' := d') (bc' := bc') (bs' := bs') (st := st) (fun ti α => bg_sbw hb hz ti α) (fun i j a b c d e => bc_hin hz i j a b c d e) (bs_Rv hz) (bc_arX xs (by omega)) h hc hmx hhj (by rw [hl]; exact hna) (by rw [hl]; exact hlen) hst hd hb1 hb2 (bc_ownF hb hz hg hnm hO hF hS hck h1 h2 h3 hvs hf k)
  rw [show (gm_vr 1 :: bc_as xs true).reverse ++ st = gm_vr 245 :: ((xs.map gm_vi).reverse ++ gm_vr 1 :: st) by simp [bc_as]] at this
  exact this
theorem cF_of (hE : bF (CF c ov) n0 u K' M') (hn : 245 ≤ n0) (hK : K' 245 = (2, 1)) (hu : mn_u true u) : cF c ov u (bg_M g M M') := by
  obtain ⟨o2, n2, Ka, Ra, Ma, ⟨a1, rfl, a2⟩, hdo, hdm⟩ := hE
  obtain ⟨y, rfl⟩ : ∃ y, u = some (gm_vi y) := hu
  refine ⟨y, rfl, dt_w hdo, fun v hv => ?_⟩
  rw [bg_Ms (by decide), ← a2 v hv]
  exact (hdm 245 (by decide) hn (hK.trans a1.symm)).2.1 (by rw [hK]) 0 (by rw [hK]; decide)
theorem rF_of (hE : bF (RF c v) n0 u K' M') (hn : 245 ≤ n0) (hK : K' 226 = (15, 0)) (hu : mn_u true u) (h5 : M' 245 0 = M 245 0) : rF9 c v M u (bg_M g M M') := by
  obtain ⟨o2, n2, Ka, Ra, Ma, ⟨a1, ⟨x, rfl, hx⟩, a2⟩, hdo, hdm⟩ := hE
  obtain ⟨y, rfl⟩ : ∃ y, u = some (gm_vi y) := hu
  refine ⟨y, rfl, fun hc => (dt_w hdo).trans (by rw [hx hc]), ?_, (bg_Ms (by decide) _).trans h5⟩
  rw [bg_Ms (by decide), ← a2]
  exact dt_w ((hdm 226 (by decide) (by omega) (hK.trans a1.symm)).2.2 11 0 (by rw [hK]) (by decide +kernel) (by decide +kernel))
theorem w_r_u {oc : ck_Oc} {σ : Nat → Int} (hw : w_r true S = true) (hok : bc_ok O z g1 S = true) (hoc : oc ∈ S.2.2.2.2.2) (ho : ck_ho σ oc.1 (.inl u)) : mn_u true u := vr_s hw hok ⟨oc, hoc, σ, ho⟩

/-- it does not write k.j -/
noncomputable def bc_keep (S : ck_Sum) (k : Nat) (j : Int) : Bool := S.2.2.2.2.1.1.all fun w => !decide (w.1 = k ∧ w.2.1 ≤ j ∧ j ≤ w.2.2)
theorem bc_keep_s {n0 n k : Nat} {j : Int} {K0 K' : gm_K} {R0 R' : gm_R} {M0 M' : gm_M} (h : bc_keep S k j = true) (hk : k ≤ n0) (hf : ck_fr S.2.2.2.2.1 n0 K0 R0 M0 n K' R' M') : M' k j = M0 k j := by
  refine hf.2.2.1 k j hk fun w hw hh => ?_
  have := List.all_eq_true.mp h w hw
  simp only [Bool.not_eq_true', decide_eq_false_iff_not] at this
  exact this hh

theorem wk0_f {k1 : Nat} {tt : Bool} (hb : bg g la K R M) (h3 : la 3 = 0) (hw : w_r true S = true) (hck : w_k q0_O 0 0 k1 tt S = true) (hR : REL la K M N none A im t w f) (hbc : 6 ≤ bc) (hbs : 600 ≤ bs) (k : mq_K X LX bc bs pc L st Q g (fun la2 K2 M2 => REL la2 K2 M2 N none A im t w f) (fun u M2 => cF c ov u M2)) : bc_KF X LX 280 (bc - 6) (bs - 600) 370 pc L st Q q0_O 0 0 g la K M S (CF c ov) := by
  have hz : bs_ok la 0 0 := Or.inl ⟨rfl, rfl, h3⟩
  simp only [w_k, Bool.and_eq_true, decide_eq_true_eq, List.isEmpty_iff] at hck
  obtain ⟨hok, -, hbd, hR2, hW⟩ := hck
  intro oc hoc σ u n' K' R' M' _ ho hf hF hfr hex hb2
  have eR : ∀ k j, k ≤ 245 + 4 * 0 → R' k j = bs_R 0 0 k j := fun k j hk => hfr.2.2.2 k j hk (by rw [hR2]; exact fun h => nomatch h)
  have e0 : ∀ k j, k ≤ 245 → bg_M g M M' k j = M' k j := fun k j hk => bg_Ms hk j
  have e : ∀ k j, k ≤ 245 → ((cK k j ∧ ¬ kpt k j) ∨ rK k j) → bg_M g M M' k j = M k j := fun k j hk h => by
    rw [bg_Ms hk, wk_e hW hfr (by omega) h, vM hk]
  obtain ⟨-, N2, hq⟩ := hF.2.2.2.2
  have eN : N2 = N := by
    rw [← hq.2.1.1, ← hR.2.2.1.1.1.2.1]
    exact cs_same fun x j h1 h2 => by
      rw [← e0 x j (by omega)]
      exact e x j (by omega) (Or.inl ⟨by unfold cK; omega, by unfold kpt; omega⟩)
  subst eN
  have h15 : bg_M g M M' 1 15 = 0 ∨ (bg_M g M M' 1 15 = 1 ∧ ENDS N2 (hts (N2 13)) (aphi none N2 (hts (N2 13))) (bg_M g M M')) := by
    rw [e0 1 15 (by decide)]
    exact hq.2.2.imp_right fun hh => ⟨hh.1, ends_x hh.2 (fun k j hk => e0 k j (by omega))⟩
  refine gm_Wp_wk (Nat.le_refl _) (by omega) (by omega) (k u _ _ _ _ (cF_of hex (by omega) (hF.1 245 (2, 1) (by decide +kernel)).2.2 (w_r_u hw hok hoc ho)) hb2 ⟨hR.1, lwl_e hR.2.1 hb.2.2.2 (fun s hs => ?_) (e 42 1 (by decide) (Or.inl ⟨by unfold cK; omega, by unfold kpt; omega⟩)) (fun k k1 k2 => bg_Ks k2) (fun k j k1 k2 => bg_oldM k1 k2), clv_k hR.2.2.1 (cstF hb2.2.1) (fun k j hk hn => e k j (by have := ck_le hk; omega) (Or.inl ⟨hk, hn⟩)) h15 (fun hn => absurd rfl hn), rfv_e hR.2.2.2 (fun k j hk => e k j (by have := rk_le hk; omega) (Or.inr hk))⟩)
  show bg_dc la g 0 (R' s 8) = la s
  rw [eR s 8 (by have := bg_ssl hs; omega)]
  exact bg_dcs hz hs

theorem wkL_f {k1 : Nat} {tt : Bool} (hb : bg g la K R M) (h3 : ¬ la 3 = 0) (hw : w_r true S = true) (hck : w_k qL_O 246 1 k1 tt S = true) (hR : REL la K M N (some ls) A im t w f) (hbc : 6 ≤ bc) (hbs : 600 ≤ bs) (k : mq_K X LX bc bs pc L st Q g (fun la2 K2 M2 => REL la2 K2 M2 N (some ls) A im t w f) (fun u M2 => cF c ov u M2)) : bc_KF X LX 280 (bc - 6) (bs - 600) 370 pc L st Q qL_O 246 1 g la K M S (CF c ov) := by
  have hz : bs_ok la 246 1 := Or.inr (Or.inr ⟨rfl, rfl, h3⟩)
  simp only [w_k, Bool.and_eq_true, decide_eq_true_eq, List.isEmpty_iff] at hck
  obtain ⟨hok, -, hbd, hR2, hW⟩ := hck
  intro oc hoc σ u n' K' R' M' _ ho hf hF hfr hex hb2
  have eR : ∀ k j, k ≤ 245 + 4 * 1 → R' k j = bs_R 246 1 k j := fun k j hk => hfr.2.2.2 k j hk (by rw [hR2]; exact fun h => nomatch h)
  have e0 : ∀ k j, k ≤ 245 → bg_M g M M' k j = M' k j := fun k j hk => bg_Ms hk j
  have e : ∀ k j, k ≤ 245 → ((cK k j ∧ ¬ kpt k j) ∨ rK k j) → bg_M g M M' k j = M k j := fun k j hk h => by
    rw [bg_Ms hk, wk_e hW hfr (by omega) h, vM hk]
  obtain ⟨-, N2, ls2, hq, hkk, -, hlr⟩ := hF.2.2.2.2
  have eN : N2 = N := by
    rw [← hq.2.1.1, ← hR.2.2.1.1.1.2.1]
    exact cs_same fun x j h1 h2 => by
      rw [← e0 x j (by omega)]
      exact e x j (by omega) (Or.inl ⟨by unfold cK; omega, by unfold kpt; omega⟩)
  subst eN
  have e7 : M' 227 = M 227 := funext fun j => by
    rw [← e0 227 j (by decide)]
    exact e 227 j (by decide) (Or.inr (by unfold rK; omega))
  rw [e7] at hlr
  have hl2 := hR.2.2.2.1.2.1
  have ea := aphx_u (N := N2) (h := hts (N2 13)) hlr hl2
  have eb := aphi_u (N := N2) (h := hts (N2 13)) hlr hl2
  have h15 : bg_M g M M' 1 15 = 0 ∨ (bg_M g M M' 1 15 = 1 ∧ ENDS N2 (hts (N2 13)) (aphi (some ls) N2 (hts (N2 13))) (bg_M g M M')) := by
    rw [e0 1 15 (by decide), ← eb]
    exact hq.2.2.imp_right fun hh => ⟨hh.1, ends_x hh.2 (fun k j hk => e0 k j (by omega))⟩
  have hk9 : KFL N2 (aphx (some ls) N2 (hts (N2 13))) (bg_M g M M') := by
    rw [← ea]
    exact kfl_e hkk (e0 200 6 (by decide)) (fun j => e0 205 j (by decide))
  refine gm_Wp_wk (Nat.le_refl _) (by omega) (by omega) (k u _ _ _ _ (cF_of hex (by omega) ((qL_p hF).1 245 (2, 1) (by decide +kernel)).2.2 (w_r_u hw hok hoc ho)) hb2 ⟨hR.1, lwl_e hR.2.1 hb.2.2.2 (fun s hs => ?_) (e 42 1 (by decide) (Or.inl ⟨by unfold cK; omega, by unfold kpt; omega⟩)) (fun k k1 k2 => bg_Ks k2) (fun k j k1 k2 => bg_oldM k1 k2), clv_k hR.2.2.1 (cstF hb2.2.1) (fun k j hk hn => e k j (by have := ck_le hk; omega) (Or.inl ⟨hk, hn⟩)) h15 (fun _ => hk9), rfv_e hR.2.2.2 (fun k j hk => e k j (by have := rk_le hk; omega) (Or.inr hk))⟩)
  show bg_dc la g 0 (R' s 8) = la s
  rw [eR s 8 (by have := bg_ssl hs; omega)]
  exact bg_dcs hz hs

theorem wkR_f (hb : bg g la K R M) (hw : w_r true S = true) (h5 : bc_keep S 245 0 = true) (hck : w_kR S = true) (hR : REL la K M N lw A im t w f) (hbc : 6 ≤ bc) (hbs : 600 ≤ bs) (k : mq_K X LX bc bs pc L st Q g (fun la2 K2 M2 => REL la2 K2 M2 N lw A im t w f) (fun u M2 => rF9 c v M u M2)) : bc_KF X LX 280 (bc - 6) (bs - 600) 370 pc L st Q qR_O 100003 0 g la K M S (RF c v) := by
  have hz : bs_ok la 100003 0 := Or.inr (Or.inl ⟨rfl, rfl⟩)
  simp only [w_kR, Bool.and_eq_true, decide_eq_true_eq, List.isEmpty_iff] at hck
  obtain ⟨hok, -, hbd, hR2, hW⟩ := hck
  intro oc hoc σ u n' K' R' M' _ ho hf hF hfr hex hb2
  have eR : ∀ k j, k ≤ 245 + 4 * 0 → R' k j = bs_R 100003 0 k j := fun k j hk => hfr.2.2.2 k j hk (by rw [hR2]; exact fun h => nomatch h)
  have e0 : ∀ k j, k ≤ 245 → bg_M g M M' k j = M' k j := fun k j hk => bg_Ms hk j
  have e : ∀ k j, k ≤ 245 → (cK k j ∨ rK k j) → ¬ k = 235 → ¬ (k = 226 ∧ j = 26) → bg_M g M M' k j = M k j := fun k j hk h n1 n2 => by
    rw [bg_Ms hk, hfr.2.2.1 k j (by omega) (fun w hw hh => ?_), vM hk]
    have := List.all_eq_true.mp hW w hw
    simp only [Bool.or_eq_true, Bool.and_eq_true, Bool.not_eq_true', decide_eq_true_eq] at this
    rcases this with h9 | h9
    · omega
    · rcases h with h | h
      · rw [cKb_s h hh] at h9; exact absurd h9.1 (by decide)
      · rw [rKb_s h hh] at h9; exact absurd h9.2 (by decide)
  obtain ⟨-, N2, lw2, hG2, hT2, hL2, hk2⟩ := hF.2.2.2.2
  have e7 : M' 227 = M 227 := funext fun j => by
    rw [← e0 227 j (by decide)]
    exact e 227 j (by decide) (Or.inr (by unfold rK; omega)) (by decide) (by omega)
  have eN : N2 = N := by rw [← hT2.1, e7]; exact hR.2.2.2.1.1.1
  subst eN
  rw [e7] at hL2
  rw [aphi_v (N := N2) (h := hts (N2 13)) hL2 hR.2.2.2.1.2.1] at hk2
  have hk9 : KFR N2 (aphi lw N2 (hts (N2 13))) (bg_M g M M') := kfr_e hk2 (e0 226 26 (by decide)) (fun j => e0 235 j (by decide))
  refine gm_Wp_wk (Nat.le_refl _) (by omega) (by omega) (k u _ _ _ _ (rF_of hex (by omega) (hF.1 226 (15, 0) (by decide +kernel)).2.2 (w_r_u hw hok hoc ho) ((bc_keep_s h5 (by omega) hfr).trans (vM (by decide)))) hb2 ⟨hR.1, lwl_e hR.2.1 hb.2.2.2 (fun s hs => ?_) (e 42 1 (by decide) (Or.inl (by unfold cK; omega)) (by decide) (by decide)) (fun k k1 k2 => bg_Ks k2) (fun k j k1 k2 => bg_oldM k1 k2), clv_e hR.2.2.1 (cstF hb2.2.1) (fun k j hk => e k j (by have := ck_le hk; omega) (Or.inl hk) (by have := ck_le hk; omega) (by have := ck_le hk; omega)), rfv_k hR.2.2.2 (fun k j hk n1 n2 => e k j (by have := rk_le hk; omega) (Or.inr hk) n1 n2) hk9⟩)
  show bg_dc la g 0 (R' s 8) = la s
  rw [eR s 8 (by have := bg_ssl hs; omega)]
  exact bg_dcs hz hs

theorem rf_x (hb : bg g la K R M) (hg : g < 10000) (hR : REL la K M N lw A im t w f) (h : gm_at 370 pc = some (.invokestatic ix)) (hc : gm_cal (gm_ow 370) ix = some (5, mj)) (hmx : gm_ow mj ≠ gm_mxi) (hhj : ¬ gm_hh mj = []) (hna : xs.length + 2 = gm_na mj) (hlen : xs.length + 2 ≤ gm_ml mj) (hst : (st.map gm_cat).sum ≤ 8) (s0 : ∀ S ∈ l0, ck_Ok q0_O X LX mj S) (s1 : ∀ S ∈ l1, ck_Ok qL_O X LX mj S) (c0 : l0.all (fun S => w_k q0_O 0 0 1 true S && w_r true S) = true) (c1 : l1.all (fun S => w_k qL_O 246 1 1 true S && w_r true S) = true) (v0 : bc_cov 60 ds (l0.map bc_box) = true) (v1 : bc_cov 60 ds (l1.map bc_box) = true) (hx : bc_in ds xs) (hi : ∀ x ∈ xs, gm_ir x) (hbc : 6 ≤ bc) (hbs : 600 ≤ bs) (hf : ∀ z g1, bs_ok la z g1 → ¬ z = 100003 → gm_Wp X LX 279 6 600 mj 0 (gm_ent mj (gm_vr 1 :: bc_as xs true)) [] (245 + 4 * g1) (bs_K la K) (bs_R z g1) (bs_M la M) (CF c ov)) (k : mq_K X LX bc bs (pc + 3) L st Q g (fun la2 K2 M2 => REL la2 K2 M2 N lw A im t w f) (fun u M2 => cF c ov u M2)) : gm_Wp X LX 280 bc bs 370 pc L (gm_vr 245 :: ((xs.map gm_vi).reverse ++ gm_vr 1 :: st)) (245 + 4 * g) K R M Q := by
  by_cases h3 : la 3 = 0
  · have hz : bs_ok la 0 0 := Or.inl ⟨rfl, rfl, h3⟩
    have el := lw_0 hR h3
    subst el
    obtain ⟨S, hS, hin⟩ := mw_in v0 hx
    have hck := List.all_eq_true.mp c0 S hS
    simp only [Bool.and_eq_true] at hck
    obtain ⟨hck, hw⟩ := hck
    have hck2 := hck
    simp only [w_k, Bool.and_eq_true, decide_eq_true_eq] at hck2
    exact bc_statF (d' := 279) (bc' := 6) (bs' := 600) (O := q0_O) (z := 0) (g1 := 0) hb hz hg q0_nmu (fun _ _ _ _ h => q0_p h) (bs_q0 hb hR) h hc hmx hhj hna hlen hst (s0 S hS) hck2.1 (by omega) (by omega) (by omega) (by decide) hbc hbs (fun σ => bc_gas2 hck2.2.1 hin hi) (hf 0 0 hz (by decide)) (wk0_f hb h3 hw hck hR hbc hbs k)
  · have hz : bs_ok la 246 1 := Or.inr (Or.inr ⟨rfl, rfl, h3⟩)
    obtain ⟨ls, rfl⟩ := lw_1 hR h3
    obtain ⟨S, hS, hin⟩ := mw_in v1 hx
    have hck := List.all_eq_true.mp c1 S hS
    simp only [Bool.and_eq_true] at hck
    obtain ⟨hck, hw⟩ := hck
    have hck2 := hck
    simp only [w_k, Bool.and_eq_true, decide_eq_true_eq] at hck2
    exact bc_statF (d' := 279) (bc' := 6) (bs' := 600) (O := qL_O) (z := 246) (g1 := 1) hb hz hg qL_nmu (fun _ _ _ _ h => pl_o (qL_p h)) (bs_qL hb h3 hR) h hc hmx hhj hna hlen hst (s1 S hS) hck2.1 (by omega) (by omega) (by omega) (by decide) hbc hbs (fun σ => bc_gas2 hck2.2.1 hin hi) (hf 246 1 hz (by decide)) (wkL_f hb h3 hw hck hR hbc hbs k)

theorem rf_m (hb : bg g la K R M) (hg : g < 10000) (hR : REL la K M N lw A im t w f) (h : gm_at 370 pc = some (.invokevirtual ix)) (hc : gm_cal (gm_ow 370) ix = some (0, mj)) (hmx : gm_ow mj ≠ gm_mxi) (hcn : gm_cn 11 = (gm_mn mj).cls) (hna : xs.length = gm_na mj) (hlen : xs.length + 1 ≤ gm_ml mj) (hst : (st.map gm_cat).sum ≤ 8) (s0 : ∀ S ∈ l, ck_Ok qR_O X LX mj S) (c0 : l.all (fun S => w_kR S && (w_r true S && bc_keep S 245 0)) = true) (v0 : bc_cov 60 ds (l.map bc_box) = true) (hx : bc_in ds xs) (hi : ∀ x ∈ xs, gm_ir x) (hbc : 6 ≤ bc) (hbs : 600 ≤ bs) (hf : gm_Wp X LX 279 6 600 mj 0 (gm_ent mj (gm_vr 226 :: xs.map gm_vi)) [] 245 (bs_K la K) (bs_R 100003 0) (bs_M la M) (RF c v)) (k : mq_K X LX bc bs (pc + 3) L st Q g (fun la2 K2 M2 => REL la2 K2 M2 N lw A im t w f) (fun u M2 => rF9 c v M u M2)) : gm_Wp X LX 280 bc bs 370 pc L ((xs.map gm_vi).reverse ++ gm_vr 226 :: st) (245 + 4 * g) K R M Q := by
  obtain ⟨S, hS, hin⟩ := mw_in v0 hx
  have hck := List.all_eq_true.mp c0 S hS
  simp only [Bool.and_eq_true] at hck
  obtain ⟨hck, hw, h5⟩ := hck
  have hck2 := hck
  simp only [w_kR, Bool.and_eq_true, decide_eq_true_eq] at hck2
  exact bc_virtF (d' := 279) (bc' := 6) (bs' := 600) (O := qR_O) (z := 100003) (g1 := 0) (k1 := 226) (ci := 11) hb (Or.inr (Or.inl ⟨rfl, rfl⟩)) hg qR_nmu (fun _ _ _ _ h => qR_p h) (bs_qR hb hR) ⟨by decide, by decide⟩ (mw_k1 hb).2 h hc hmx (by decide) hcn hna hlen hst (s0 S hS) hck2.1 (by omega) (by omega) (by omega) (by decide) hbc hbs (rq_as hck2.2.1 hin hi) hf (wkR_f hb hw h5 hck hR hbc hbs k)

theorem qf_cmp {y1 y2 m : Int} (hc : gm_ir c) (h1 : gm_w y1 = gm_w c) (hv : ∀ v2, oV c v = some v2 → Int64.ofInt m = Int64.ofInt (gm_w v2)) (hy : c = 0 → gm_w y2 = gm_w v) : gm_w y1 = gm_w 0 → gm_w6 m = gm_w6 (gm_w y2) := by
  intro h0
  have e : gm_w c = c := dw_i hc
  have hc0 : c = 0 := by rw [h1, e] at h0; exact h0.trans (by decide)
  rw [hy hc0]
  exact dt_w6 (hv v (if_pos hc0))
end FX45
end
/-! 7c46.cm -/
section
/-! HOW AN ANSWER IS TOLD; FAULT. -/
/-- how an answer is told -/
theorem cf_v {q : Int × Int} {v : Int} {o2 : gm_O} {n2 : Nat} {K2 : gm_K} {R2 : gm_R} {M2 : gm_M} (hK : K2 245 = (2, 1)) (e : q = (0, v)) (ho : o2 = .inl (some (gm_vi 0))) : CF q.1 (oV q.1 q.2) o2 n2 K2 R2 (gm_uM M2 245 0 (gm_w v)) := by
  subst e
  subst ho
  refine ⟨hK, rfl, fun v2 h => ?_⟩
  have h : some v = some v2 := (if_pos rfl : oV 0 v = some v).symm.trans h
  cases h
  exact uM_at
theorem cf_x {q : Int × Int} {c : Int} {n2 : Nat} {K2 : gm_K} {R2 : gm_R} {M2 : gm_M} (hK : K2 245 = (2, 1)) (e : q = (c, 0)) (hc : ¬ c = 0) : CF q.1 (oV q.1 q.2) (.inl (some (gm_vi c))) n2 K2 R2 M2 := by
  subst e
  refine ⟨hK, rfl, fun v2 h => ?_⟩
  have h : (none : Option Int) = some v2 := (if_neg hc : oV c 0 = none).symm.trans h
  cases h
theorem rf_e {q : Int × Int} {c v x : Int} {n2 : Nat} {K2 : gm_K} {R2 : gm_R} {M2 : gm_M} (hK : K2 226 = (15, 0)) (e : q = (c, v)) (hx : c = 0 → x = v) (h0 : M2 226 0 = c) : RF q.1 q.2 (.inl (some (gm_vi x))) n2 K2 R2 M2 := by
  subst e
  exact ⟨hK, ⟨x, rfl, hx⟩, h0⟩
theorem tif_ir {P : Prop} {u v : Int × Int} (hu : gm_ir u.1) (hv : gm_ir v.1) : gm_ir (tif P u v).1 := tif_i (C := fun q : Int × Int => gm_ir q.1) hu hv
theorem k226 {n : Nat} {K : gm_K} {R : gm_R} (hE : E0 n K R) : K 226 = (15, 0) := (hE.1 226 (15, 0) (by decide +kernel)).2
section CM46
variable {X : Int → Int} {LX d bc bs n g z g1 : Nat} {la : Nat → Nat} {K : gm_K} {R : gm_R} {M : gm_M} {N : Int → Int} {lw : Option (List lln)} {A : List (Int → Int)} {im : Option ((Int → Int) × Option (List lln))} {t w : Int} {f : Int → Int} {a b c e : Int} {NC : Nat} {C Ln G : Int → Int}
end CM46
end
/-! 7c49.hl -/
section
/-! THE LAW'S OWN METHODS, on. -/
section HL49
variable {X : Int → Int} {LX d bc bs n : Nat} {K : gm_K} {R : gm_R} {M : gm_M} {Q : gm_Q}
end HL49
end
/-! 7c50.sq -/
section
/-! CALLS THAT ONLY ASK, without loops: what they answer. -/
section SQ50
variable {X : Int → Int} {LX d bc bs n : Nat} {K : gm_K} {R : gm_R} {M : gm_M} {Q : gm_Q} {N h : Int → Int} {sp : Int → Int → Int} {FI : gm_M → Prop} {φ : Int → Int → Int → Int} {l lane row year y p w x k c v a b t : Int}
end SQ50
end
/-! 7c51.sa -/
section
/-! CALLS THAT ONLY ASK, without loops: class and reference answer alike. -/
section SA51
variable {X : Int → Int} {LX d bc bs n g z g1 : Nat} {la : Nat → Nat} {K : gm_K} {R : gm_R} {M : gm_M} {N : Int → Int} {lw : Option (List lln)} {A : List (Int → Int)} {im : Option ((Int → Int) × Option (List lln))} {t w : Int} {f : Int → Int} {a b c e : Int} {NC : Nat} {C Ln G : Int → Int}
end SA51
end
/-! 7c52.wd -/
section
/-! WHERE, DEEP: what they answer. -/
section WD52
variable {X : Int → Int} {LX d bc bs n : Nat} {K : gm_K} {R : gm_R} {M : gm_M} {Q : gm_Q} {N h : Int → Int} {sp : Int → Int → Int} {FI : gm_M → Prop} {φ : Int → Int → Int → Int} {l lane row year y p w x k c v a b t : Int}
theorem cl_deep (hd : 20 ≤ d) (hbc : 4 ≤ bc) (hbs : 24 ≤ bs) (hE : E0 n K R) (hT : TI N h sp M) (hN : NR N) (hfw : FLW X LX n K R N h sp FI φ) (hI : FI M) (hl : 0 ≤ l ∧ l < N 4) (hi2 : gm_ir y) (kn : 0 ≤ y ∧ y ≤ 299 → y < (N (119 + (l * 7 + 3))) → Q (.inl (some (gm_vi (-1)))) n K R M) (kv : 0 ≤ y ∧ y ≤ 299 → ¬ y < (N (119 + (l * 7 + 3))) → ∀ M2, Q (.inl (some (gm_vi ((nwy N h φ ((N (119 + (l * 7 + 2)))) (if (N (119 + (l * 7 + 0))) = -1 then 1 else 0) (-1) ((N (119 + (l * 7 + 3)))) ((N (119 + (l * 7 + 4)))) (y - (N (119 + (l * 7 + 3)))).toNat).2)))) n K R M2) (k0 : ¬ (0 ≤ y ∧ y ≤ 299) → Q (.inr 0) n K R M) : gm_Wp X LX d bc bs 150 0 (gm_ent 150 [gm_vr 1, gm_vi l, gm_vi y]) [] n K R M Q := by
  obtain ⟨⟨⟨a0, b0⟩, ⟨a1, b1⟩, ⟨a10, b10⟩, ⟨a11, b11⟩, ⟨a12, b12⟩, a9, b9⟩, ⟨⟨a2, b2⟩, ⟨a5, b5⟩, ⟨a3, b3⟩, ⟨a4, b4⟩, ⟨a6, b6⟩, ⟨a14, b14⟩, ⟨a7, b7⟩, a13, b13⟩, rF, rP, rL⟩ := id hN
  obtain ⟨-, -, l2, l3, l4, -⟩ := rL l hl.1 hl.2
  have l5 : 0 ≤ (N (119 + (l * 7 + 4))) ∧ (N (119 + (l * 7 + 4))) ≤ 300 := ⟨l4.1, by have := l4.2; omega⟩
  have l4 := l5
  have rk9 : 0 ≤ (if (N (119 + (l * 7 + 0))) = -1 then (1 : Int) else 0) ∧ (if (N (119 + (l * 7 + 0))) = -1 then (1 : Int) else 0) ≤ 1 := by split <;> exact ⟨by decide, by decide⟩
  refine gm_sz (gm_p_load (pc := 0) (i := .aload_n 0) (sr := 2) (j := 0) (by decide +kernel) rfl rfl rfl) ?_
  refine gm_sz (gm_p_load (pc := 1) (i := .iload_n 1) (sr := 0) (j := 1) (by decide +kernel) rfl rfl rfl) ?_
  refine gm_c_virt (k := 1) (ci := 0) (mj := 143) (ix := 200) (pc := 2) (as := [gm_vi l]) (st := []) (d' := d - 1) (bc' := 1) (bs' := 6) (by decide +kernel) (by decide +kernel) (by decide +kernel) (by decide +kernel) (e0k hE (k := 1) (c := 0) (by decide +kernel)).1 (e0k hE (k := 1) (c := 0) (by decide +kernel)).2 (by decide) (by decide +kernel) (show 1 = gm_na 143 by decide +kernel) (fw_c1 fw_si) (show 2 ≤ gm_ml 143 by decide +kernel) (Nat.le_of_ble_eq_true rfl) (by omega) (by omega) (by omega) ?_
  refine nd_143 (i := l) (by omega) (by omega) (by omega) hE hT hN ⟨by omega, by omega⟩ (fun c2 => ?_) (fun c2 => ?_)
  · show gm_Wp X LX d _ _ 150 5 _ [] n K _ _ Q
    have c2 : 0 ≤ l ∧ l < N 4 := c2
    refine gm_sz (gm_p_load (pc := 5) (i := .aload_n 0) (sr := 2) (j := 0) (by decide +kernel) rfl rfl rfl) ?_
    refine gm_sz (gm_p_load (pc := 6) (i := .iload_n 2) (sr := 0) (j := 2) (by decide +kernel) rfl rfl rfl) ?_
    refine gm_c_virt (k := 1) (ci := 0) (mj := 129) (ix := 160) (pc := 7) (as := [gm_vi y]) (st := []) (d' := d - 1) (bc' := 1) (bs' := 6) (by decide +kernel) (by decide +kernel) (by decide +kernel) (by decide +kernel) (e0k hE (k := 1) (c := 0) (by decide +kernel)).1 (e0k hE (k := 1) (c := 0) (by decide +kernel)).2 (by decide) (by decide +kernel) (show 1 = gm_na 129 by decide +kernel) (fw_c1 fw_si) (show 2 ≤ gm_ml 129 by decide +kernel) (Nat.le_of_ble_eq_true rfl) (by omega) (by omega) (by omega) ?_
    refine nd_129 (i := y) (by omega) (by omega) (by omega) hi2 (fun c7 => ?_) (fun c7 => ?_)
    · show gm_Wp X LX d _ _ 150 10 _ [] n K _ _ Q
      have c7 : 0 ≤ y ∧ y ≤ 299 := c7
      refine gm_sz (gm_p_load (pc := 10) (i := .iload_n 2) (sr := 0) (j := 2) (by decide +kernel) rfl rfl rfl) ?_
      refine gm_sz (gm_p_load (pc := 11) (i := .aload_n 0) (sr := 2) (j := 0) (by decide +kernel) rfl rfl rfl) ?_
      refine gm_sz (fw_gr (pc := 12) (ix := 23) (ci := 0) (j := 3) (r := 3) (by decide +kernel) (e0k hE (k := 1) (c := 0) (by decide +kernel)) (by decide +kernel) (by decide +kernel) (e0r hE (k := 1) (j := 3) (r := 3) (by decide +kernel))) ?_
      refine gm_sz (fw_gr (pc := 15) (ix := 203) (ci := 1) (j := 12) (r := 10) (by decide +kernel) (e0k hE (k := 3) (c := 1) (by decide +kernel)) (by decide +kernel) (by decide +kernel) (e0r hE (k := 3) (j := 12) (r := 10) (by decide +kernel))) ?_
      refine gm_sz (gm_p_load (pc := 18) (i := .iload_n 1) (sr := 0) (j := 1) (by decide +kernel) rfl rfl rfl) ?_
      refine gm_sz (gm_p_const (pc := 19) (i := .iconst 3) (v := gm_vi 3) (by decide +kernel) (by decide +kernel)) ?_
      refine gm_c_virt (k := 10) (ci := 2) (mj := 10) (ix := 186) (pc := 20) (as := [gm_vi l, gm_vi 3]) (st := [gm_vi y]) (d' := d - 1) (bc' := 0) (bs' := 0) (by decide +kernel) (by decide +kernel) (by decide +kernel) (by decide +kernel) (e0k hE (k := 10) (c := 2) (by decide +kernel)).1 (e0k hE (k := 10) (c := 2) (by decide +kernel)).2 (by decide) (by decide +kernel) (show 2 = gm_na 10 by decide +kernel) (fw_c2 fw_si fw_si) (show 3 ≤ gm_ml 10 by decide +kernel) (Nat.le_of_ble_eq_true rfl) (by omega) (Nat.zero_le _) (Nat.zero_le _) ?_
      refine rw_get (s := N 4) (w := 7) (x := N (119 + (l * 7 + 3))) (e0k hE (k := 10) (c := 2) (by decide +kernel)) (e0a hE (k := 11) (q := ((0 : Nat), (168 : Nat))) (by decide +kernel)) (e0r hE (k := 10) (j := 2) (r := 11) (by decide +kernel)) (by decide) (ti_let hT) (hT.1 (10, 1, 7) (by decide)) ⟨by omega, by omega⟩ ⟨by omega, by omega⟩ ⟨by omega, by omega⟩ ⟨by omega, by omega⟩ (ti_aL hT (by omega) (by omega)) ?_
      show gm_Wp X LX d _ _ 150 23 _ [gm_vi (N (119 + (l * 7 + 3))), gm_vi y] n K _ _ Q
      refine fw_ic (cc := .ge) (pc := 23) (off := 5) (by decide +kernel) (by decide) hi2 ⟨by omega, by omega⟩ (fun h23 => ?_) (fun h23 => ?_)
      · have h23 : (N (119 + (l * 7 + 3))) ≤ y := h23
        refine gm_sz (gm_p_load (pc := 28) (i := .aload_n 0) (sr := 2) (j := 0) (by decide +kernel) rfl rfl rfl) ?_
        refine gm_sz (fw_gr (pc := 29) (ix := 58) (ci := 0) (j := 9) (r := 206) (by decide +kernel) (e0k hE (k := 1) (c := 0) (by decide +kernel)) (by decide +kernel) (by decide +kernel) (e0r hE (k := 1) (j := 9) (r := 206) (by decide +kernel))) ?_
        refine gm_sz (gm_p_load (pc := 32) (i := .iload_n 1) (sr := 0) (j := 1) (by decide +kernel) rfl rfl rfl) ?_
        refine gm_c_virt (k := 206) (ci := 5) (mj := 27) (ix := 217) (pc := 33) (as := [gm_vi l]) (st := []) (d' := d - 1) (bc' := 0) (bs' := 0) (by decide +kernel) (by decide +kernel) (by decide +kernel) (by decide +kernel) (e0k hE (k := 206) (c := 5) (by decide +kernel)).1 (e0k hE (k := 206) (c := 5) (by decide +kernel)).2 (by decide) (by decide +kernel) (show 1 = gm_na 27 by decide +kernel) (fw_c1 fw_si) (show 2 ≤ gm_ml 27 by decide +kernel) (Nat.le_of_ble_eq_true rfl) (by omega) (Nat.zero_le _) (Nat.zero_le _) ?_
        refine wy_let206 (by omega) hE hT hN ⟨by omega, by omega⟩ ?_
        show gm_Wp X LX d _ _ 150 36 _ [] n K _ _ Q
        refine gm_sz (gm_p_load (pc := 36) (i := .aload_n 0) (sr := 2) (j := 0) (by decide +kernel) rfl rfl rfl) ?_
        refine gm_sz (fw_gr (pc := 37) (ix := 58) (ci := 0) (j := 9) (r := 206) (by decide +kernel) (e0k hE (k := 1) (c := 0) (by decide +kernel)) (by decide +kernel) (by decide +kernel) (e0r hE (k := 1) (j := 9) (r := 206) (by decide +kernel))) ?_
        refine gm_sz (gm_p_load (pc := 40) (i := .iload_n 2) (sr := 0) (j := 2) (by decide +kernel) rfl rfl rfl) ?_
        refine gm_c_virt (k := 206) (ci := 5) (mj := 148) (ix := 220) (pc := 41) (as := [gm_vi y]) (st := []) (d' := d - 1) (bc' := 0) (bs' := 0) (by decide +kernel) (by decide +kernel) (by decide +kernel) (by decide +kernel) (e0k hE (k := 206) (c := 5) (by decide +kernel)).1 (e0k hE (k := 206) (c := 5) (by decide +kernel)).2 (by decide) (by decide +kernel) (show 1 = gm_na 148 by decide +kernel) (fw_c1 fw_si) (show 2 ≤ gm_ml 148 by decide +kernel) (Nat.le_of_ble_eq_true rfl) (by omega) (Nat.zero_le _) (Nat.zero_le _) ?_
        refine wy_c148_206 (lane := (N (119 + (l * 7 + 2)))) (rock := (if (N (119 + (l * 7 + 0))) = -1 then 1 else 0)) (wo := -1) (r0 := (N (119 + (l * 7 + 4)))) (y0 := (N (119 + (l * 7 + 3)))) (lim := y) (by omega) hE (ti_fr (W := [((206 : Nat), some (2 : Int)), ((206 : Nat), some (5 : Int)), ((206 : Nat), some (7 : Int)), ((206 : Nat), some (3 : Int)), ((206 : Nat), some (4 : Int)), ((206 : Nat), some (6 : Int)), ((206 : Nat), some (8 : Int))]) hT (fr_p (fr_p (fr_p (fr_p (fr_p (fr_p (fr_p fr_0 (Or.inr (by decide))) (Or.inr (by decide))) (Or.inr (by decide))) (Or.inr (by decide))) (Or.inr (by decide))) (Or.inr (by decide))) (Or.inr (by decide))) (by decide) (by decide +kernel)) hN hfw (hfw.2.1 [((206 : Nat), some (2 : Int)), ((206 : Nat), some (5 : Int)), ((206 : Nat), some (7 : Int)), ((206 : Nat), some (3 : Int)), ((206 : Nat), some (4 : Int)), ((206 : Nat), some (6 : Int)), ((206 : Nat), some (8 : Int))] _ _ (by decide) (fr_p (fr_p (fr_p (fr_p (fr_p (fr_p (fr_p fr_0 (Or.inr (by decide))) (Or.inr (by decide))) (Or.inr (by decide))) (Or.inr (by decide))) (Or.inr (by decide))) (Or.inr (by decide))) (Or.inr (by decide))) hI) ((uM_ne (by omega)).trans ((uM_ne (by omega)).trans ((uM_ne (by omega)).trans ((uM_ne (by omega)).trans ((uM_ne (by omega)).trans ((uM_ne (by omega)).trans uM_at)))))) ((uM_ne (by omega)).trans ((uM_ne (by omega)).trans ((uM_ne (by omega)).trans uM_at))) ((uM_ne (by omega)).trans ((uM_ne (by omega)).trans uM_at)) ((uM_ne (by omega)).trans ((uM_ne (by omega)).trans ((uM_ne (by omega)).trans ((uM_ne (by omega)).trans ((uM_ne (by omega)).trans uM_at))))) ((uM_ne (by omega)).trans uM_at) ((uM_ne (by omega)).trans ((uM_ne (by omega)).trans ((uM_ne (by omega)).trans ((uM_ne (by omega)).trans uM_at)))) l3.1 l2 rk9 ⟨by decide, by decide⟩ l4 (by omega) (by omega) (fun M41 hf41 hI41 g5 g6 g7 => ?_)
        show gm_Wp X LX d _ _ 150 44 _ [] n K _ _ Q
        have hw9 := nwy_b (lane := (N (119 + (l * 7 + 2)))) (rock := (if (N (119 + (l * 7 + 0))) = -1 then 1 else 0)) (wo := -1) hN hfw.1 (fun y a b => (hT.2.2.1 y a b).2.1) l3.1 l4 (y - (N (119 + (l * 7 + 3)))).toNat (by omega)
        refine gm_sz (gm_p_load (pc := 44) (i := .aload_n 0) (sr := 2) (j := 0) (by decide +kernel) rfl rfl rfl) ?_
        refine gm_sz (fw_gr (pc := 45) (ix := 58) (ci := 0) (j := 9) (r := 206) (by decide +kernel) (e0k hE (k := 1) (c := 0) (by decide +kernel)) (by decide +kernel) (by decide +kernel) (e0r hE (k := 1) (j := 9) (r := 206) (by decide +kernel))) ?_
        refine gm_sz (fw_gi (pc := 48) (ix := 209) (ci := 5) (j := 6) (x := (nwy N h φ ((N (119 + (l * 7 + 2)))) (if (N (119 + (l * 7 + 0))) = -1 then 1 else 0) (-1) ((N (119 + (l * 7 + 3)))) ((N (119 + (l * 7 + 4)))) (y - (N (119 + (l * 7 + 3)))).toNat).2) (by decide +kernel) (e0k hE (k := 206) (c := 5) (by decide +kernel)) (by decide +kernel) (by decide +kernel) g6) ?_
        exact gm_r_int (pc := 51) (by decide +kernel) (Or.inl (by decide +kernel)) (kv (by omega) (by omega) _)
      · have h23 : ¬ (N (119 + (l * 7 + 3))) ≤ y := h23
        refine gm_sz (gm_p_const (pc := 26) (i := .iconst (-1)) (v := gm_vi (-1)) (by decide +kernel) (by decide +kernel)) ?_
        exact gm_r_int (pc := 27) (by decide +kernel) (Or.inl (by decide +kernel)) (kn (by omega) (by omega))
    · show Q (.inr 0) n K _ _
      have c7 : ¬ (0 ≤ y ∧ y ≤ 299) := c7
      exact (k0 (by omega))
  · show Q (.inr 3) n K _ _
    have c2 : ¬ (0 ≤ l ∧ l < N 4) := c2
    exact (absurd hl (by omega))
theorem cl_deepx (hd : 20 ≤ d) (hbc : 4 ≤ bc) (hbs : 24 ≤ bs) (hE : E0 n K R) (hT : TI N h sp M) (hN : NR N) (hl : ¬ (0 ≤ l ∧ l < N 4)) (hi : gm_ir l) (hi2 : gm_ir y) (k3 : Q (.inr 3) n K R M) : gm_Wp X LX d bc bs 150 0 (gm_ent 150 [gm_vr 1, gm_vi l, gm_vi y]) [] n K R M Q := by
  obtain ⟨⟨⟨a0, b0⟩, ⟨a1, b1⟩, ⟨a10, b10⟩, ⟨a11, b11⟩, ⟨a12, b12⟩, a9, b9⟩, ⟨⟨a2, b2⟩, ⟨a5, b5⟩, ⟨a3, b3⟩, ⟨a4, b4⟩, ⟨a6, b6⟩, ⟨a14, b14⟩, ⟨a7, b7⟩, a13, b13⟩, rF, rP, rL⟩ := id hN
  refine gm_sz (gm_p_load (pc := 0) (i := .aload_n 0) (sr := 2) (j := 0) (by decide +kernel) rfl rfl rfl) ?_
  refine gm_sz (gm_p_load (pc := 1) (i := .iload_n 1) (sr := 0) (j := 1) (by decide +kernel) rfl rfl rfl) ?_
  refine gm_c_virt (k := 1) (ci := 0) (mj := 143) (ix := 200) (pc := 2) (as := [gm_vi l]) (st := []) (d' := d - 1) (bc' := 1) (bs' := 6) (by decide +kernel) (by decide +kernel) (by decide +kernel) (by decide +kernel) (e0k hE (k := 1) (c := 0) (by decide +kernel)).1 (e0k hE (k := 1) (c := 0) (by decide +kernel)).2 (by decide) (by decide +kernel) (show 1 = gm_na 143 by decide +kernel) (fw_c1 fw_si) (show 2 ≤ gm_ml 143 by decide +kernel) (Nat.le_of_ble_eq_true rfl) (by omega) (by omega) (by omega) ?_
  refine nd_143 (i := l) (by omega) (by omega) (by omega) hE hT hN hi (fun c2 => ?_) (fun c2 => ?_)
  · show gm_Wp X LX d _ _ 150 5 _ [] n K _ _ Q
    have c2 : 0 ≤ l ∧ l < N 4 := c2
    exact absurd ⟨by omega, by omega⟩ hl
  · show Q (.inr 3) n K _ _
    have c2 : ¬ (0 ≤ l ∧ l < N 4) := c2
    exact k3
theorem re_deep (hd : 20 ≤ d) (hE : E0 n K R) (hT : TR N h M) (hN : NR N) (hfw : FLR X LX n K R N h FI φ) (hI : FI M) (hl : 0 ≤ l ∧ l < N 4) (hi2 : gm_ir y) (kn : 0 ≤ y ∧ y ≤ 299 → y < (N (119 + (l * 7 + 3))) → ∀ M2, M2 226 0 = 0 → Q (.inl (some (gm_vi (-1)))) n K R M2) (kv : 0 ≤ y ∧ y ≤ 299 → ¬ y < (N (119 + (l * 7 + 3))) → ∀ M2, M2 226 0 = 0 → Q (.inl (some (gm_vi ((nwy N h φ ((N (119 + (l * 7 + 2)))) (if (N (119 + (l * 7 + 0))) = -1 then 1 else 0) (-1) ((N (119 + (l * 7 + 3)))) ((N (119 + (l * 7 + 4)))) (y - (N (119 + (l * 7 + 3)))).toNat).2)))) n K R M2) (k2 : ¬ (0 ≤ y ∧ y ≤ 299) → ∀ M2, M2 226 0 = 2 → Q (.inl (some (gm_vi 0))) n K R M2) : gm_Wp X LX d bc bs 314 0 (gm_ent 314 [gm_vr 226, gm_vi l, gm_vi y]) [] n K R M Q := by
  obtain ⟨⟨⟨a0, b0⟩, ⟨a1, b1⟩, ⟨a10, b10⟩, ⟨a11, b11⟩, ⟨a12, b12⟩, a9, b9⟩, ⟨⟨a2, b2⟩, ⟨a5, b5⟩, ⟨a3, b3⟩, ⟨a4, b4⟩, ⟨a6, b6⟩, ⟨a14, b14⟩, ⟨a7, b7⟩, a13, b13⟩, rF, rP, rL⟩ := id hN
  obtain ⟨-, -, l2, l3, l4, -⟩ := rL l hl.1 hl.2
  have l5 : 0 ≤ (N (119 + (l * 7 + 4))) ∧ (N (119 + (l * 7 + 4))) ≤ 300 := ⟨l4.1, by have := l4.2; omega⟩
  have l4 := l5
  have rk9 : 0 ≤ (if (N (119 + (l * 7 + 0))) = -1 then (1 : Int) else 0) ∧ (if (N (119 + (l * 7 + 0))) = -1 then (1 : Int) else 0) ≤ 1 := by split <;> exact ⟨by decide, by decide⟩
  refine gm_sz (gm_p_load (pc := 0) (i := .aload_n 0) (sr := 2) (j := 0) (by decide +kernel) rfl rfl rfl) ?_
  refine gm_sz (gm_p_const (pc := 1) (i := .iconst 0) (v := gm_vi 0) (by decide +kernel) (by decide +kernel)) ?_
  refine gm_sz (fw_pi (pc := 2) (ix := 3) (ci := 11) (j := 0) (M' := gm_uM M 226 0 0) (by decide +kernel) (e0k hE (k := 226) (c := 11) (by decide +kernel)) (by decide +kernel) (by decide +kernel) (by decide +kernel) rfl) ?_
  refine gm_sz (gm_p_load (pc := 5) (i := .aload_n 0) (sr := 2) (j := 0) (by decide +kernel) rfl rfl rfl) ?_
  refine gm_sz (gm_p_load (pc := 6) (i := .aload_n 0) (sr := 2) (j := 0) (by decide +kernel) rfl rfl rfl) ?_
  refine gm_sz (gm_p_load (pc := 7) (i := .iload_n 1) (sr := 0) (j := 1) (by decide +kernel) rfl rfl rfl) ?_
  refine gm_c_virt (k := 226) (ci := 11) (mj := 309) (ix := 405) (pc := 8) (as := [gm_vi l]) (st := [gm_vr 226]) (d' := d - 1) (bc' := 0) (bs' := 0) (by decide +kernel) (by decide +kernel) (by decide +kernel) (by decide +kernel) (e0k hE (k := 226) (c := 11) (by decide +kernel)).1 (e0k hE (k := 226) (c := 11) (by decide +kernel)).2 (by decide) (by decide +kernel) (show 1 = gm_na 309 by decide +kernel) (fw_c1 fw_si) (show 2 ≤ gm_ml 309 by decide +kernel) (Nat.le_of_ble_eq_true rfl) (by omega) (Nat.zero_le _) (Nat.zero_le _) ?_
  refine no_309 (i := l) (by omega) hE (tr_fr (W := [((226 : Nat), some (0 : Int))]) hT (fr_p fr_0 (Or.inr (by decide))) (by decide)) hN ⟨by omega, by omega⟩ (fun n8 => ?_) (fun n8 => ?_)
  · show gm_Wp X LX d _ _ 314 11 _ [gm_vi 1, gm_vr 226] n K _ _ Q
    have n8 : ¬ (0 ≤ l ∧ l < N 4) := n8
    refine gm_sz (gm_p_const (pc := 11) (i := .iconst 1) (v := gm_vi 1) (by decide +kernel) (by decide +kernel)) ?_
    refine gm_c_virt (k := 226) (ci := 11) (mj := 282) (ix := 300) (pc := 12) (as := [gm_vi 1, gm_vi 1]) (st := []) (d' := d - 1) (bc' := 0) (bs' := 0) (by decide +kernel) (by decide +kernel) (by decide +kernel) (by decide +kernel) (e0k hE (k := 226) (c := 11) (by decide +kernel)).1 (e0k hE (k := 226) (c := 11) (by decide +kernel)).2 (by decide) (by decide +kernel) (show 2 = gm_na 282 by decide +kernel) (fw_c2 fw_si fw_si) (show 3 ≤ gm_ml 282 by decide +kernel) (Nat.le_of_ble_eq_true rfl) (by omega) (Nat.zero_le _) (Nat.zero_le _) ?_
    refine tf_1 hE ?_
    show gm_Wp X LX d _ _ 314 15 _ [gm_vi 1] n K _ _ Q
    refine fw_iftd (cc := .ne) (pc := 15) (off := 15) (by decide +kernel) (by decide) ⟨by decide, by decide⟩ (by decide) ?_
    refine gm_sz (gm_p_const (pc := 30) (i := .iconst 0) (v := gm_vi 0) (by decide +kernel) (by decide +kernel)) ?_
    exact absurd hl (by omega)
  · show gm_Wp X LX d _ _ 314 11 _ [gm_vi 0, gm_vr 226] n K _ _ Q
    have n8 : 0 ≤ l ∧ l < N 4 := n8
    refine gm_sz (gm_p_const (pc := 11) (i := .iconst 1) (v := gm_vi 1) (by decide +kernel) (by decide +kernel)) ?_
    refine gm_c_virt (k := 226) (ci := 11) (mj := 282) (ix := 300) (pc := 12) (as := [gm_vi 0, gm_vi 1]) (st := []) (d' := d - 1) (bc' := 0) (bs' := 0) (by decide +kernel) (by decide +kernel) (by decide +kernel) (by decide +kernel) (e0k hE (k := 226) (c := 11) (by decide +kernel)).1 (e0k hE (k := 226) (c := 11) (by decide +kernel)).2 (by decide) (by decide +kernel) (show 2 = gm_na 282 by decide +kernel) (fw_c2 fw_si fw_si) (show 3 ≤ gm_ml 282 by decide +kernel) (Nat.le_of_ble_eq_true rfl) (by omega) (Nat.zero_le _) (Nat.zero_le _) ?_
    refine tf_0 hE ?_
    show gm_Wp X LX d _ _ 314 15 _ [gm_vi 0] n K _ _ Q
    refine fw_iffd (cc := .ne) (pc := 15) (off := 15) (by decide +kernel) (by decide) ⟨by decide, by decide⟩ (by decide) ?_
    refine gm_sz (gm_p_load (pc := 18) (i := .aload_n 0) (sr := 2) (j := 0) (by decide +kernel) rfl rfl rfl) ?_
    refine gm_sz (gm_p_load (pc := 19) (i := .iload_n 2) (sr := 0) (j := 2) (by decide +kernel) rfl rfl rfl) ?_
    refine gm_c_stat (mj := 285) (ix := 353) (pc := 20) (as := [gm_vi y]) (st := [gm_vr 226]) (d' := d - 1) (bc' := 0) (bs' := 0) (by decide +kernel) (by decide +kernel) (by decide +kernel) (by decide +kernel) (show 1 = gm_na 285 by decide +kernel) (fw_c1 fw_si) (show 1 ≤ gm_ml 285 by decide +kernel) (Nat.le_of_ble_eq_true rfl) (by omega) (Nat.zero_le _) (Nat.zero_le _) ?_
    refine no_285 (i := y) (by omega) hi2 (fun n20 => ?_) (fun n20 => ?_)
    · show gm_Wp X LX d _ _ 314 23 _ [gm_vi 1, gm_vr 226] n K _ _ Q
      have n20 : ¬ (0 ≤ y ∧ y ≤ 299) := n20
      refine gm_sz (gm_p_const (pc := 23) (i := .iconst 2) (v := gm_vi 2) (by decide +kernel) (by decide +kernel)) ?_
      refine gm_c_virt (k := 226) (ci := 11) (mj := 282) (ix := 300) (pc := 24) (as := [gm_vi 1, gm_vi 2]) (st := []) (d' := d - 1) (bc' := 0) (bs' := 0) (by decide +kernel) (by decide +kernel) (by decide +kernel) (by decide +kernel) (e0k hE (k := 226) (c := 11) (by decide +kernel)).1 (e0k hE (k := 226) (c := 11) (by decide +kernel)).2 (by decide) (by decide +kernel) (show 2 = gm_na 282 by decide +kernel) (fw_c2 fw_si fw_si) (show 3 ≤ gm_ml 282 by decide +kernel) (Nat.le_of_ble_eq_true rfl) (by omega) (Nat.zero_le _) (Nat.zero_le _) ?_
      refine tf_1 hE ?_
      show gm_Wp X LX d _ _ 314 27 _ [gm_vi 1] n K _ _ Q
      refine fw_iffd (cc := .eq) (pc := 27) (off := 5) (by decide +kernel) (by decide) ⟨by decide, by decide⟩ (by decide) ?_
      refine gm_sz (gm_p_const (pc := 30) (i := .iconst 0) (v := gm_vi 0) (by decide +kernel) (by decide +kernel)) ?_
      exact gm_r_int (pc := 31) (by decide +kernel) (Or.inl (by decide +kernel)) (k2 (by omega) _ uM_at)
    · show gm_Wp X LX d _ _ 314 23 _ [gm_vi 0, gm_vr 226] n K _ _ Q
      have n20 : 0 ≤ y ∧ y ≤ 299 := n20
      refine gm_sz (gm_p_const (pc := 23) (i := .iconst 2) (v := gm_vi 2) (by decide +kernel) (by decide +kernel)) ?_
      refine gm_c_virt (k := 226) (ci := 11) (mj := 282) (ix := 300) (pc := 24) (as := [gm_vi 0, gm_vi 2]) (st := []) (d' := d - 1) (bc' := 0) (bs' := 0) (by decide +kernel) (by decide +kernel) (by decide +kernel) (by decide +kernel) (e0k hE (k := 226) (c := 11) (by decide +kernel)).1 (e0k hE (k := 226) (c := 11) (by decide +kernel)).2 (by decide) (by decide +kernel) (show 2 = gm_na 282 by decide +kernel) (fw_c2 fw_si fw_si) (show 3 ≤ gm_ml 282 by decide +kernel) (Nat.le_of_ble_eq_true rfl) (by omega) (Nat.zero_le _) (Nat.zero_le _) ?_
      refine tf_0 hE ?_
      show gm_Wp X LX d _ _ 314 27 _ [gm_vi 0] n K _ _ Q
      refine fw_iftd (cc := .eq) (pc := 27) (off := 5) (by decide +kernel) (by decide) ⟨by decide, by decide⟩ (by decide) ?_
      refine gm_sz (gm_p_load (pc := 32) (i := .aload_n 0) (sr := 2) (j := 0) (by decide +kernel) rfl rfl rfl) ?_
      refine gm_sz (gm_p_load (pc := 33) (i := .iload_n 1) (sr := 0) (j := 1) (by decide +kernel) rfl rfl rfl) ?_
      refine gm_sz (gm_p_const (pc := 34) (i := .iconst (-1)) (v := gm_vi (-1)) (by decide +kernel) (by decide +kernel)) ?_
      refine gm_c_virt (k := 226) (ci := 11) (mj := 305) (ix := 381) (pc := 35) (as := [gm_vi l, gm_vi (-1)]) (st := []) (d' := d - 1) (bc' := 0) (bs' := 0) (by decide +kernel) (by decide +kernel) (by decide +kernel) (by decide +kernel) (e0k hE (k := 226) (c := 11) (by decide +kernel)).1 (e0k hE (k := 226) (c := 11) (by decide +kernel)).2 (by decide) (by decide +kernel) (show 2 = gm_na 305 by decide +kernel) (fw_c2 fw_si fw_si) (show 3 ≤ gm_ml 305 by decide +kernel) (Nat.le_of_ble_eq_true rfl) (by omega) (Nat.zero_le _) (Nat.zero_le _) ?_
      refine re_c305 (l := l) (wo := (-1)) (by omega) hE (tr_fr (W := [((226 : Nat), some (0 : Int))]) hT (fr_p fr_0 (Or.inr (by decide))) (by decide)) hN hfw (hfw.2.1 [((226 : Nat), some (0 : Int))] _ _ (by decide) (fr_p fr_0 (Or.inr (by decide))) hI) ⟨by omega, by omega⟩ ⟨by decide, by decide⟩ (fun M35 hf35 hI35 hr35 => ?_)
      show gm_Wp X LX d _ _ 314 38 _ [] n K _ _ Q
      have hr35 : rrun N h φ ((N (119 + (l * 7 + 2)))) (if (N (119 + (l * 7 + 0))) = -1 then 1 else 0) (-1) ((N (119 + (l * 7 + 3)))) ((N (119 + (l * 7 + 4)))) M35 := hr35
      refine gm_sz (gm_p_load (pc := 38) (i := .aload_n 0) (sr := 2) (j := 0) (by decide +kernel) rfl rfl rfl) ?_
      refine gm_sz (fw_gr (pc := 39) (ix := 48) (ci := 11) (j := 28) (r := 237) (by decide +kernel) (e0k hE (k := 226) (c := 11) (by decide +kernel)) (by decide +kernel) (by decide +kernel) (e0r hE (k := 226) (j := 28) (r := 237) (by decide +kernel))) ?_
      refine gm_sz (gm_p_load (pc := 42) (i := .iload_n 2) (sr := 0) (j := 2) (by decide +kernel) rfl rfl rfl) ?_
      refine gm_sz (fw_ia (pc := 43) (k := 237) (len := 300) (e0 := y) (x := M35 237 y) (by decide +kernel) (e0a hE (k := 237) (q := ((0 : Nat), (300 : Nat))) (by decide +kernel)).1 (e0a hE (k := 237) (q := ((0 : Nat), (300 : Nat))) (by decide +kernel)).2 (by decide) ⟨by omega, by omega⟩ rfl) ?_
      by_cases y3 : y < (N (119 + (l * 7 + 3)))
      · rw [show M35 237 y = -1 from (hr35.1 y (by omega) y3).2]
        exact gm_r_int (pc := 44) (by decide +kernel) (Or.inl (by decide +kernel)) (kn (by omega) y3 _ ((fr_j hf35 (by decide)).trans uM_at))
      · have hk9 := (hr35.2.1 (y - (N (119 + (l * 7 + 3)))).toNat (by omega)).2
        rw [show (N (119 + (l * 7 + 3))) + ((y - (N (119 + (l * 7 + 3)))).toNat : Int) = y by omega] at hk9
        rw [show M35 237 y = (nwy N h φ ((N (119 + (l * 7 + 2)))) (if (N (119 + (l * 7 + 0))) = -1 then 1 else 0) (-1) ((N (119 + (l * 7 + 3)))) ((N (119 + (l * 7 + 4)))) (y - (N (119 + (l * 7 + 3)))).toNat).2 from hk9]
        exact gm_r_int (pc := 44) (by decide +kernel) (Or.inl (by decide +kernel)) (kv (by omega) y3 _ ((fr_j hf35 (by decide)).trans uM_at))
theorem re_deepx (hd : 20 ≤ d) (hE : E0 n K R) (hT : TR N h M) (hN : NR N) (hl : ¬ (0 ≤ l ∧ l < N 4)) (hi : gm_ir l) (hi2 : gm_ir y) (k1 : ∀ M2, M2 226 0 = 1 → Q (.inl (some (gm_vi 0))) n K R M2) : gm_Wp X LX d bc bs 314 0 (gm_ent 314 [gm_vr 226, gm_vi l, gm_vi y]) [] n K R M Q := by
  obtain ⟨⟨⟨a0, b0⟩, ⟨a1, b1⟩, ⟨a10, b10⟩, ⟨a11, b11⟩, ⟨a12, b12⟩, a9, b9⟩, ⟨⟨a2, b2⟩, ⟨a5, b5⟩, ⟨a3, b3⟩, ⟨a4, b4⟩, ⟨a6, b6⟩, ⟨a14, b14⟩, ⟨a7, b7⟩, a13, b13⟩, rF, rP, rL⟩ := id hN
  refine gm_sz (gm_p_load (pc := 0) (i := .aload_n 0) (sr := 2) (j := 0) (by decide +kernel) rfl rfl rfl) ?_
  refine gm_sz (gm_p_const (pc := 1) (i := .iconst 0) (v := gm_vi 0) (by decide +kernel) (by decide +kernel)) ?_
  refine gm_sz (fw_pi (pc := 2) (ix := 3) (ci := 11) (j := 0) (M' := gm_uM M 226 0 0) (by decide +kernel) (e0k hE (k := 226) (c := 11) (by decide +kernel)) (by decide +kernel) (by decide +kernel) (by decide +kernel) rfl) ?_
  refine gm_sz (gm_p_load (pc := 5) (i := .aload_n 0) (sr := 2) (j := 0) (by decide +kernel) rfl rfl rfl) ?_
  refine gm_sz (gm_p_load (pc := 6) (i := .aload_n 0) (sr := 2) (j := 0) (by decide +kernel) rfl rfl rfl) ?_
  refine gm_sz (gm_p_load (pc := 7) (i := .iload_n 1) (sr := 0) (j := 1) (by decide +kernel) rfl rfl rfl) ?_
  refine gm_c_virt (k := 226) (ci := 11) (mj := 309) (ix := 405) (pc := 8) (as := [gm_vi l]) (st := [gm_vr 226]) (d' := d - 1) (bc' := 0) (bs' := 0) (by decide +kernel) (by decide +kernel) (by decide +kernel) (by decide +kernel) (e0k hE (k := 226) (c := 11) (by decide +kernel)).1 (e0k hE (k := 226) (c := 11) (by decide +kernel)).2 (by decide) (by decide +kernel) (show 1 = gm_na 309 by decide +kernel) (fw_c1 fw_si) (show 2 ≤ gm_ml 309 by decide +kernel) (Nat.le_of_ble_eq_true rfl) (by omega) (Nat.zero_le _) (Nat.zero_le _) ?_
  refine no_309 (i := l) (by omega) hE (tr_fr (W := [((226 : Nat), some (0 : Int))]) hT (fr_p fr_0 (Or.inr (by decide))) (by decide)) hN hi (fun n8 => ?_) (fun n8 => ?_)
  · show gm_Wp X LX d _ _ 314 11 _ [gm_vi 1, gm_vr 226] n K _ _ Q
    have n8 : ¬ (0 ≤ l ∧ l < N 4) := n8
    refine gm_sz (gm_p_const (pc := 11) (i := .iconst 1) (v := gm_vi 1) (by decide +kernel) (by decide +kernel)) ?_
    refine gm_c_virt (k := 226) (ci := 11) (mj := 282) (ix := 300) (pc := 12) (as := [gm_vi 1, gm_vi 1]) (st := []) (d' := d - 1) (bc' := 0) (bs' := 0) (by decide +kernel) (by decide +kernel) (by decide +kernel) (by decide +kernel) (e0k hE (k := 226) (c := 11) (by decide +kernel)).1 (e0k hE (k := 226) (c := 11) (by decide +kernel)).2 (by decide) (by decide +kernel) (show 2 = gm_na 282 by decide +kernel) (fw_c2 fw_si fw_si) (show 3 ≤ gm_ml 282 by decide +kernel) (Nat.le_of_ble_eq_true rfl) (by omega) (Nat.zero_le _) (Nat.zero_le _) ?_
    refine tf_1 hE ?_
    show gm_Wp X LX d _ _ 314 15 _ [gm_vi 1] n K _ _ Q
    refine fw_iftd (cc := .ne) (pc := 15) (off := 15) (by decide +kernel) (by decide) ⟨by decide, by decide⟩ (by decide) ?_
    refine gm_sz (gm_p_const (pc := 30) (i := .iconst 0) (v := gm_vi 0) (by decide +kernel) (by decide +kernel)) ?_
    exact gm_r_int (pc := 31) (by decide +kernel) (Or.inl (by decide +kernel)) (k1 _ uM_at)
  · show gm_Wp X LX d _ _ 314 11 _ [gm_vi 0, gm_vr 226] n K _ _ Q
    have n8 : 0 ≤ l ∧ l < N 4 := n8
    refine gm_sz (gm_p_const (pc := 11) (i := .iconst 1) (v := gm_vi 1) (by decide +kernel) (by decide +kernel)) ?_
    refine gm_c_virt (k := 226) (ci := 11) (mj := 282) (ix := 300) (pc := 12) (as := [gm_vi 0, gm_vi 1]) (st := []) (d' := d - 1) (bc' := 0) (bs' := 0) (by decide +kernel) (by decide +kernel) (by decide +kernel) (by decide +kernel) (e0k hE (k := 226) (c := 11) (by decide +kernel)).1 (e0k hE (k := 226) (c := 11) (by decide +kernel)).2 (by decide) (by decide +kernel) (show 2 = gm_na 282 by decide +kernel) (fw_c2 fw_si fw_si) (show 3 ≤ gm_ml 282 by decide +kernel) (Nat.le_of_ble_eq_true rfl) (by omega) (Nat.zero_le _) (Nat.zero_le _) ?_
    refine tf_0 hE ?_
    show gm_Wp X LX d _ _ 314 15 _ [gm_vi 0] n K _ _ Q
    refine fw_iffd (cc := .ne) (pc := 15) (off := 15) (by decide +kernel) (by decide) ⟨by decide, by decide⟩ (by decide) ?_
    exact absurd ⟨by omega, by omega⟩ hl
end WD52
section WD52B
variable {X : Int → Int} {LX d bc bs n g z g1 : Nat} {la : Nat → Nat} {K : gm_K} {R : gm_R} {M : gm_M} {N : Int → Int} {lw : Option (List lln)} {A : List (Int → Int)} {im : Option ((Int → Int) × Option (List lln))} {t w : Int} {f : Int → Int} {a b c e : Int} {NC : Nat} {C Ln G : Int → Int}
/-- where a letter is after so many years, and how deep -/
noncomputable def nwl (lw : Option (List lln)) (N : Int → Int) (l : Int) (k : Nat) : Int × Int := nwy N (hts (N 13)) (aphi lw N (hts (N 13))) ((N (119 + (l * 7 + 2)))) (if (N (119 + (l * 7 + 0))) = -1 then 1 else 0) (-1) ((N (119 + (l * 7 + 3)))) ((N (119 + (l * 7 + 4)))) k
noncomputable def q_deep (lw : Option (List lln)) (N : Int → Int) (a : Int) (b : Int) : Int × Int := tif (¬ (0 ≤ a ∧ a < N 4)) (1, 0) (tif (¬ (0 ≤ b ∧ b ≤ 299)) (2, 0) (tif (b < (N (119 + (a * 7 + 3)))) (0, -1) (0, (nwl lw N a (b - (N (119 + (a * 7 + 3)))).toNat).2)))
theorem iq_deep : gm_ir (q_deep lw N a b).1 := by
  unfold q_deep
  exact tif_ir (show (-2147483648 : Int) ≤ 1 ∧ (1 : Int) < 2147483648 from by decide) (tif_ir (show (-2147483648 : Int) ≤ 2 ∧ (2 : Int) < 2147483648 from by decide) (tif_ir (show (-2147483648 : Int) ≤ 0 ∧ (0 : Int) < 2147483648 from by decide) ((show (-2147483648 : Int) ≤ 0 ∧ (0 : Int) < 2147483648 from by decide))))
theorem cq_deep (hd : 24 ≤ d) (hbc : 4 ≤ bc) (hbs : 24 ≤ bs) (hE : E0 n K R) (hn : 245 ≤ n) (hK : K 245 = (2, 1)) (hc : CC n K R NC C Ln G lw) (hL : LBX NC C Ln lw M) (hG : GJ N) (hV : CLV N lw A im t w f M) (ia : gm_ir a) (ib : gm_ir b) : gm_Wp X LX d bc bs 150 0 (gm_ent 150 [gm_vr 1, gm_vi a, gm_vi b]) [] n K R M (hQ [(3, 1), (0, 2)] (CF (q_deep lw N a b).1 (oV (q_deep lw N a b).1 (q_deep lw N a b).2))) := by
  by_cases hl : 0 ≤ a ∧ a < N 4
  · exact cl_deep (Nat.le_trans (by decide) hd) hbc hbs hE hV.1.1 hG.1.1 (flw_a hE hc hG.1.1 hG.1.2.1) (fic_of hL hV) hl ib (fun hy h3 => hQ_v hn hK (cf_v hK ((tif_f (fun hh => hh hl)).trans ((tif_f (fun hh => hh hy)).trans (tif_t h3))) rfl)) (fun hy h3 M2 => hQ_v hn hK (cf_v hK ((tif_f (fun hh => hh hl)).trans ((tif_f (fun hh => hh hy)).trans (tif_f h3))) rfl)) (fun hy => hQ_x hn hK (c := 2) (by decide) (cf_x hK ((tif_f (fun hh => hh hl)).trans (tif_t hy)) (by decide)))
  · exact cl_deepx (Nat.le_trans (by decide) hd) hbc hbs hE hV.1.1 hG.1.1 hl ia ib (hQ_x hn hK (c := 1) (by decide) (cf_x hK (tif_t hl) (by decide)))
theorem rq_deep (hd : 24 ≤ d) (hE : E0 n K R) (hT : jT fun j => M 227 (395 + j)) (hS6 : NSb 6 N) (hG : GJ N) (hV : RFV N lw A im t w f M) (ia : gm_ir a) (ib : gm_ir b) : gm_Wp X LX d bc bs 314 0 (gm_ent 314 [gm_vr 226, gm_vi a, gm_vi b]) [] n K R M (RF (q_deep lw N a b).1 (q_deep lw N a b).2) := by
  have k226 := k226 hE
  by_cases hl : 0 ≤ a ∧ a < N 4
  · exact re_deep (Nat.le_trans (by decide) hd) hE hV.1.1 hG.1.1 (flr_a hE (lawg_of hV.1.2.1 hT) hgeo_r hG.1.1 hG.1.1 hS6) ⟨hV.2.1, fun _ _ => rfl⟩ hl ib (fun hy h3 M2 h0 => rf_e k226 ((tif_f (fun hh => hh hl)).trans ((tif_f (fun hh => hh hy)).trans (tif_t h3))) (fun _ => rfl) h0) (fun hy h3 M2 h0 => rf_e k226 ((tif_f (fun hh => hh hl)).trans ((tif_f (fun hh => hh hy)).trans (tif_f h3))) (fun _ => rfl) h0) (fun hy M2 h0 => rf_e k226 ((tif_f (fun hh => hh hl)).trans (tif_t hy)) (fun e => absurd e (by decide)) h0)
  · exact re_deepx (Nat.le_trans (by decide) hd) hE hV.1.1 hG.1.1 hl ia ib (fun M2 h0 => rf_e k226 (tif_t hl) (fun e => absurd e (by decide)) h0)
theorem fw_deep (hb : bg g la K R M) (hR : REL la K M N lw A im t w f) (ia : gm_ir a) (ib : gm_ir b) : ∀ z g1, bs_ok la z g1 → ¬ z = 100003 → gm_Wp X LX 279 6 600 149 0 (gm_ent 149 (gm_vr 1 :: bc_as [a, b] true)) [] (245 + 4 * g1) (bs_K la K) (bs_R z g1) (bs_M la M) (CF (q_deep lw N a b).1 (oV (q_deep lw N a b).1 (q_deep lw N a b).2)) := by
  intro z g1 hz hz3
  have hE := e0_w hb hz
  obtain ⟨NC, C, Ln, hcc, hlb⟩ := cc_w hb hz hz3 hR.2.1.1 hR.2.2.2.1.2.1
  exact hl_149 (d := 278) (k1_e hE) (cq_deep (by decide) (by decide) (by decide) hE (k245 hE).1 (k245 hE).2 hcc hlb hR.1.1 (clv_w hb hR.2.2.1) ia ib)
theorem fm_deep (hb : bg g la K R M) (hR : REL la K M N lw A im t w f) (ia : gm_ir a) (ib : gm_ir b) : gm_Wp X LX 279 6 600 314 0 (gm_ent 314 (gm_vr 226 :: [a, b].map gm_vi)) [] 245 (bs_K la K) (bs_R 100003 0) (bs_M la M) (RF (q_deep lw N a b).1 (q_deep lw N a b).2) := rq_deep (by decide) (e0_w hb (Or.inr (Or.inl ⟨rfl, rfl⟩))) (gJ_w hb) (ns6 (bs_F0 (z := 100003) hb) (rfv_w (la := la) hR.2.2.2).1.1.1 hR.1.1.1.1) hR.1.1 (rfv_w hR.2.2.2) ia ib
end WD52B
end
