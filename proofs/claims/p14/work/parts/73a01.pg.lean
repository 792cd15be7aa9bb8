/-! THE REFERENCE'S law(): its readers, with counted cells (laid by wip/am/g8.py). -/
set_option maxRecDepth 100000 in
/-- GlacierMailModel.readAtom -/
def pg_s64 : ck_Sum := ((27, 0, 0), 245, [.inr (.inr (.inl 226))], ([], [], [(226, 12, 12, ck_one 0), (0, 0, 0, (0, 400, [(30, 0)])), (0, 3, 3, ((-400), 400, [(31, 0)])), (0, 4, 4, ((-400), 400, [(32, 0)])), (0, 5, 5, (1, 400, [(33, 0)])), (226, 9, 9, (0, 400, [(1, 0)])), (226, 15, 15, (0, 400, [(2, 0)]))]), ([(0, 0, 0), (0, 3, 5), (226, 9, 9), (226, 11, 12), (226, 15, 15), (227, 1293, 2092)], []), [(.inr (some (.inl (ck_one 0))), 245, ([], [], [(0, 5, 5, (0, 400, [(1000033, (-1))])), (0, 0, 0, (0, 400, [(1000030, 0)])), (0, 3, 3, (0, 400, [(1000033, (-1))])), (0, 4, 4, (0, 400, [])), (226, 9, 9, (0, 400, [(1000001, 0)]))])), (.inr (some (.inl (ck_one 1))), 245, ([], [], [(0, 0, 0, (1, 400, [(30, 1)])), (0, 3, 3, (0, 400, [(1000033, (-1))])), (0, 5, 5, (1, 400, [(1000033, 0)])), (226, 15, 15, (1, 400, [])), (0, 4, 4, (0, 5, [])), (226, 9, 9, (0, 400, [(1000001, 0)])), (226, 12, 12, ck_one 0)]))])
set_option maxRecDepth 100000 in
theorem pg_s64_e : ck_ok pg_O none [] [(278, [pg_s12, pg_s14, pg_s16, pg_s18]), (269, [pg_s20, pg_s22, pg_s24]), (280, [pg_s39]), (279, [pg_em1, pg_em0, pg_em2]), (277, [pg_s61]), (275, [pg_s63])] 277 [] 154 pg_s64 = true := by decide +kernel
theorem pg_s64_s {X : Int → Int} {LX : Nat} : ck_Ok pg_O X LX 277 pg_s64 := ck_ok_s ⟨pg_nmu, ck_E1 (ck_S1 pg_s12_s (ck_S1 pg_s14_s (ck_S1 pg_s16_s (ck_S1 pg_s18_s ck_S0)))) (ck_E1 (ck_S1 pg_s20_s (ck_S1 pg_s22_s (ck_S1 pg_s24_s ck_S0))) (ck_E1 (ck_S1 pg_s39_s ck_S0) (ck_E1 (ck_S1 pg_em1_s (ck_S1 pg_em0_s (ck_S1 pg_em2_s ck_S0))) (ck_E1 (ck_S1 pg_s61_s ck_S0) (ck_E1 (ck_S1 pg_s63_s ck_S0) ck_E0)))))⟩ ck_X0 ck_l0 pg_s64_e
set_option maxRecDepth 100000 in
/-- GlacierMailModel.readAllOf -/
def pg_s65 : ck_Sum := ((28, 0, 0), 245, [.inr (.inr (.inl 226))], ([], [], [(226, 12, 12, ck_one 0), (0, 0, 0, (0, 400, [(30, 0)])), (0, 3, 3, ((-400), 400, [(31, 0)])), (0, 4, 4, ((-400), 400, [(32, 0)])), (0, 5, 5, (1, 400, [(33, 0)])), (226, 9, 9, (0, 400, [(1, 0)])), (226, 15, 15, (0, 400, [(2, 0)]))]), ([(0, 0, 0), (0, 3, 5), (226, 9, 9), (226, 11, 12), (226, 15, 15), (227, 1293, 2092)], []), [(.inr (some (.inl (ck_one 0))), 245, ([], [], [(0, 5, 5, (0, 400, [(1000033, (-1))])), (0, 0, 0, (0, 400, [(1000030, 0)])), (0, 3, 3, (0, 400, [(1000033, (-1))])), (0, 4, 4, (0, 400, [])), (226, 9, 9, (0, 400, [(1000001, 0)]))])), (.inr (some (.inl (ck_one 1))), 245, ([], [], [(0, 5, 5, (1, 400, [(1000033, 0)])), (226, 11, 11, (0, 400, [(1000001, 0)])), (0, 3, 3, (1, 400, [(1000033, 0)])), (0, 4, 4, ck_one 0), (226, 9, 9, (0, 400, [(1000001, 0)])), (0, 0, 0, (1, 400, [(30, 1)])), (226, 15, 15, (1, 400, [])), (226, 12, 12, ck_one 0)]))])
set_option maxRecDepth 100000 in
theorem pg_s65_e : ck_ok pg_O none [] [(277, [pg_s64]), (269, [pg_s43]), (279, [pg_em3])] 276 [(9, [some (.inr (.inr (.inl 226)))], ([], [], [(0, 5, 5, (1, 400, [(1000033, 0)])), (226, 11, 11, (0, 400, [])), (0, 0, 0, (1, 400, [(30, 1)])), (0, 3, 3, (0, 400, [(1000033, (-1))])), (226, 15, 15, (1, 400, [])), (0, 4, 4, (0, 5, [])), (226, 9, 9, (0, 400, [(1000001, 0)])), (226, 12, 12, ck_one 0)]), 100, .inr (0, 5), true)] 142 pg_s65 = true := by decide +kernel
theorem pg_s65_s {X : Int → Int} {LX : Nat} : ck_Ok pg_O X LX 276 pg_s65 := ck_ok_s ⟨pg_nmu, ck_E1 (ck_S1 pg_s64_s ck_S0) (ck_E1 (ck_S1 pg_s43_s ck_S0) (ck_E1 (ck_S1 pg_em3_s ck_S0) ck_E0))⟩ ck_X0 ck_l0 pg_s65_e
set_option maxRecDepth 100000 in
/-- GlacierMailModel.readCond -/
def pg_s66 : ck_Sum := ((29, 0, 0), 245, [.inr (.inr (.inl 226))], ([], [], [(226, 12, 12, ck_one 0), (0, 0, 0, (0, 400, [(30, 0)])), (0, 3, 3, ((-400), 400, [(31, 0)])), (0, 4, 4, ((-400), 400, [(32, 0)])), (0, 5, 5, (1, 400, [(33, 0)])), (226, 9, 9, (0, 400, [(1, 0)])), (226, 15, 15, (0, 400, [(2, 0)]))]), ([(0, 0, 0), (0, 3, 5), (226, 9, 9), (226, 11, 12), (226, 15, 15), (227, 1293, 2092)], []), [(.inr (some (.inl (ck_one 0))), 245, ([], [], [(0, 5, 5, (0, 400, [(1000033, (-1))])), (0, 0, 0, (0, 400, [(1000030, 0)])), (0, 3, 3, (0, 400, [(1000033, (-1))])), (0, 4, 4, (0, 400, [])), (226, 9, 9, (0, 400, [(1000001, 0)]))])), (.inr (some (.inl (ck_one 1))), 245, ([], [], [(0, 5, 5, (1, 400, [(1000033, 0)])), (226, 11, 11, (0, 400, [(1000001, 0)])), (0, 3, 3, (1, 400, [(1000033, 0)])), (0, 4, 4, ck_one 0), (226, 9, 9, (0, 400, [(1000001, 0)])), (0, 0, 0, (1, 400, [(30, 1)])), (226, 15, 15, (1, 400, [])), (226, 12, 12, ck_one 0)]))])
set_option maxRecDepth 100000 in
theorem pg_s66_e : ck_ok pg_O none [] [(276, [pg_s65]), (269, [pg_s47]), (279, [pg_em3])] 275 [(9, [some (.inr (.inr (.inl 226)))], ([], [], [(0, 5, 5, (1, 400, [(1000033, 0)])), (226, 11, 11, (0, 400, [(1000001, 0)])), (0, 3, 3, (1, 400, [(1000033, 0)])), (0, 4, 4, ck_one 0), (226, 9, 9, (0, 400, [(1000001, 0)])), (0, 0, 0, (1, 400, [(30, 1)])), (226, 15, 15, (1, 400, [])), (226, 12, 12, ck_one 0)]), 100, .inr (0, 5), true)] 142 pg_s66 = true := by decide +kernel
theorem pg_s66_s {X : Int → Int} {LX : Nat} : ck_Ok pg_O X LX 275 pg_s66 := ck_ok_s ⟨pg_nmu, ck_E1 (ck_S1 pg_s65_s ck_S0) (ck_E1 (ck_S1 pg_s47_s ck_S0) (ck_E1 (ck_S1 pg_em3_s ck_S0) ck_E0))⟩ ck_X0 ck_l0 pg_s66_e
set_option maxRecDepth 100000 in
/-- GlacierMailModel.readLawLine -/
def pg_s67 : ck_Sum := ((30, 0, 0), 245, [.inr (.inr (.inl 226)), .inl (ck_one 0)], ([], [], [(0, 2, 2, ck_one 0), (0, 0, 0, (0, 400, [(30, 0)])), (0, 3, 3, ((-400), 400, [(31, 0)])), (0, 4, 4, ((-400), 400, [(32, 0)])), (0, 5, 5, (0, 400, [(33, 0)])), (0, 6, 6, (0, 1, [])), (226, 9, 9, (0, 400, [(1, 0)])), (226, 15, 15, (0, 400, [(2, 0)]))]), ([(0, 0, 6), (226, 9, 9), (226, 11, 12), (226, 15, 15), (227, 1245, 1248), (227, 1293, 2092)], []), [(.inr (some (.inl (ck_one 0))), 245, ([], [], [(0, 2, 2, ck_one 0), (0, 0, 0, (0, 400, [])), (0, 3, 3, ((-400), 400, [(1000031, 0)])), (0, 4, 4, ((-400), 400, [])), (0, 5, 5, (0, 400, [(1000033, 0)])), (0, 6, 6, (0, 1, [])), (226, 9, 9, (0, 400, [(1000001, 0)]))])), (.inr (some (.inl (ck_one 1))), 245, ([], [], [(0, 0, 0, ck_one 0), (0, 2, 2, ck_one 1), (0, 6, 6, ck_one 0), (0, 5, 5, (0, 400, [(1000033, 0), (1000031, 4)])), (226, 11, 11, (0, 400, [(1000001, 0)])), (0, 3, 3, (0, 400, [(1000033, 0), (1000031, 4)])), (0, 4, 4, ck_one 0), (226, 9, 9, (0, 400, [(1000001, 0)])), (226, 12, 12, ck_one 0), (227, 1246, 1246, (0, 20, [])), (227, 1245, 1245, (0, 2, []))]))])
def pg_s67_E : List (Nat × List ck_Sum) := [(250, [pg_s4, pg_s5, pg_s6]), (256, [pg_s8]), (269, [pg_s10]), (275, [pg_s66])]
set_option maxRecDepth 100000 in
def pg_s67_F111 : ck_F := ([], [], [(0, 5, 5, (0, 400, [(1000033, 0), (1000031, 4)])), (226, 11, 11, (0, 399, [])), (227, 1246, 1246, (0, 20, [])), (227, 1245, 1245, (0, 2, [])), (0, 4, 4, (1, 4, [])), (0, 2, 2, ck_one 0), (0, 0, 0, (0, 400, [(30, 0)])), (0, 3, 3, ((-400), 400, [(1000031, 0)])), (0, 6, 6, (0, 1, [])), (226, 9, 9, (0, 400, [(1000001, 0)])), (226, 15, 15, (0, 400, [(2, 0)]))])
def pg_s67_C111 : ck_C := (rl_A 0, pg_s67_F111, 0, .inl 2, true)
set_option maxRecDepth 100000 in
def pg_s67_F147 : ck_F := ([], [], [(0, 5, 5, (0, 400, [(1000033, 0), (1000031, 4)])), (226, 11, 11, (0, 400, [(1000001, 0)])), (0, 3, 3, (0, 400, [(1000033, 0), (1000031, 4)])), (0, 4, 4, ck_one 0), (226, 9, 9, (0, 400, [(1000001, 0)])), (226, 12, 12, ck_one 0), (0, 0, 0, (0, 1, [])), (0, 6, 6, ck_one 1), (227, 1246, 1246, (0, 20, [])), (227, 1245, 1245, (0, 2, [])), (0, 2, 2, ck_one 0), (226, 15, 15, (0, 400, []))])
def pg_s67_C147 : ck_C := (rl_A 0, pg_s67_F147, 0, .inl 2, true)
def pg_s67_Z : List (Nat × ck_C) := [(147, pg_s67_C147), (111, pg_s67_C111)]
set_option maxRecDepth 100000 in
theorem pg_s67_a : (decide (pg_s67.2.2.1.length ≤ gm_ml 274) && ck_go pg_O none [] pg_s67_E 274 pg_s67.1.1 pg_s67.2.1 pg_s67.2.2.2.2.1 pg_s67.2.2.2.2.2 pg_s67_Z 416 false [(147, pg_s67_C147, 0, 0, 245), (111, pg_s67_C111, 0, 0, 245)] pg_s67.1.2.1 pg_s67.1.2.2 0 (pg_s67.2.2.1.map some ++ List.replicate (gm_ml 274 - pg_s67.2.2.1.length) none) [] pg_s67.2.1 pg_s67.2.2.2.1) = true := by decide +kernel
set_option maxRecDepth 100000 in
theorem pg_s67_b : ck_go pg_O none [] pg_s67_E 274 pg_s67.1.1 245 pg_s67.2.2.2.2.1 pg_s67.2.2.2.2.2 pg_s67_Z 416 false [(147, pg_s67_C147, 0, 0, 245)] 0 0 123 (rl_A 0) [] 245 (rl_F1 0 pg_s67_F111) = true := by decide +kernel
set_option maxRecDepth 100000 in
theorem pg_s67_c : ck_go pg_O none [] pg_s67_E 274 pg_s67.1.1 245 pg_s67.2.2.2.2.1 pg_s67.2.2.2.2.2 pg_s67_Z 416 false [] 0 0 159 (rl_A 0) [] 245 (rl_F2 0 pg_s67_F147) = true := by decide +kernel
theorem pg_s67_u : ck_cu pg_s67_Z = true := by decide +kernel
theorem pg_s67_h {X : Int → Int} {LX : Nat} : ck_nmu pg_O ∧ ck_OkE pg_O X LX pg_s67_E := ⟨pg_nmu, ck_E1 (ck_S1 pg_s4_s (ck_S1 pg_s5_s (ck_S1 pg_s6_s ck_S0))) (ck_E1 (ck_S1 pg_s8_s ck_S0) (ck_E1 (ck_S1 pg_s10_s ck_S0) (ck_E1 (ck_S1 pg_s66_s ck_S0) ck_E0)))⟩
theorem pg_s67_y147 {X : Int → Int} {LX : Nat} {σ σ0 : Nat → Int} {K0 : gm_K} {R0 : gm_R} {M0 : gm_M} (hσ : ∀ s, s < 100 → σ s = σ0 s) : ck_Hy pg_O X LX 274 pg_s67.1.1 pg_s67.2.2.2.2.1 245 K0 R0 M0 (ck_Q pg_O σ0 pg_s67.2.2.2.2.1 245 K0 R0 M0 pg_s67.2.2.2.2.2) σ (147, pg_s67_C147, 0, 0, 245) := rl_147 pg_s67_u pg_s67_h hσ (by decide) (by decide +kernel) (by decide +kernel) ⟨by decide +kernel, by decide +kernel, by decide +kernel, by decide +kernel, by decide +kernel⟩ pg_s67_c (fun _ h => nomatch h)
theorem pg_s67_y111 {X : Int → Int} {LX : Nat} {σ σ0 : Nat → Int} {K0 : gm_K} {R0 : gm_R} {M0 : gm_M} (hσ : ∀ s, s < 100 → σ s = σ0 s) : ck_Hy pg_O X LX 274 pg_s67.1.1 pg_s67.2.2.2.2.1 245 K0 R0 M0 (ck_Q pg_O σ0 pg_s67.2.2.2.2.1 245 K0 R0 M0 pg_s67.2.2.2.2.2) σ (111, pg_s67_C111, 0, 0, 245) := rl_111 pg_s67_u pg_s67_h hσ (by decide) (by decide +kernel) ⟨by decide +kernel, by decide +kernel, by decide +kernel, by decide +kernel⟩ pg_s67_b (fun h hm => by
  rw [List.mem_singleton.mp hm]
  exact ⟨List.mem_cons_self, pg_s67_y147 hσ⟩)
theorem pg_s67_s {X : Int → Int} {LX : Nat} : ck_Ok pg_O X LX 274 pg_s67 := by
  refine ck_ok_st (cuts := pg_s67_Z) pg_s67_u pg_s67_h pg_s67_a (fun h hm => ?_)
  rcases List.mem_cons.mp hm with rfl | hm
  · exact ⟨List.mem_cons_self, fun σ K0 R0 M0 => pg_s67_y147 (fun _ _ => rfl)⟩
  rw [List.mem_singleton.mp hm]
  exact ⟨List.mem_cons_of_mem _ List.mem_cons_self, fun σ K0 R0 M0 => pg_s67_y111 (fun _ _ => rfl)⟩
set_option maxRecDepth 100000 in
/-- GlacierMailModel.readLine -/
def pg_s68 : ck_Sum := ((31, 0, 0), 245, [.inr (.inr (.inl 226)), .inl (ck_one 0), .inl (ck_one 0)], ([], [], [(0, 2, 2, ck_one 0), (0, 0, 0, (0, 400, [(30, 0)])), (0, 3, 3, ((-400), 400, [(31, 0)])), (0, 4, 4, ((-400), 400, [(32, 0)])), (0, 5, 5, (0, 400, [(33, 0)])), (0, 6, 6, (0, 1, [])), (226, 9, 9, (0, 400, [(1, 0)])), (226, 15, 15, (0, 400, [(2, 0)]))]), ([(0, 0, 6), (226, 9, 9), (226, 11, 12), (226, 15, 15), (227, 1245, 1248), (227, 1293, 2092)], []), [(.inr (some (.inl (ck_one 0))), 245, ([], [], [(0, 2, 2, ck_one 0), (0, 0, 0, (0, 400, [])), (0, 3, 3, (0, 400, [(1000033, 0)])), (0, 4, 4, ((-400), 400, [])), (0, 5, 5, (0, 400, [(1000033, 0)])), (0, 6, 6, (0, 1, [])), (226, 9, 9, (0, 400, [(1000001, 0)]))])), (.inr (some (.inl (ck_one 1))), 245, ([], [], [(0, 5, 5, (4, 400, [(1000033, 4)])), (226, 11, 11, (0, 400, [(1000001, 0)])), (0, 0, 0, ck_one 0), (0, 2, 2, ck_one 1), (0, 6, 6, ck_one 0), (0, 3, 3, (4, 400, [(1000033, 4)])), (0, 4, 4, ck_one 0), (226, 9, 9, (0, 400, [(1000001, 0)])), (226, 12, 12, ck_one 0), (227, 1246, 1246, (0, 20, [])), (227, 1245, 1245, (0, 2, []))]))])
set_option maxRecDepth 100000 in
theorem pg_s68_e : ck_ok pg_O none [] [(248, [pg_s3]), (274, [pg_s67])] 247 [] 102 pg_s68 = true := by decide +kernel
theorem pg_s68_s {X : Int → Int} {LX : Nat} : ck_Ok pg_O X LX 247 pg_s68 := ck_ok_s ⟨pg_nmu, ck_E1 (ck_S1 pg_s3_s ck_S0) (ck_E1 (ck_S1 pg_s67_s ck_S0) ck_E0)⟩ ck_X0 ck_l0 pg_s68_e
set_option maxRecDepth 100000 in
/-- GlacierMailModel.readLawLine -/
def pg_s69 : ck_Sum := ((30, 0, 0), 245, [.inr (.inr (.inl 226)), .inl (ck_one 1)], ([], [], [(0, 2, 2, ck_one 1), (0, 0, 0, (0, 400, [(30, 0)])), (0, 3, 3, ((-400), 400, [(31, 0)])), (0, 4, 4, ((-400), 400, [(32, 0)])), (0, 5, 5, (0, 400, [(33, 0)])), (0, 6, 6, (0, 1, [])), (226, 9, 9, (0, 400, [(1, 0)])), (226, 15, 15, (0, 400, [(2, 0)]))]), ([(0, 0, 6), (226, 9, 9), (226, 11, 12), (226, 15, 15), (227, 1249, 1252), (227, 1293, 2092)], []), [(.inr (some (.inl (ck_one 0))), 245, ([], [], [(0, 2, 2, ck_one 1), (0, 0, 0, (0, 400, [])), (0, 3, 3, ((-400), 400, [(1000031, 0)])), (0, 4, 4, ((-400), 400, [])), (0, 5, 5, (0, 400, [(1000033, 0)])), (0, 6, 6, (0, 1, [])), (226, 9, 9, (0, 400, [(1000001, 0)]))])), (.inr (some (.inl (ck_one 1))), 245, ([], [], [(0, 0, 0, ck_one 0), (0, 2, 2, ck_one 2), (0, 6, 6, ck_one 0), (0, 5, 5, (0, 400, [(1000033, 0), (1000031, 4)])), (226, 11, 11, (0, 400, [(1000001, 0)])), (0, 3, 3, (0, 400, [(1000033, 0), (1000031, 4)])), (0, 4, 4, ck_one 0), (226, 9, 9, (0, 400, [(1000001, 0)])), (226, 12, 12, ck_one 0), (227, 1250, 1250, (0, 20, [])), (227, 1249, 1249, (0, 2, []))]))])
def pg_s69_E : List (Nat × List ck_Sum) := [(250, [pg_s4, pg_s5, pg_s6]), (256, [pg_s8]), (269, [pg_s10]), (275, [pg_s66])]
set_option maxRecDepth 100000 in
def pg_s69_F111 : ck_F := ([], [], [(0, 5, 5, (0, 400, [(1000033, 0), (1000031, 4)])), (226, 11, 11, (0, 399, [])), (227, 1250, 1250, (0, 20, [])), (227, 1249, 1249, (0, 2, [])), (0, 4, 4, (1, 4, [])), (0, 2, 2, ck_one 1), (0, 0, 0, (0, 400, [(30, 0)])), (0, 3, 3, ((-400), 400, [(1000031, 0)])), (0, 6, 6, (0, 1, [])), (226, 9, 9, (0, 400, [(1000001, 0)])), (226, 15, 15, (0, 400, [(2, 0)]))])
def pg_s69_C111 : ck_C := (rl_A 1, pg_s69_F111, 0, .inl 2, true)
set_option maxRecDepth 100000 in
def pg_s69_F147 : ck_F := ([], [], [(0, 5, 5, (0, 400, [(1000033, 0), (1000031, 4)])), (226, 11, 11, (0, 400, [(1000001, 0)])), (0, 3, 3, (0, 400, [(1000033, 0), (1000031, 4)])), (0, 4, 4, ck_one 0), (226, 9, 9, (0, 400, [(1000001, 0)])), (226, 12, 12, ck_one 0), (0, 0, 0, (0, 1, [])), (0, 6, 6, ck_one 1), (227, 1250, 1250, (0, 20, [])), (227, 1249, 1249, (0, 2, [])), (0, 2, 2, ck_one 1), (226, 15, 15, (0, 400, []))])
def pg_s69_C147 : ck_C := (rl_A 1, pg_s69_F147, 0, .inl 2, true)
def pg_s69_Z : List (Nat × ck_C) := [(147, pg_s69_C147), (111, pg_s69_C111)]
set_option maxRecDepth 100000 in
theorem pg_s69_a : (decide (pg_s69.2.2.1.length ≤ gm_ml 274) && ck_go pg_O none [] pg_s69_E 274 pg_s69.1.1 pg_s69.2.1 pg_s69.2.2.2.2.1 pg_s69.2.2.2.2.2 pg_s69_Z 416 false [(147, pg_s69_C147, 0, 0, 245), (111, pg_s69_C111, 0, 0, 245)] pg_s69.1.2.1 pg_s69.1.2.2 0 (pg_s69.2.2.1.map some ++ List.replicate (gm_ml 274 - pg_s69.2.2.1.length) none) [] pg_s69.2.1 pg_s69.2.2.2.1) = true := by decide +kernel
set_option maxRecDepth 100000 in
theorem pg_s69_b : ck_go pg_O none [] pg_s69_E 274 pg_s69.1.1 245 pg_s69.2.2.2.2.1 pg_s69.2.2.2.2.2 pg_s69_Z 416 false [(147, pg_s69_C147, 0, 0, 245)] 0 0 123 (rl_A 1) [] 245 (rl_F1 1 pg_s69_F111) = true := by decide +kernel
set_option maxRecDepth 100000 in
theorem pg_s69_c : ck_go pg_O none [] pg_s69_E 274 pg_s69.1.1 245 pg_s69.2.2.2.2.1 pg_s69.2.2.2.2.2 pg_s69_Z 416 false [] 0 0 159 (rl_A 1) [] 245 (rl_F2 1 pg_s69_F147) = true := by decide +kernel
theorem pg_s69_u : ck_cu pg_s69_Z = true := by decide +kernel
theorem pg_s69_h {X : Int → Int} {LX : Nat} : ck_nmu pg_O ∧ ck_OkE pg_O X LX pg_s69_E := ⟨pg_nmu, ck_E1 (ck_S1 pg_s4_s (ck_S1 pg_s5_s (ck_S1 pg_s6_s ck_S0))) (ck_E1 (ck_S1 pg_s8_s ck_S0) (ck_E1 (ck_S1 pg_s10_s ck_S0) (ck_E1 (ck_S1 pg_s66_s ck_S0) ck_E0)))⟩
theorem pg_s69_y147 {X : Int → Int} {LX : Nat} {σ σ0 : Nat → Int} {K0 : gm_K} {R0 : gm_R} {M0 : gm_M} (hσ : ∀ s, s < 100 → σ s = σ0 s) : ck_Hy pg_O X LX 274 pg_s69.1.1 pg_s69.2.2.2.2.1 245 K0 R0 M0 (ck_Q pg_O σ0 pg_s69.2.2.2.2.1 245 K0 R0 M0 pg_s69.2.2.2.2.2) σ (147, pg_s69_C147, 0, 0, 245) := rl_147 pg_s69_u pg_s69_h hσ (by decide) (by decide +kernel) (by decide +kernel) ⟨by decide +kernel, by decide +kernel, by decide +kernel, by decide +kernel, by decide +kernel⟩ pg_s69_c (fun _ h => nomatch h)
theorem pg_s69_y111 {X : Int → Int} {LX : Nat} {σ σ0 : Nat → Int} {K0 : gm_K} {R0 : gm_R} {M0 : gm_M} (hσ : ∀ s, s < 100 → σ s = σ0 s) : ck_Hy pg_O X LX 274 pg_s69.1.1 pg_s69.2.2.2.2.1 245 K0 R0 M0 (ck_Q pg_O σ0 pg_s69.2.2.2.2.1 245 K0 R0 M0 pg_s69.2.2.2.2.2) σ (111, pg_s69_C111, 0, 0, 245) := rl_111 pg_s69_u pg_s69_h hσ (by decide) (by decide +kernel) ⟨by decide +kernel, by decide +kernel, by decide +kernel, by decide +kernel⟩ pg_s69_b (fun h hm => by
  rw [List.mem_singleton.mp hm]
  exact ⟨List.mem_cons_self, pg_s69_y147 hσ⟩)
theorem pg_s69_s {X : Int → Int} {LX : Nat} : ck_Ok pg_O X LX 274 pg_s69 := by
  refine ck_ok_st (cuts := pg_s69_Z) pg_s69_u pg_s69_h pg_s69_a (fun h hm => ?_)
  rcases List.mem_cons.mp hm with rfl | hm
  · exact ⟨List.mem_cons_self, fun σ K0 R0 M0 => pg_s69_y147 (fun _ _ => rfl)⟩
  rw [List.mem_singleton.mp hm]
  exact ⟨List.mem_cons_of_mem _ List.mem_cons_self, fun σ K0 R0 M0 => pg_s69_y111 (fun _ _ => rfl)⟩
set_option maxRecDepth 100000 in
/-- GlacierMailModel.readLine -/
def pg_s70 : ck_Sum := ((31, 0, 0), 245, [.inr (.inr (.inl 226)), .inl (ck_one 0), .inl (ck_one 1)], ([], [], [(0, 2, 2, ck_one 1), (0, 0, 0, (0, 400, [(30, 0)])), (0, 3, 3, ((-400), 400, [(31, 0)])), (0, 4, 4, ((-400), 400, [(32, 0)])), (0, 5, 5, (0, 400, [(33, 0)])), (0, 6, 6, (0, 1, [])), (226, 9, 9, (0, 400, [(1, 0)])), (226, 15, 15, (0, 400, [(2, 0)]))]), ([(0, 0, 6), (226, 9, 9), (226, 11, 12), (226, 15, 15), (227, 1249, 1252), (227, 1293, 2092)], []), [(.inr (some (.inl (ck_one 0))), 245, ([], [], [(0, 2, 2, ck_one 1), (0, 0, 0, (0, 400, [])), (0, 3, 3, (0, 400, [(1000033, 0)])), (0, 4, 4, ((-400), 400, [])), (0, 5, 5, (0, 400, [(1000033, 0)])), (0, 6, 6, (0, 1, [])), (226, 9, 9, (0, 400, [(1000001, 0)]))])), (.inr (some (.inl (ck_one 1))), 245, ([], [], [(0, 5, 5, (4, 400, [(1000033, 4)])), (226, 11, 11, (0, 400, [(1000001, 0)])), (0, 0, 0, ck_one 0), (0, 2, 2, ck_one 2), (0, 6, 6, ck_one 0), (0, 3, 3, (4, 400, [(1000033, 4)])), (0, 4, 4, ck_one 0), (226, 9, 9, (0, 400, [(1000001, 0)])), (226, 12, 12, ck_one 0), (227, 1250, 1250, (0, 20, [])), (227, 1249, 1249, (0, 2, []))]))])
set_option maxRecDepth 100000 in
theorem pg_s70_e : ck_ok pg_O none [] [(248, [pg_s3]), (274, [pg_s69])] 247 [] 102 pg_s70 = true := by decide +kernel
theorem pg_s70_s {X : Int → Int} {LX : Nat} : ck_Ok pg_O X LX 247 pg_s70 := ck_ok_s ⟨pg_nmu, ck_E1 (ck_S1 pg_s3_s ck_S0) (ck_E1 (ck_S1 pg_s69_s ck_S0) ck_E0)⟩ ck_X0 ck_l0 pg_s70_e
set_option maxRecDepth 100000 in
/-- GlacierMailModel.readLawLine -/
def pg_s71 : ck_Sum := ((30, 0, 0), 245, [.inr (.inr (.inl 226)), .inl (ck_one 2)], ([], [], [(0, 2, 2, ck_one 2), (0, 0, 0, (0, 400, [(30, 0)])), (0, 3, 3, ((-400), 400, [(31, 0)])), (0, 4, 4, ((-400), 400, [(32, 0)])), (0, 5, 5, (0, 400, [(33, 0)])), (0, 6, 6, (0, 1, [])), (226, 9, 9, (0, 400, [(1, 0)])), (226, 15, 15, (0, 400, [(2, 0)]))]), ([(0, 0, 6), (226, 9, 9), (226, 11, 12), (226, 15, 15), (227, 1253, 1256), (227, 1293, 2092)], []), [(.inr (some (.inl (ck_one 0))), 245, ([], [], [(0, 2, 2, ck_one 2), (0, 0, 0, (0, 400, [])), (0, 3, 3, ((-400), 400, [(1000031, 0)])), (0, 4, 4, ((-400), 400, [])), (0, 5, 5, (0, 400, [(1000033, 0)])), (0, 6, 6, (0, 1, [])), (226, 9, 9, (0, 400, [(1000001, 0)]))])), (.inr (some (.inl (ck_one 1))), 245, ([], [], [(0, 0, 0, ck_one 0), (0, 2, 2, ck_one 3), (0, 6, 6, ck_one 0), (0, 5, 5, (0, 400, [(1000033, 0), (1000031, 4)])), (226, 11, 11, (0, 400, [(1000001, 0)])), (0, 3, 3, (0, 400, [(1000033, 0), (1000031, 4)])), (0, 4, 4, ck_one 0), (226, 9, 9, (0, 400, [(1000001, 0)])), (226, 12, 12, ck_one 0), (227, 1254, 1254, (0, 20, [])), (227, 1253, 1253, (0, 2, []))]))])
def pg_s71_E : List (Nat × List ck_Sum) := [(250, [pg_s4, pg_s5, pg_s6]), (256, [pg_s8]), (269, [pg_s10]), (275, [pg_s66])]
set_option maxRecDepth 100000 in
def pg_s71_F111 : ck_F := ([], [], [(0, 5, 5, (0, 400, [(1000033, 0), (1000031, 4)])), (226, 11, 11, (0, 399, [])), (227, 1254, 1254, (0, 20, [])), (227, 1253, 1253, (0, 2, [])), (0, 4, 4, (1, 4, [])), (0, 2, 2, ck_one 2), (0, 0, 0, (0, 400, [(30, 0)])), (0, 3, 3, ((-400), 400, [(1000031, 0)])), (0, 6, 6, (0, 1, [])), (226, 9, 9, (0, 400, [(1000001, 0)])), (226, 15, 15, (0, 400, [(2, 0)]))])
def pg_s71_C111 : ck_C := (rl_A 2, pg_s71_F111, 0, .inl 2, true)
set_option maxRecDepth 100000 in
def pg_s71_F147 : ck_F := ([], [], [(0, 5, 5, (0, 400, [(1000033, 0), (1000031, 4)])), (226, 11, 11, (0, 400, [(1000001, 0)])), (0, 3, 3, (0, 400, [(1000033, 0), (1000031, 4)])), (0, 4, 4, ck_one 0), (226, 9, 9, (0, 400, [(1000001, 0)])), (226, 12, 12, ck_one 0), (0, 0, 0, (0, 1, [])), (0, 6, 6, ck_one 1), (227, 1254, 1254, (0, 20, [])), (227, 1253, 1253, (0, 2, [])), (0, 2, 2, ck_one 2), (226, 15, 15, (0, 400, []))])
def pg_s71_C147 : ck_C := (rl_A 2, pg_s71_F147, 0, .inl 2, true)
def pg_s71_Z : List (Nat × ck_C) := [(147, pg_s71_C147), (111, pg_s71_C111)]
set_option maxRecDepth 100000 in
theorem pg_s71_a : (decide (pg_s71.2.2.1.length ≤ gm_ml 274) && ck_go pg_O none [] pg_s71_E 274 pg_s71.1.1 pg_s71.2.1 pg_s71.2.2.2.2.1 pg_s71.2.2.2.2.2 pg_s71_Z 416 false [(147, pg_s71_C147, 0, 0, 245), (111, pg_s71_C111, 0, 0, 245)] pg_s71.1.2.1 pg_s71.1.2.2 0 (pg_s71.2.2.1.map some ++ List.replicate (gm_ml 274 - pg_s71.2.2.1.length) none) [] pg_s71.2.1 pg_s71.2.2.2.1) = true := by decide +kernel
set_option maxRecDepth 100000 in
theorem pg_s71_b : ck_go pg_O none [] pg_s71_E 274 pg_s71.1.1 245 pg_s71.2.2.2.2.1 pg_s71.2.2.2.2.2 pg_s71_Z 416 false [(147, pg_s71_C147, 0, 0, 245)] 0 0 123 (rl_A 2) [] 245 (rl_F1 2 pg_s71_F111) = true := by decide +kernel
set_option maxRecDepth 100000 in
theorem pg_s71_c : ck_go pg_O none [] pg_s71_E 274 pg_s71.1.1 245 pg_s71.2.2.2.2.1 pg_s71.2.2.2.2.2 pg_s71_Z 416 false [] 0 0 159 (rl_A 2) [] 245 (rl_F2 2 pg_s71_F147) = true := by decide +kernel
theorem pg_s71_u : ck_cu pg_s71_Z = true := by decide +kernel
theorem pg_s71_h {X : Int → Int} {LX : Nat} : ck_nmu pg_O ∧ ck_OkE pg_O X LX pg_s71_E := ⟨pg_nmu, ck_E1 (ck_S1 pg_s4_s (ck_S1 pg_s5_s (ck_S1 pg_s6_s ck_S0))) (ck_E1 (ck_S1 pg_s8_s ck_S0) (ck_E1 (ck_S1 pg_s10_s ck_S0) (ck_E1 (ck_S1 pg_s66_s ck_S0) ck_E0)))⟩
theorem pg_s71_y147 {X : Int → Int} {LX : Nat} {σ σ0 : Nat → Int} {K0 : gm_K} {R0 : gm_R} {M0 : gm_M} (hσ : ∀ s, s < 100 → σ s = σ0 s) : ck_Hy pg_O X LX 274 pg_s71.1.1 pg_s71.2.2.2.2.1 245 K0 R0 M0 (ck_Q pg_O σ0 pg_s71.2.2.2.2.1 245 K0 R0 M0 pg_s71.2.2.2.2.2) σ (147, pg_s71_C147, 0, 0, 245) := rl_147 pg_s71_u pg_s71_h hσ (by decide) (by decide +kernel) (by decide +kernel) ⟨by decide +kernel, by decide +kernel, by decide +kernel, by decide +kernel, by decide +kernel⟩ pg_s71_c (fun _ h => nomatch h)
theorem pg_s71_y111 {X : Int → Int} {LX : Nat} {σ σ0 : Nat → Int} {K0 : gm_K} {R0 : gm_R} {M0 : gm_M} (hσ : ∀ s, s < 100 → σ s = σ0 s) : ck_Hy pg_O X LX 274 pg_s71.1.1 pg_s71.2.2.2.2.1 245 K0 R0 M0 (ck_Q pg_O σ0 pg_s71.2.2.2.2.1 245 K0 R0 M0 pg_s71.2.2.2.2.2) σ (111, pg_s71_C111, 0, 0, 245) := rl_111 pg_s71_u pg_s71_h hσ (by decide) (by decide +kernel) ⟨by decide +kernel, by decide +kernel, by decide +kernel, by decide +kernel⟩ pg_s71_b (fun h hm => by
  rw [List.mem_singleton.mp hm]
  exact ⟨List.mem_cons_self, pg_s71_y147 hσ⟩)
theorem pg_s71_s {X : Int → Int} {LX : Nat} : ck_Ok pg_O X LX 274 pg_s71 := by
  refine ck_ok_st (cuts := pg_s71_Z) pg_s71_u pg_s71_h pg_s71_a (fun h hm => ?_)
  rcases List.mem_cons.mp hm with rfl | hm
  · exact ⟨List.mem_cons_self, fun σ K0 R0 M0 => pg_s71_y147 (fun _ _ => rfl)⟩
  rw [List.mem_singleton.mp hm]
  exact ⟨List.mem_cons_of_mem _ List.mem_cons_self, fun σ K0 R0 M0 => pg_s71_y111 (fun _ _ => rfl)⟩
set_option maxRecDepth 100000 in
/-- GlacierMailModel.readLine -/
def pg_s72 : ck_Sum := ((31, 0, 0), 245, [.inr (.inr (.inl 226)), .inl (ck_one 0), .inl (ck_one 2)], ([], [], [(0, 2, 2, ck_one 2), (0, 0, 0, (0, 400, [(30, 0)])), (0, 3, 3, ((-400), 400, [(31, 0)])), (0, 4, 4, ((-400), 400, [(32, 0)])), (0, 5, 5, (0, 400, [(33, 0)])), (0, 6, 6, (0, 1, [])), (226, 9, 9, (0, 400, [(1, 0)])), (226, 15, 15, (0, 400, [(2, 0)]))]), ([(0, 0, 6), (226, 9, 9), (226, 11, 12), (226, 15, 15), (227, 1253, 1256), (227, 1293, 2092)], []), [(.inr (some (.inl (ck_one 0))), 245, ([], [], [(0, 2, 2, ck_one 2), (0, 0, 0, (0, 400, [])), (0, 3, 3, (0, 400, [(1000033, 0)])), (0, 4, 4, ((-400), 400, [])), (0, 5, 5, (0, 400, [(1000033, 0)])), (0, 6, 6, (0, 1, [])), (226, 9, 9, (0, 400, [(1000001, 0)]))])), (.inr (some (.inl (ck_one 1))), 245, ([], [], [(0, 5, 5, (4, 400, [(1000033, 4)])), (226, 11, 11, (0, 400, [(1000001, 0)])), (0, 0, 0, ck_one 0), (0, 2, 2, ck_one 3), (0, 6, 6, ck_one 0), (0, 3, 3, (4, 400, [(1000033, 4)])), (0, 4, 4, ck_one 0), (226, 9, 9, (0, 400, [(1000001, 0)])), (226, 12, 12, ck_one 0), (227, 1254, 1254, (0, 20, [])), (227, 1253, 1253, (0, 2, []))]))])
set_option maxRecDepth 100000 in
theorem pg_s72_e : ck_ok pg_O none [] [(248, [pg_s3]), (274, [pg_s71])] 247 [] 102 pg_s72 = true := by decide +kernel
theorem pg_s72_s {X : Int → Int} {LX : Nat} : ck_Ok pg_O X LX 247 pg_s72 := ck_ok_s ⟨pg_nmu, ck_E1 (ck_S1 pg_s3_s ck_S0) (ck_E1 (ck_S1 pg_s71_s ck_S0) ck_E0)⟩ ck_X0 ck_l0 pg_s72_e
set_option maxRecDepth 100000 in
/-- GlacierMailModel.readLawLine -/
def pg_s73 : ck_Sum := ((30, 0, 0), 245, [.inr (.inr (.inl 226)), .inl (ck_one 3)], ([], [], [(0, 2, 2, ck_one 3), (0, 0, 0, (0, 400, [(30, 0)])), (0, 3, 3, ((-400), 400, [(31, 0)])), (0, 4, 4, ((-400), 400, [(32, 0)])), (0, 5, 5, (0, 400, [(33, 0)])), (0, 6, 6, (0, 1, [])), (226, 9, 9, (0, 400, [(1, 0)])), (226, 15, 15, (0, 400, [(2, 0)]))]), ([(0, 0, 6), (226, 9, 9), (226, 11, 12), (226, 15, 15), (227, 1257, 1260), (227, 1293, 2092)], []), [(.inr (some (.inl (ck_one 0))), 245, ([], [], [(0, 2, 2, ck_one 3), (0, 0, 0, (0, 400, [])), (0, 3, 3, ((-400), 400, [(1000031, 0)])), (0, 4, 4, ((-400), 400, [])), (0, 5, 5, (0, 400, [(1000033, 0)])), (0, 6, 6, (0, 1, [])), (226, 9, 9, (0, 400, [(1000001, 0)]))])), (.inr (some (.inl (ck_one 1))), 245, ([], [], [(0, 0, 0, ck_one 0), (0, 2, 2, ck_one 4), (0, 6, 6, ck_one 0), (0, 5, 5, (0, 400, [(1000033, 0), (1000031, 4)])), (226, 11, 11, (0, 400, [(1000001, 0)])), (0, 3, 3, (0, 400, [(1000033, 0), (1000031, 4)])), (0, 4, 4, ck_one 0), (226, 9, 9, (0, 400, [(1000001, 0)])), (226, 12, 12, ck_one 0), (227, 1258, 1258, (0, 20, [])), (227, 1257, 1257, (0, 2, []))]))])
def pg_s73_E : List (Nat × List ck_Sum) := [(250, [pg_s4, pg_s5, pg_s6]), (256, [pg_s8]), (269, [pg_s10]), (275, [pg_s66])]
set_option maxRecDepth 100000 in
def pg_s73_F111 : ck_F := ([], [], [(0, 5, 5, (0, 400, [(1000033, 0), (1000031, 4)])), (226, 11, 11, (0, 399, [])), (227, 1258, 1258, (0, 20, [])), (227, 1257, 1257, (0, 2, [])), (0, 4, 4, (1, 4, [])), (0, 2, 2, ck_one 3), (0, 0, 0, (0, 400, [(30, 0)])), (0, 3, 3, ((-400), 400, [(1000031, 0)])), (0, 6, 6, (0, 1, [])), (226, 9, 9, (0, 400, [(1000001, 0)])), (226, 15, 15, (0, 400, [(2, 0)]))])
def pg_s73_C111 : ck_C := (rl_A 3, pg_s73_F111, 0, .inl 2, true)
set_option maxRecDepth 100000 in
def pg_s73_F147 : ck_F := ([], [], [(0, 5, 5, (0, 400, [(1000033, 0), (1000031, 4)])), (226, 11, 11, (0, 400, [(1000001, 0)])), (0, 3, 3, (0, 400, [(1000033, 0), (1000031, 4)])), (0, 4, 4, ck_one 0), (226, 9, 9, (0, 400, [(1000001, 0)])), (226, 12, 12, ck_one 0), (0, 0, 0, (0, 1, [])), (0, 6, 6, ck_one 1), (227, 1258, 1258, (0, 20, [])), (227, 1257, 1257, (0, 2, [])), (0, 2, 2, ck_one 3), (226, 15, 15, (0, 400, []))])
def pg_s73_C147 : ck_C := (rl_A 3, pg_s73_F147, 0, .inl 2, true)
def pg_s73_Z : List (Nat × ck_C) := [(147, pg_s73_C147), (111, pg_s73_C111)]
set_option maxRecDepth 100000 in
theorem pg_s73_a : (decide (pg_s73.2.2.1.length ≤ gm_ml 274) && ck_go pg_O none [] pg_s73_E 274 pg_s73.1.1 pg_s73.2.1 pg_s73.2.2.2.2.1 pg_s73.2.2.2.2.2 pg_s73_Z 416 false [(147, pg_s73_C147, 0, 0, 245), (111, pg_s73_C111, 0, 0, 245)] pg_s73.1.2.1 pg_s73.1.2.2 0 (pg_s73.2.2.1.map some ++ List.replicate (gm_ml 274 - pg_s73.2.2.1.length) none) [] pg_s73.2.1 pg_s73.2.2.2.1) = true := by decide +kernel
set_option maxRecDepth 100000 in
theorem pg_s73_b : ck_go pg_O none [] pg_s73_E 274 pg_s73.1.1 245 pg_s73.2.2.2.2.1 pg_s73.2.2.2.2.2 pg_s73_Z 416 false [(147, pg_s73_C147, 0, 0, 245)] 0 0 123 (rl_A 3) [] 245 (rl_F1 3 pg_s73_F111) = true := by decide +kernel
set_option maxRecDepth 100000 in
theorem pg_s73_c : ck_go pg_O none [] pg_s73_E 274 pg_s73.1.1 245 pg_s73.2.2.2.2.1 pg_s73.2.2.2.2.2 pg_s73_Z 416 false [] 0 0 159 (rl_A 3) [] 245 (rl_F2 3 pg_s73_F147) = true := by decide +kernel
theorem pg_s73_u : ck_cu pg_s73_Z = true := by decide +kernel
theorem pg_s73_h {X : Int → Int} {LX : Nat} : ck_nmu pg_O ∧ ck_OkE pg_O X LX pg_s73_E := ⟨pg_nmu, ck_E1 (ck_S1 pg_s4_s (ck_S1 pg_s5_s (ck_S1 pg_s6_s ck_S0))) (ck_E1 (ck_S1 pg_s8_s ck_S0) (ck_E1 (ck_S1 pg_s10_s ck_S0) (ck_E1 (ck_S1 pg_s66_s ck_S0) ck_E0)))⟩
theorem pg_s73_y147 {X : Int → Int} {LX : Nat} {σ σ0 : Nat → Int} {K0 : gm_K} {R0 : gm_R} {M0 : gm_M} (hσ : ∀ s, s < 100 → σ s = σ0 s) : ck_Hy pg_O X LX 274 pg_s73.1.1 pg_s73.2.2.2.2.1 245 K0 R0 M0 (ck_Q pg_O σ0 pg_s73.2.2.2.2.1 245 K0 R0 M0 pg_s73.2.2.2.2.2) σ (147, pg_s73_C147, 0, 0, 245) := rl_147 pg_s73_u pg_s73_h hσ (by decide) (by decide +kernel) (by decide +kernel) ⟨by decide +kernel, by decide +kernel, by decide +kernel, by decide +kernel, by decide +kernel⟩ pg_s73_c (fun _ h => nomatch h)
theorem pg_s73_y111 {X : Int → Int} {LX : Nat} {σ σ0 : Nat → Int} {K0 : gm_K} {R0 : gm_R} {M0 : gm_M} (hσ : ∀ s, s < 100 → σ s = σ0 s) : ck_Hy pg_O X LX 274 pg_s73.1.1 pg_s73.2.2.2.2.1 245 K0 R0 M0 (ck_Q pg_O σ0 pg_s73.2.2.2.2.1 245 K0 R0 M0 pg_s73.2.2.2.2.2) σ (111, pg_s73_C111, 0, 0, 245) := rl_111 pg_s73_u pg_s73_h hσ (by decide) (by decide +kernel) ⟨by decide +kernel, by decide +kernel, by decide +kernel, by decide +kernel⟩ pg_s73_b (fun h hm => by
  rw [List.mem_singleton.mp hm]
  exact ⟨List.mem_cons_self, pg_s73_y147 hσ⟩)
theorem pg_s73_s {X : Int → Int} {LX : Nat} : ck_Ok pg_O X LX 274 pg_s73 := by
  refine ck_ok_st (cuts := pg_s73_Z) pg_s73_u pg_s73_h pg_s73_a (fun h hm => ?_)
  rcases List.mem_cons.mp hm with rfl | hm
  · exact ⟨List.mem_cons_self, fun σ K0 R0 M0 => pg_s73_y147 (fun _ _ => rfl)⟩
  rw [List.mem_singleton.mp hm]
  exact ⟨List.mem_cons_of_mem _ List.mem_cons_self, fun σ K0 R0 M0 => pg_s73_y111 (fun _ _ => rfl)⟩
set_option maxRecDepth 100000 in
/-- GlacierMailModel.readLine -/
def pg_s74 : ck_Sum := ((31, 0, 0), 245, [.inr (.inr (.inl 226)), .inl (ck_one 0), .inl (ck_one 3)], ([], [], [(0, 2, 2, ck_one 3), (0, 0, 0, (0, 400, [(30, 0)])), (0, 3, 3, ((-400), 400, [(31, 0)])), (0, 4, 4, ((-400), 400, [(32, 0)])), (0, 5, 5, (0, 400, [(33, 0)])), (0, 6, 6, (0, 1, [])), (226, 9, 9, (0, 400, [(1, 0)])), (226, 15, 15, (0, 400, [(2, 0)]))]), ([(0, 0, 6), (226, 9, 9), (226, 11, 12), (226, 15, 15), (227, 1257, 1260), (227, 1293, 2092)], []), [(.inr (some (.inl (ck_one 0))), 245, ([], [], [(0, 2, 2, ck_one 3), (0, 0, 0, (0, 400, [])), (0, 3, 3, (0, 400, [(1000033, 0)])), (0, 4, 4, ((-400), 400, [])), (0, 5, 5, (0, 400, [(1000033, 0)])), (0, 6, 6, (0, 1, [])), (226, 9, 9, (0, 400, [(1000001, 0)]))])), (.inr (some (.inl (ck_one 1))), 245, ([], [], [(0, 5, 5, (4, 400, [(1000033, 4)])), (226, 11, 11, (0, 400, [(1000001, 0)])), (0, 0, 0, ck_one 0), (0, 2, 2, ck_one 4), (0, 6, 6, ck_one 0), (0, 3, 3, (4, 400, [(1000033, 4)])), (0, 4, 4, ck_one 0), (226, 9, 9, (0, 400, [(1000001, 0)])), (226, 12, 12, ck_one 0), (227, 1258, 1258, (0, 20, [])), (227, 1257, 1257, (0, 2, []))]))])
set_option maxRecDepth 100000 in
theorem pg_s74_e : ck_ok pg_O none [] [(248, [pg_s3]), (274, [pg_s73])] 247 [] 102 pg_s74 = true := by decide +kernel
theorem pg_s74_s {X : Int → Int} {LX : Nat} : ck_Ok pg_O X LX 247 pg_s74 := ck_ok_s ⟨pg_nmu, ck_E1 (ck_S1 pg_s3_s ck_S0) (ck_E1 (ck_S1 pg_s73_s ck_S0) ck_E0)⟩ ck_X0 ck_l0 pg_s74_e
set_option maxRecDepth 100000 in
/-- GlacierMailModel.readLawLine -/
def pg_s75 : ck_Sum := ((30, 0, 0), 245, [.inr (.inr (.inl 226)), .inl (ck_one 4)], ([], [], [(0, 2, 2, ck_one 4), (0, 0, 0, (0, 400, [(30, 0)])), (0, 3, 3, ((-400), 400, [(31, 0)])), (0, 4, 4, ((-400), 400, [(32, 0)])), (0, 5, 5, (0, 400, [(33, 0)])), (0, 6, 6, (0, 1, [])), (226, 9, 9, (0, 400, [(1, 0)])), (226, 15, 15, (0, 400, [(2, 0)]))]), ([(0, 0, 6), (226, 9, 9), (226, 11, 12), (226, 15, 15), (227, 1261, 1264), (227, 1293, 2092)], []), [(.inr (some (.inl (ck_one 0))), 245, ([], [], [(0, 2, 2, ck_one 4), (0, 0, 0, (0, 400, [])), (0, 3, 3, ((-400), 400, [(1000031, 0)])), (0, 4, 4, ((-400), 400, [])), (0, 5, 5, (0, 400, [(1000033, 0)])), (0, 6, 6, (0, 1, [])), (226, 9, 9, (0, 400, [(1000001, 0)]))])), (.inr (some (.inl (ck_one 1))), 245, ([], [], [(0, 0, 0, ck_one 0), (0, 2, 2, ck_one 5), (0, 6, 6, ck_one 0), (0, 5, 5, (0, 400, [(1000033, 0), (1000031, 4)])), (226, 11, 11, (0, 400, [(1000001, 0)])), (0, 3, 3, (0, 400, [(1000033, 0), (1000031, 4)])), (0, 4, 4, ck_one 0), (226, 9, 9, (0, 400, [(1000001, 0)])), (226, 12, 12, ck_one 0), (227, 1262, 1262, (0, 20, [])), (227, 1261, 1261, (0, 2, []))]))])
def pg_s75_E : List (Nat × List ck_Sum) := [(250, [pg_s4, pg_s5, pg_s6]), (256, [pg_s8]), (269, [pg_s10]), (275, [pg_s66])]
set_option maxRecDepth 100000 in
def pg_s75_F111 : ck_F := ([], [], [(0, 5, 5, (0, 400, [(1000033, 0), (1000031, 4)])), (226, 11, 11, (0, 399, [])), (227, 1262, 1262, (0, 20, [])), (227, 1261, 1261, (0, 2, [])), (0, 4, 4, (1, 4, [])), (0, 2, 2, ck_one 4), (0, 0, 0, (0, 400, [(30, 0)])), (0, 3, 3, ((-400), 400, [(1000031, 0)])), (0, 6, 6, (0, 1, [])), (226, 9, 9, (0, 400, [(1000001, 0)])), (226, 15, 15, (0, 400, [(2, 0)]))])
def pg_s75_C111 : ck_C := (rl_A 4, pg_s75_F111, 0, .inl 2, true)
set_option maxRecDepth 100000 in
def pg_s75_F147 : ck_F := ([], [], [(0, 5, 5, (0, 400, [(1000033, 0), (1000031, 4)])), (226, 11, 11, (0, 400, [(1000001, 0)])), (0, 3, 3, (0, 400, [(1000033, 0), (1000031, 4)])), (0, 4, 4, ck_one 0), (226, 9, 9, (0, 400, [(1000001, 0)])), (226, 12, 12, ck_one 0), (0, 0, 0, (0, 1, [])), (0, 6, 6, ck_one 1), (227, 1262, 1262, (0, 20, [])), (227, 1261, 1261, (0, 2, [])), (0, 2, 2, ck_one 4), (226, 15, 15, (0, 400, []))])
def pg_s75_C147 : ck_C := (rl_A 4, pg_s75_F147, 0, .inl 2, true)
def pg_s75_Z : List (Nat × ck_C) := [(147, pg_s75_C147), (111, pg_s75_C111)]
set_option maxRecDepth 100000 in
theorem pg_s75_a : (decide (pg_s75.2.2.1.length ≤ gm_ml 274) && ck_go pg_O none [] pg_s75_E 274 pg_s75.1.1 pg_s75.2.1 pg_s75.2.2.2.2.1 pg_s75.2.2.2.2.2 pg_s75_Z 416 false [(147, pg_s75_C147, 0, 0, 245), (111, pg_s75_C111, 0, 0, 245)] pg_s75.1.2.1 pg_s75.1.2.2 0 (pg_s75.2.2.1.map some ++ List.replicate (gm_ml 274 - pg_s75.2.2.1.length) none) [] pg_s75.2.1 pg_s75.2.2.2.1) = true := by decide +kernel
set_option maxRecDepth 100000 in
theorem pg_s75_b : ck_go pg_O none [] pg_s75_E 274 pg_s75.1.1 245 pg_s75.2.2.2.2.1 pg_s75.2.2.2.2.2 pg_s75_Z 416 false [(147, pg_s75_C147, 0, 0, 245)] 0 0 123 (rl_A 4) [] 245 (rl_F1 4 pg_s75_F111) = true := by decide +kernel
set_option maxRecDepth 100000 in
theorem pg_s75_c : ck_go pg_O none [] pg_s75_E 274 pg_s75.1.1 245 pg_s75.2.2.2.2.1 pg_s75.2.2.2.2.2 pg_s75_Z 416 false [] 0 0 159 (rl_A 4) [] 245 (rl_F2 4 pg_s75_F147) = true := by decide +kernel
theorem pg_s75_u : ck_cu pg_s75_Z = true := by decide +kernel
theorem pg_s75_h {X : Int → Int} {LX : Nat} : ck_nmu pg_O ∧ ck_OkE pg_O X LX pg_s75_E := ⟨pg_nmu, ck_E1 (ck_S1 pg_s4_s (ck_S1 pg_s5_s (ck_S1 pg_s6_s ck_S0))) (ck_E1 (ck_S1 pg_s8_s ck_S0) (ck_E1 (ck_S1 pg_s10_s ck_S0) (ck_E1 (ck_S1 pg_s66_s ck_S0) ck_E0)))⟩
theorem pg_s75_y147 {X : Int → Int} {LX : Nat} {σ σ0 : Nat → Int} {K0 : gm_K} {R0 : gm_R} {M0 : gm_M} (hσ : ∀ s, s < 100 → σ s = σ0 s) : ck_Hy pg_O X LX 274 pg_s75.1.1 pg_s75.2.2.2.2.1 245 K0 R0 M0 (ck_Q pg_O σ0 pg_s75.2.2.2.2.1 245 K0 R0 M0 pg_s75.2.2.2.2.2) σ (147, pg_s75_C147, 0, 0, 245) := rl_147 pg_s75_u pg_s75_h hσ (by decide) (by decide +kernel) (by decide +kernel) ⟨by decide +kernel, by decide +kernel, by decide +kernel, by decide +kernel, by decide +kernel⟩ pg_s75_c (fun _ h => nomatch h)
theorem pg_s75_y111 {X : Int → Int} {LX : Nat} {σ σ0 : Nat → Int} {K0 : gm_K} {R0 : gm_R} {M0 : gm_M} (hσ : ∀ s, s < 100 → σ s = σ0 s) : ck_Hy pg_O X LX 274 pg_s75.1.1 pg_s75.2.2.2.2.1 245 K0 R0 M0 (ck_Q pg_O σ0 pg_s75.2.2.2.2.1 245 K0 R0 M0 pg_s75.2.2.2.2.2) σ (111, pg_s75_C111, 0, 0, 245) := rl_111 pg_s75_u pg_s75_h hσ (by decide) (by decide +kernel) ⟨by decide +kernel, by decide +kernel, by decide +kernel, by decide +kernel⟩ pg_s75_b (fun h hm => by
  rw [List.mem_singleton.mp hm]
  exact ⟨List.mem_cons_self, pg_s75_y147 hσ⟩)
theorem pg_s75_s {X : Int → Int} {LX : Nat} : ck_Ok pg_O X LX 274 pg_s75 := by
  refine ck_ok_st (cuts := pg_s75_Z) pg_s75_u pg_s75_h pg_s75_a (fun h hm => ?_)
  rcases List.mem_cons.mp hm with rfl | hm
  · exact ⟨List.mem_cons_self, fun σ K0 R0 M0 => pg_s75_y147 (fun _ _ => rfl)⟩
  rw [List.mem_singleton.mp hm]
  exact ⟨List.mem_cons_of_mem _ List.mem_cons_self, fun σ K0 R0 M0 => pg_s75_y111 (fun _ _ => rfl)⟩
set_option maxRecDepth 100000 in
/-- GlacierMailModel.readLine -/
def pg_s76 : ck_Sum := ((31, 0, 0), 245, [.inr (.inr (.inl 226)), .inl (ck_one 0), .inl (ck_one 4)], ([], [], [(0, 2, 2, ck_one 4), (0, 0, 0, (0, 400, [(30, 0)])), (0, 3, 3, ((-400), 400, [(31, 0)])), (0, 4, 4, ((-400), 400, [(32, 0)])), (0, 5, 5, (0, 400, [(33, 0)])), (0, 6, 6, (0, 1, [])), (226, 9, 9, (0, 400, [(1, 0)])), (226, 15, 15, (0, 400, [(2, 0)]))]), ([(0, 0, 6), (226, 9, 9), (226, 11, 12), (226, 15, 15), (227, 1261, 1264), (227, 1293, 2092)], []), [(.inr (some (.inl (ck_one 0))), 245, ([], [], [(0, 2, 2, ck_one 4), (0, 0, 0, (0, 400, [])), (0, 3, 3, (0, 400, [(1000033, 0)])), (0, 4, 4, ((-400), 400, [])), (0, 5, 5, (0, 400, [(1000033, 0)])), (0, 6, 6, (0, 1, [])), (226, 9, 9, (0, 400, [(1000001, 0)]))])), (.inr (some (.inl (ck_one 1))), 245, ([], [], [(0, 5, 5, (4, 400, [(1000033, 4)])), (226, 11, 11, (0, 400, [(1000001, 0)])), (0, 0, 0, ck_one 0), (0, 2, 2, ck_one 5), (0, 6, 6, ck_one 0), (0, 3, 3, (4, 400, [(1000033, 4)])), (0, 4, 4, ck_one 0), (226, 9, 9, (0, 400, [(1000001, 0)])), (226, 12, 12, ck_one 0), (227, 1262, 1262, (0, 20, [])), (227, 1261, 1261, (0, 2, []))]))])
set_option maxRecDepth 100000 in
theorem pg_s76_e : ck_ok pg_O none [] [(248, [pg_s3]), (274, [pg_s75])] 247 [] 102 pg_s76 = true := by decide +kernel
theorem pg_s76_s {X : Int → Int} {LX : Nat} : ck_Ok pg_O X LX 247 pg_s76 := ck_ok_s ⟨pg_nmu, ck_E1 (ck_S1 pg_s3_s ck_S0) (ck_E1 (ck_S1 pg_s75_s ck_S0) ck_E0)⟩ ck_X0 ck_l0 pg_s76_e
set_option maxRecDepth 100000 in
/-- GlacierMailModel.readLawLine -/
def pg_s77 : ck_Sum := ((30, 0, 0), 245, [.inr (.inr (.inl 226)), .inl (ck_one 5)], ([], [], [(0, 2, 2, ck_one 5), (0, 0, 0, (0, 400, [(30, 0)])), (0, 3, 3, ((-400), 400, [(31, 0)])), (0, 4, 4, ((-400), 400, [(32, 0)])), (0, 5, 5, (0, 400, [(33, 0)])), (0, 6, 6, (0, 1, [])), (226, 9, 9, (0, 400, [(1, 0)])), (226, 15, 15, (0, 400, [(2, 0)]))]), ([(0, 0, 6), (226, 9, 9), (226, 11, 12), (226, 15, 15), (227, 1265, 1268), (227, 1293, 2092)], []), [(.inr (some (.inl (ck_one 0))), 245, ([], [], [(0, 2, 2, ck_one 5), (0, 0, 0, (0, 400, [])), (0, 3, 3, ((-400), 400, [(1000031, 0)])), (0, 4, 4, ((-400), 400, [])), (0, 5, 5, (0, 400, [(1000033, 0)])), (0, 6, 6, (0, 1, [])), (226, 9, 9, (0, 400, [(1000001, 0)]))])), (.inr (some (.inl (ck_one 1))), 245, ([], [], [(0, 0, 0, ck_one 0), (0, 2, 2, ck_one 6), (0, 6, 6, ck_one 0), (0, 5, 5, (0, 400, [(1000033, 0), (1000031, 4)])), (226, 11, 11, (0, 400, [(1000001, 0)])), (0, 3, 3, (0, 400, [(1000033, 0), (1000031, 4)])), (0, 4, 4, ck_one 0), (226, 9, 9, (0, 400, [(1000001, 0)])), (226, 12, 12, ck_one 0), (227, 1266, 1266, (0, 20, [])), (227, 1265, 1265, (0, 2, []))]))])
def pg_s77_E : List (Nat × List ck_Sum) := [(250, [pg_s4, pg_s5, pg_s6]), (256, [pg_s8]), (269, [pg_s10]), (275, [pg_s66])]
set_option maxRecDepth 100000 in
def pg_s77_F111 : ck_F := ([], [], [(0, 5, 5, (0, 400, [(1000033, 0), (1000031, 4)])), (226, 11, 11, (0, 399, [])), (227, 1266, 1266, (0, 20, [])), (227, 1265, 1265, (0, 2, [])), (0, 4, 4, (1, 4, [])), (0, 2, 2, ck_one 5), (0, 0, 0, (0, 400, [(30, 0)])), (0, 3, 3, ((-400), 400, [(1000031, 0)])), (0, 6, 6, (0, 1, [])), (226, 9, 9, (0, 400, [(1000001, 0)])), (226, 15, 15, (0, 400, [(2, 0)]))])
def pg_s77_C111 : ck_C := (rl_A 5, pg_s77_F111, 0, .inl 2, true)
set_option maxRecDepth 100000 in
def pg_s77_F147 : ck_F := ([], [], [(0, 5, 5, (0, 400, [(1000033, 0), (1000031, 4)])), (226, 11, 11, (0, 400, [(1000001, 0)])), (0, 3, 3, (0, 400, [(1000033, 0), (1000031, 4)])), (0, 4, 4, ck_one 0), (226, 9, 9, (0, 400, [(1000001, 0)])), (226, 12, 12, ck_one 0), (0, 0, 0, (0, 1, [])), (0, 6, 6, ck_one 1), (227, 1266, 1266, (0, 20, [])), (227, 1265, 1265, (0, 2, [])), (0, 2, 2, ck_one 5), (226, 15, 15, (0, 400, []))])
def pg_s77_C147 : ck_C := (rl_A 5, pg_s77_F147, 0, .inl 2, true)
def pg_s77_Z : List (Nat × ck_C) := [(147, pg_s77_C147), (111, pg_s77_C111)]
set_option maxRecDepth 100000 in
theorem pg_s77_a : (decide (pg_s77.2.2.1.length ≤ gm_ml 274) && ck_go pg_O none [] pg_s77_E 274 pg_s77.1.1 pg_s77.2.1 pg_s77.2.2.2.2.1 pg_s77.2.2.2.2.2 pg_s77_Z 416 false [(147, pg_s77_C147, 0, 0, 245), (111, pg_s77_C111, 0, 0, 245)] pg_s77.1.2.1 pg_s77.1.2.2 0 (pg_s77.2.2.1.map some ++ List.replicate (gm_ml 274 - pg_s77.2.2.1.length) none) [] pg_s77.2.1 pg_s77.2.2.2.1) = true := by decide +kernel
set_option maxRecDepth 100000 in
theorem pg_s77_b : ck_go pg_O none [] pg_s77_E 274 pg_s77.1.1 245 pg_s77.2.2.2.2.1 pg_s77.2.2.2.2.2 pg_s77_Z 416 false [(147, pg_s77_C147, 0, 0, 245)] 0 0 123 (rl_A 5) [] 245 (rl_F1 5 pg_s77_F111) = true := by decide +kernel
set_option maxRecDepth 100000 in
theorem pg_s77_c : ck_go pg_O none [] pg_s77_E 274 pg_s77.1.1 245 pg_s77.2.2.2.2.1 pg_s77.2.2.2.2.2 pg_s77_Z 416 false [] 0 0 159 (rl_A 5) [] 245 (rl_F2 5 pg_s77_F147) = true := by decide +kernel
theorem pg_s77_u : ck_cu pg_s77_Z = true := by decide +kernel
theorem pg_s77_h {X : Int → Int} {LX : Nat} : ck_nmu pg_O ∧ ck_OkE pg_O X LX pg_s77_E := ⟨pg_nmu, ck_E1 (ck_S1 pg_s4_s (ck_S1 pg_s5_s (ck_S1 pg_s6_s ck_S0))) (ck_E1 (ck_S1 pg_s8_s ck_S0) (ck_E1 (ck_S1 pg_s10_s ck_S0) (ck_E1 (ck_S1 pg_s66_s ck_S0) ck_E0)))⟩
theorem pg_s77_y147 {X : Int → Int} {LX : Nat} {σ σ0 : Nat → Int} {K0 : gm_K} {R0 : gm_R} {M0 : gm_M} (hσ : ∀ s, s < 100 → σ s = σ0 s) : ck_Hy pg_O X LX 274 pg_s77.1.1 pg_s77.2.2.2.2.1 245 K0 R0 M0 (ck_Q pg_O σ0 pg_s77.2.2.2.2.1 245 K0 R0 M0 pg_s77.2.2.2.2.2) σ (147, pg_s77_C147, 0, 0, 245) := rl_147 pg_s77_u pg_s77_h hσ (by decide) (by decide +kernel) (by decide +kernel) ⟨by decide +kernel, by decide +kernel, by decide +kernel, by decide +kernel, by decide +kernel⟩ pg_s77_c (fun _ h => nomatch h)
theorem pg_s77_y111 {X : Int → Int} {LX : Nat} {σ σ0 : Nat → Int} {K0 : gm_K} {R0 : gm_R} {M0 : gm_M} (hσ : ∀ s, s < 100 → σ s = σ0 s) : ck_Hy pg_O X LX 274 pg_s77.1.1 pg_s77.2.2.2.2.1 245 K0 R0 M0 (ck_Q pg_O σ0 pg_s77.2.2.2.2.1 245 K0 R0 M0 pg_s77.2.2.2.2.2) σ (111, pg_s77_C111, 0, 0, 245) := rl_111 pg_s77_u pg_s77_h hσ (by decide) (by decide +kernel) ⟨by decide +kernel, by decide +kernel, by decide +kernel, by decide +kernel⟩ pg_s77_b (fun h hm => by
  rw [List.mem_singleton.mp hm]
  exact ⟨List.mem_cons_self, pg_s77_y147 hσ⟩)
theorem pg_s77_s {X : Int → Int} {LX : Nat} : ck_Ok pg_O X LX 274 pg_s77 := by
  refine ck_ok_st (cuts := pg_s77_Z) pg_s77_u pg_s77_h pg_s77_a (fun h hm => ?_)
  rcases List.mem_cons.mp hm with rfl | hm
  · exact ⟨List.mem_cons_self, fun σ K0 R0 M0 => pg_s77_y147 (fun _ _ => rfl)⟩
  rw [List.mem_singleton.mp hm]
  exact ⟨List.mem_cons_of_mem _ List.mem_cons_self, fun σ K0 R0 M0 => pg_s77_y111 (fun _ _ => rfl)⟩
set_option maxRecDepth 100000 in
/-- GlacierMailModel.readLine -/
def pg_s78 : ck_Sum := ((31, 0, 0), 245, [.inr (.inr (.inl 226)), .inl (ck_one 0), .inl (ck_one 5)], ([], [], [(0, 2, 2, ck_one 5), (0, 0, 0, (0, 400, [(30, 0)])), (0, 3, 3, ((-400), 400, [(31, 0)])), (0, 4, 4, ((-400), 400, [(32, 0)])), (0, 5, 5, (0, 400, [(33, 0)])), (0, 6, 6, (0, 1, [])), (226, 9, 9, (0, 400, [(1, 0)])), (226, 15, 15, (0, 400, [(2, 0)]))]), ([(0, 0, 6), (226, 9, 9), (226, 11, 12), (226, 15, 15), (227, 1265, 1268), (227, 1293, 2092)], []), [(.inr (some (.inl (ck_one 0))), 245, ([], [], [(0, 2, 2, ck_one 5), (0, 0, 0, (0, 400, [])), (0, 3, 3, (0, 400, [(1000033, 0)])), (0, 4, 4, ((-400), 400, [])), (0, 5, 5, (0, 400, [(1000033, 0)])), (0, 6, 6, (0, 1, [])), (226, 9, 9, (0, 400, [(1000001, 0)]))])), (.inr (some (.inl (ck_one 1))), 245, ([], [], [(0, 5, 5, (4, 400, [(1000033, 4)])), (226, 11, 11, (0, 400, [(1000001, 0)])), (0, 0, 0, ck_one 0), (0, 2, 2, ck_one 6), (0, 6, 6, ck_one 0), (0, 3, 3, (4, 400, [(1000033, 4)])), (0, 4, 4, ck_one 0), (226, 9, 9, (0, 400, [(1000001, 0)])), (226, 12, 12, ck_one 0), (227, 1266, 1266, (0, 20, [])), (227, 1265, 1265, (0, 2, []))]))])
set_option maxRecDepth 100000 in
theorem pg_s78_e : ck_ok pg_O none [] [(248, [pg_s3]), (274, [pg_s77])] 247 [] 102 pg_s78 = true := by decide +kernel
theorem pg_s78_s {X : Int → Int} {LX : Nat} : ck_Ok pg_O X LX 247 pg_s78 := ck_ok_s ⟨pg_nmu, ck_E1 (ck_S1 pg_s3_s ck_S0) (ck_E1 (ck_S1 pg_s77_s ck_S0) ck_E0)⟩ ck_X0 ck_l0 pg_s78_e
set_option maxRecDepth 100000 in
/-- GlacierMailModel.readLawLine -/
def pg_s79 : ck_Sum := ((30, 0, 0), 245, [.inr (.inr (.inl 226)), .inl (ck_one 6)], ([], [], [(0, 2, 2, ck_one 6), (0, 0, 0, (0, 400, [(30, 0)])), (0, 3, 3, ((-400), 400, [(31, 0)])), (0, 4, 4, ((-400), 400, [(32, 0)])), (0, 5, 5, (0, 400, [(33, 0)])), (0, 6, 6, (0, 1, [])), (226, 9, 9, (0, 400, [(1, 0)])), (226, 15, 15, (0, 400, [(2, 0)]))]), ([(0, 0, 6), (226, 9, 9), (226, 11, 12), (226, 15, 15), (227, 1269, 1272), (227, 1293, 2092)], []), [(.inr (some (.inl (ck_one 0))), 245, ([], [], [(0, 2, 2, ck_one 6), (0, 0, 0, (0, 400, [])), (0, 3, 3, ((-400), 400, [(1000031, 0)])), (0, 4, 4, ((-400), 400, [])), (0, 5, 5, (0, 400, [(1000033, 0)])), (0, 6, 6, (0, 1, [])), (226, 9, 9, (0, 400, [(1000001, 0)]))])), (.inr (some (.inl (ck_one 1))), 245, ([], [], [(0, 0, 0, ck_one 0), (0, 2, 2, ck_one 7), (0, 6, 6, ck_one 0), (0, 5, 5, (0, 400, [(1000033, 0), (1000031, 4)])), (226, 11, 11, (0, 400, [(1000001, 0)])), (0, 3, 3, (0, 400, [(1000033, 0), (1000031, 4)])), (0, 4, 4, ck_one 0), (226, 9, 9, (0, 400, [(1000001, 0)])), (226, 12, 12, ck_one 0), (227, 1270, 1270, (0, 20, [])), (227, 1269, 1269, (0, 2, []))]))])
def pg_s79_E : List (Nat × List ck_Sum) := [(250, [pg_s4, pg_s5, pg_s6]), (256, [pg_s8]), (269, [pg_s10]), (275, [pg_s66])]
set_option maxRecDepth 100000 in
def pg_s79_F111 : ck_F := ([], [], [(0, 5, 5, (0, 400, [(1000033, 0), (1000031, 4)])), (226, 11, 11, (0, 399, [])), (227, 1270, 1270, (0, 20, [])), (227, 1269, 1269, (0, 2, [])), (0, 4, 4, (1, 4, [])), (0, 2, 2, ck_one 6), (0, 0, 0, (0, 400, [(30, 0)])), (0, 3, 3, ((-400), 400, [(1000031, 0)])), (0, 6, 6, (0, 1, [])), (226, 9, 9, (0, 400, [(1000001, 0)])), (226, 15, 15, (0, 400, [(2, 0)]))])
def pg_s79_C111 : ck_C := (rl_A 6, pg_s79_F111, 0, .inl 2, true)
set_option maxRecDepth 100000 in
def pg_s79_F147 : ck_F := ([], [], [(0, 5, 5, (0, 400, [(1000033, 0), (1000031, 4)])), (226, 11, 11, (0, 400, [(1000001, 0)])), (0, 3, 3, (0, 400, [(1000033, 0), (1000031, 4)])), (0, 4, 4, ck_one 0), (226, 9, 9, (0, 400, [(1000001, 0)])), (226, 12, 12, ck_one 0), (0, 0, 0, (0, 1, [])), (0, 6, 6, ck_one 1), (227, 1270, 1270, (0, 20, [])), (227, 1269, 1269, (0, 2, [])), (0, 2, 2, ck_one 6), (226, 15, 15, (0, 400, []))])
def pg_s79_C147 : ck_C := (rl_A 6, pg_s79_F147, 0, .inl 2, true)
def pg_s79_Z : List (Nat × ck_C) := [(147, pg_s79_C147), (111, pg_s79_C111)]
set_option maxRecDepth 100000 in
theorem pg_s79_a : (decide (pg_s79.2.2.1.length ≤ gm_ml 274) && ck_go pg_O none [] pg_s79_E 274 pg_s79.1.1 pg_s79.2.1 pg_s79.2.2.2.2.1 pg_s79.2.2.2.2.2 pg_s79_Z 416 false [(147, pg_s79_C147, 0, 0, 245), (111, pg_s79_C111, 0, 0, 245)] pg_s79.1.2.1 pg_s79.1.2.2 0 (pg_s79.2.2.1.map some ++ List.replicate (gm_ml 274 - pg_s79.2.2.1.length) none) [] pg_s79.2.1 pg_s79.2.2.2.1) = true := by decide +kernel
set_option maxRecDepth 100000 in
theorem pg_s79_b : ck_go pg_O none [] pg_s79_E 274 pg_s79.1.1 245 pg_s79.2.2.2.2.1 pg_s79.2.2.2.2.2 pg_s79_Z 416 false [(147, pg_s79_C147, 0, 0, 245)] 0 0 123 (rl_A 6) [] 245 (rl_F1 6 pg_s79_F111) = true := by decide +kernel
set_option maxRecDepth 100000 in
theorem pg_s79_c : ck_go pg_O none [] pg_s79_E 274 pg_s79.1.1 245 pg_s79.2.2.2.2.1 pg_s79.2.2.2.2.2 pg_s79_Z 416 false [] 0 0 159 (rl_A 6) [] 245 (rl_F2 6 pg_s79_F147) = true := by decide +kernel
theorem pg_s79_u : ck_cu pg_s79_Z = true := by decide +kernel
theorem pg_s79_h {X : Int → Int} {LX : Nat} : ck_nmu pg_O ∧ ck_OkE pg_O X LX pg_s79_E := ⟨pg_nmu, ck_E1 (ck_S1 pg_s4_s (ck_S1 pg_s5_s (ck_S1 pg_s6_s ck_S0))) (ck_E1 (ck_S1 pg_s8_s ck_S0) (ck_E1 (ck_S1 pg_s10_s ck_S0) (ck_E1 (ck_S1 pg_s66_s ck_S0) ck_E0)))⟩
theorem pg_s79_y147 {X : Int → Int} {LX : Nat} {σ σ0 : Nat → Int} {K0 : gm_K} {R0 : gm_R} {M0 : gm_M} (hσ : ∀ s, s < 100 → σ s = σ0 s) : ck_Hy pg_O X LX 274 pg_s79.1.1 pg_s79.2.2.2.2.1 245 K0 R0 M0 (ck_Q pg_O σ0 pg_s79.2.2.2.2.1 245 K0 R0 M0 pg_s79.2.2.2.2.2) σ (147, pg_s79_C147, 0, 0, 245) := rl_147 pg_s79_u pg_s79_h hσ (by decide) (by decide +kernel) (by decide +kernel) ⟨by decide +kernel, by decide +kernel, by decide +kernel, by decide +kernel, by decide +kernel⟩ pg_s79_c (fun _ h => nomatch h)
theorem pg_s79_y111 {X : Int → Int} {LX : Nat} {σ σ0 : Nat → Int} {K0 : gm_K} {R0 : gm_R} {M0 : gm_M} (hσ : ∀ s, s < 100 → σ s = σ0 s) : ck_Hy pg_O X LX 274 pg_s79.1.1 pg_s79.2.2.2.2.1 245 K0 R0 M0 (ck_Q pg_O σ0 pg_s79.2.2.2.2.1 245 K0 R0 M0 pg_s79.2.2.2.2.2) σ (111, pg_s79_C111, 0, 0, 245) := rl_111 pg_s79_u pg_s79_h hσ (by decide) (by decide +kernel) ⟨by decide +kernel, by decide +kernel, by decide +kernel, by decide +kernel⟩ pg_s79_b (fun h hm => by
  rw [List.mem_singleton.mp hm]
  exact ⟨List.mem_cons_self, pg_s79_y147 hσ⟩)
theorem pg_s79_s {X : Int → Int} {LX : Nat} : ck_Ok pg_O X LX 274 pg_s79 := by
  refine ck_ok_st (cuts := pg_s79_Z) pg_s79_u pg_s79_h pg_s79_a (fun h hm => ?_)
  rcases List.mem_cons.mp hm with rfl | hm
  · exact ⟨List.mem_cons_self, fun σ K0 R0 M0 => pg_s79_y147 (fun _ _ => rfl)⟩
  rw [List.mem_singleton.mp hm]
  exact ⟨List.mem_cons_of_mem _ List.mem_cons_self, fun σ K0 R0 M0 => pg_s79_y111 (fun _ _ => rfl)⟩
set_option maxRecDepth 100000 in
/-- GlacierMailModel.readLine -/
def pg_s80 : ck_Sum := ((31, 0, 0), 245, [.inr (.inr (.inl 226)), .inl (ck_one 0), .inl (ck_one 6)], ([], [], [(0, 2, 2, ck_one 6), (0, 0, 0, (0, 400, [(30, 0)])), (0, 3, 3, ((-400), 400, [(31, 0)])), (0, 4, 4, ((-400), 400, [(32, 0)])), (0, 5, 5, (0, 400, [(33, 0)])), (0, 6, 6, (0, 1, [])), (226, 9, 9, (0, 400, [(1, 0)])), (226, 15, 15, (0, 400, [(2, 0)]))]), ([(0, 0, 6), (226, 9, 9), (226, 11, 12), (226, 15, 15), (227, 1269, 1272), (227, 1293, 2092)], []), [(.inr (some (.inl (ck_one 0))), 245, ([], [], [(0, 2, 2, ck_one 6), (0, 0, 0, (0, 400, [])), (0, 3, 3, (0, 400, [(1000033, 0)])), (0, 4, 4, ((-400), 400, [])), (0, 5, 5, (0, 400, [(1000033, 0)])), (0, 6, 6, (0, 1, [])), (226, 9, 9, (0, 400, [(1000001, 0)]))])), (.inr (some (.inl (ck_one 1))), 245, ([], [], [(0, 5, 5, (4, 400, [(1000033, 4)])), (226, 11, 11, (0, 400, [(1000001, 0)])), (0, 0, 0, ck_one 0), (0, 2, 2, ck_one 7), (0, 6, 6, ck_one 0), (0, 3, 3, (4, 400, [(1000033, 4)])), (0, 4, 4, ck_one 0), (226, 9, 9, (0, 400, [(1000001, 0)])), (226, 12, 12, ck_one 0), (227, 1270, 1270, (0, 20, [])), (227, 1269, 1269, (0, 2, []))]))])
set_option maxRecDepth 100000 in
theorem pg_s80_e : ck_ok pg_O none [] [(248, [pg_s3]), (274, [pg_s79])] 247 [] 102 pg_s80 = true := by decide +kernel
theorem pg_s80_s {X : Int → Int} {LX : Nat} : ck_Ok pg_O X LX 247 pg_s80 := ck_ok_s ⟨pg_nmu, ck_E1 (ck_S1 pg_s3_s ck_S0) (ck_E1 (ck_S1 pg_s79_s ck_S0) ck_E0)⟩ ck_X0 ck_l0 pg_s80_e
set_option maxRecDepth 100000 in
/-- GlacierMailModel.readLawLine -/
def pg_s81 : ck_Sum := ((30, 0, 0), 245, [.inr (.inr (.inl 226)), .inl (ck_one 7)], ([], [], [(0, 2, 2, ck_one 7), (0, 0, 0, (0, 400, [(30, 0)])), (0, 3, 3, ((-400), 400, [(31, 0)])), (0, 4, 4, ((-400), 400, [(32, 0)])), (0, 5, 5, (0, 400, [(33, 0)])), (0, 6, 6, (0, 1, [])), (226, 9, 9, (0, 400, [(1, 0)])), (226, 15, 15, (0, 400, [(2, 0)]))]), ([(0, 0, 6), (226, 9, 9), (226, 11, 12), (226, 15, 15), (227, 1273, 1276), (227, 1293, 2092)], []), [(.inr (some (.inl (ck_one 0))), 245, ([], [], [(0, 2, 2, ck_one 7), (0, 0, 0, (0, 400, [])), (0, 3, 3, ((-400), 400, [(1000031, 0)])), (0, 4, 4, ((-400), 400, [])), (0, 5, 5, (0, 400, [(1000033, 0)])), (0, 6, 6, (0, 1, [])), (226, 9, 9, (0, 400, [(1000001, 0)]))])), (.inr (some (.inl (ck_one 1))), 245, ([], [], [(0, 0, 0, ck_one 0), (0, 2, 2, ck_one 8), (0, 6, 6, ck_one 0), (0, 5, 5, (0, 400, [(1000033, 0), (1000031, 4)])), (226, 11, 11, (0, 400, [(1000001, 0)])), (0, 3, 3, (0, 400, [(1000033, 0), (1000031, 4)])), (0, 4, 4, ck_one 0), (226, 9, 9, (0, 400, [(1000001, 0)])), (226, 12, 12, ck_one 0), (227, 1274, 1274, (0, 20, [])), (227, 1273, 1273, (0, 2, []))]))])
def pg_s81_E : List (Nat × List ck_Sum) := [(250, [pg_s4, pg_s5, pg_s6]), (256, [pg_s8]), (269, [pg_s10]), (275, [pg_s66])]
set_option maxRecDepth 100000 in
def pg_s81_F111 : ck_F := ([], [], [(0, 5, 5, (0, 400, [(1000033, 0), (1000031, 4)])), (226, 11, 11, (0, 399, [])), (227, 1274, 1274, (0, 20, [])), (227, 1273, 1273, (0, 2, [])), (0, 4, 4, (1, 4, [])), (0, 2, 2, ck_one 7), (0, 0, 0, (0, 400, [(30, 0)])), (0, 3, 3, ((-400), 400, [(1000031, 0)])), (0, 6, 6, (0, 1, [])), (226, 9, 9, (0, 400, [(1000001, 0)])), (226, 15, 15, (0, 400, [(2, 0)]))])
def pg_s81_C111 : ck_C := (rl_A 7, pg_s81_F111, 0, .inl 2, true)
set_option maxRecDepth 100000 in
def pg_s81_F147 : ck_F := ([], [], [(0, 5, 5, (0, 400, [(1000033, 0), (1000031, 4)])), (226, 11, 11, (0, 400, [(1000001, 0)])), (0, 3, 3, (0, 400, [(1000033, 0), (1000031, 4)])), (0, 4, 4, ck_one 0), (226, 9, 9, (0, 400, [(1000001, 0)])), (226, 12, 12, ck_one 0), (0, 0, 0, (0, 1, [])), (0, 6, 6, ck_one 1), (227, 1274, 1274, (0, 20, [])), (227, 1273, 1273, (0, 2, [])), (0, 2, 2, ck_one 7), (226, 15, 15, (0, 400, []))])
def pg_s81_C147 : ck_C := (rl_A 7, pg_s81_F147, 0, .inl 2, true)
def pg_s81_Z : List (Nat × ck_C) := [(147, pg_s81_C147), (111, pg_s81_C111)]
set_option maxRecDepth 100000 in
theorem pg_s81_a : (decide (pg_s81.2.2.1.length ≤ gm_ml 274) && ck_go pg_O none [] pg_s81_E 274 pg_s81.1.1 pg_s81.2.1 pg_s81.2.2.2.2.1 pg_s81.2.2.2.2.2 pg_s81_Z 416 false [(147, pg_s81_C147, 0, 0, 245), (111, pg_s81_C111, 0, 0, 245)] pg_s81.1.2.1 pg_s81.1.2.2 0 (pg_s81.2.2.1.map some ++ List.replicate (gm_ml 274 - pg_s81.2.2.1.length) none) [] pg_s81.2.1 pg_s81.2.2.2.1) = true := by decide +kernel
set_option maxRecDepth 100000 in
theorem pg_s81_b : ck_go pg_O none [] pg_s81_E 274 pg_s81.1.1 245 pg_s81.2.2.2.2.1 pg_s81.2.2.2.2.2 pg_s81_Z 416 false [(147, pg_s81_C147, 0, 0, 245)] 0 0 123 (rl_A 7) [] 245 (rl_F1 7 pg_s81_F111) = true := by decide +kernel
set_option maxRecDepth 100000 in
theorem pg_s81_c : ck_go pg_O none [] pg_s81_E 274 pg_s81.1.1 245 pg_s81.2.2.2.2.1 pg_s81.2.2.2.2.2 pg_s81_Z 416 false [] 0 0 159 (rl_A 7) [] 245 (rl_F2 7 pg_s81_F147) = true := by decide +kernel
theorem pg_s81_u : ck_cu pg_s81_Z = true := by decide +kernel
theorem pg_s81_h {X : Int → Int} {LX : Nat} : ck_nmu pg_O ∧ ck_OkE pg_O X LX pg_s81_E := ⟨pg_nmu, ck_E1 (ck_S1 pg_s4_s (ck_S1 pg_s5_s (ck_S1 pg_s6_s ck_S0))) (ck_E1 (ck_S1 pg_s8_s ck_S0) (ck_E1 (ck_S1 pg_s10_s ck_S0) (ck_E1 (ck_S1 pg_s66_s ck_S0) ck_E0)))⟩
theorem pg_s81_y147 {X : Int → Int} {LX : Nat} {σ σ0 : Nat → Int} {K0 : gm_K} {R0 : gm_R} {M0 : gm_M} (hσ : ∀ s, s < 100 → σ s = σ0 s) : ck_Hy pg_O X LX 274 pg_s81.1.1 pg_s81.2.2.2.2.1 245 K0 R0 M0 (ck_Q pg_O σ0 pg_s81.2.2.2.2.1 245 K0 R0 M0 pg_s81.2.2.2.2.2) σ (147, pg_s81_C147, 0, 0, 245) := rl_147 pg_s81_u pg_s81_h hσ (by decide) (by decide +kernel) (by decide +kernel) ⟨by decide +kernel, by decide +kernel, by decide +kernel, by decide +kernel, by decide +kernel⟩ pg_s81_c (fun _ h => nomatch h)
theorem pg_s81_y111 {X : Int → Int} {LX : Nat} {σ σ0 : Nat → Int} {K0 : gm_K} {R0 : gm_R} {M0 : gm_M} (hσ : ∀ s, s < 100 → σ s = σ0 s) : ck_Hy pg_O X LX 274 pg_s81.1.1 pg_s81.2.2.2.2.1 245 K0 R0 M0 (ck_Q pg_O σ0 pg_s81.2.2.2.2.1 245 K0 R0 M0 pg_s81.2.2.2.2.2) σ (111, pg_s81_C111, 0, 0, 245) := rl_111 pg_s81_u pg_s81_h hσ (by decide) (by decide +kernel) ⟨by decide +kernel, by decide +kernel, by decide +kernel, by decide +kernel⟩ pg_s81_b (fun h hm => by
  rw [List.mem_singleton.mp hm]
  exact ⟨List.mem_cons_self, pg_s81_y147 hσ⟩)
theorem pg_s81_s {X : Int → Int} {LX : Nat} : ck_Ok pg_O X LX 274 pg_s81 := by
  refine ck_ok_st (cuts := pg_s81_Z) pg_s81_u pg_s81_h pg_s81_a (fun h hm => ?_)
  rcases List.mem_cons.mp hm with rfl | hm
  · exact ⟨List.mem_cons_self, fun σ K0 R0 M0 => pg_s81_y147 (fun _ _ => rfl)⟩
  rw [List.mem_singleton.mp hm]
  exact ⟨List.mem_cons_of_mem _ List.mem_cons_self, fun σ K0 R0 M0 => pg_s81_y111 (fun _ _ => rfl)⟩
set_option maxRecDepth 100000 in
/-- GlacierMailModel.readLine -/
def pg_s82 : ck_Sum := ((31, 0, 0), 245, [.inr (.inr (.inl 226)), .inl (ck_one 0), .inl (ck_one 7)], ([], [], [(0, 2, 2, ck_one 7), (0, 0, 0, (0, 400, [(30, 0)])), (0, 3, 3, ((-400), 400, [(31, 0)])), (0, 4, 4, ((-400), 400, [(32, 0)])), (0, 5, 5, (0, 400, [(33, 0)])), (0, 6, 6, (0, 1, [])), (226, 9, 9, (0, 400, [(1, 0)])), (226, 15, 15, (0, 400, [(2, 0)]))]), ([(0, 0, 6), (226, 9, 9), (226, 11, 12), (226, 15, 15), (227, 1273, 1276), (227, 1293, 2092)], []), [(.inr (some (.inl (ck_one 0))), 245, ([], [], [(0, 2, 2, ck_one 7), (0, 0, 0, (0, 400, [])), (0, 3, 3, (0, 400, [(1000033, 0)])), (0, 4, 4, ((-400), 400, [])), (0, 5, 5, (0, 400, [(1000033, 0)])), (0, 6, 6, (0, 1, [])), (226, 9, 9, (0, 400, [(1000001, 0)]))])), (.inr (some (.inl (ck_one 1))), 245, ([], [], [(0, 5, 5, (4, 400, [(1000033, 4)])), (226, 11, 11, (0, 400, [(1000001, 0)])), (0, 0, 0, ck_one 0), (0, 2, 2, ck_one 8), (0, 6, 6, ck_one 0), (0, 3, 3, (4, 400, [(1000033, 4)])), (0, 4, 4, ck_one 0), (226, 9, 9, (0, 400, [(1000001, 0)])), (226, 12, 12, ck_one 0), (227, 1274, 1274, (0, 20, [])), (227, 1273, 1273, (0, 2, []))]))])
set_option maxRecDepth 100000 in
theorem pg_s82_e : ck_ok pg_O none [] [(248, [pg_s3]), (274, [pg_s81])] 247 [] 102 pg_s82 = true := by decide +kernel
theorem pg_s82_s {X : Int → Int} {LX : Nat} : ck_Ok pg_O X LX 247 pg_s82 := ck_ok_s ⟨pg_nmu, ck_E1 (ck_S1 pg_s3_s ck_S0) (ck_E1 (ck_S1 pg_s81_s ck_S0) ck_E0)⟩ ck_X0 ck_l0 pg_s82_e
set_option maxRecDepth 100000 in
/-- GlacierMailModel.readLawLine -/
def pg_s83 : ck_Sum := ((30, 0, 0), 245, [.inr (.inr (.inl 226)), .inl (ck_one 8)], ([], [], [(0, 2, 2, ck_one 8), (0, 0, 0, (0, 400, [(30, 0)])), (0, 3, 3, ((-400), 400, [(31, 0)])), (0, 4, 4, ((-400), 400, [(32, 0)])), (0, 5, 5, (0, 400, [(33, 0)])), (0, 6, 6, (0, 1, [])), (226, 9, 9, (0, 400, [(1, 0)])), (226, 15, 15, (0, 400, [(2, 0)]))]), ([(0, 0, 6), (226, 9, 9), (226, 11, 12), (226, 15, 15), (227, 1277, 1280), (227, 1293, 2092)], []), [(.inr (some (.inl (ck_one 0))), 245, ([], [], [(0, 2, 2, ck_one 8), (0, 0, 0, (0, 400, [])), (0, 3, 3, ((-400), 400, [(1000031, 0)])), (0, 4, 4, ((-400), 400, [])), (0, 5, 5, (0, 400, [(1000033, 0)])), (0, 6, 6, (0, 1, [])), (226, 9, 9, (0, 400, [(1000001, 0)]))])), (.inr (some (.inl (ck_one 1))), 245, ([], [], [(0, 0, 0, ck_one 0), (0, 2, 2, ck_one 9), (0, 6, 6, ck_one 0), (0, 5, 5, (0, 400, [(1000033, 0), (1000031, 4)])), (226, 11, 11, (0, 400, [(1000001, 0)])), (0, 3, 3, (0, 400, [(1000033, 0), (1000031, 4)])), (0, 4, 4, ck_one 0), (226, 9, 9, (0, 400, [(1000001, 0)])), (226, 12, 12, ck_one 0), (227, 1278, 1278, (0, 20, [])), (227, 1277, 1277, (0, 2, []))]))])
def pg_s83_E : List (Nat × List ck_Sum) := [(250, [pg_s4, pg_s5, pg_s6]), (256, [pg_s8]), (269, [pg_s10]), (275, [pg_s66])]
set_option maxRecDepth 100000 in
def pg_s83_F111 : ck_F := ([], [], [(0, 5, 5, (0, 400, [(1000033, 0), (1000031, 4)])), (226, 11, 11, (0, 399, [])), (227, 1278, 1278, (0, 20, [])), (227, 1277, 1277, (0, 2, [])), (0, 4, 4, (1, 4, [])), (0, 2, 2, ck_one 8), (0, 0, 0, (0, 400, [(30, 0)])), (0, 3, 3, ((-400), 400, [(1000031, 0)])), (0, 6, 6, (0, 1, [])), (226, 9, 9, (0, 400, [(1000001, 0)])), (226, 15, 15, (0, 400, [(2, 0)]))])
def pg_s83_C111 : ck_C := (rl_A 8, pg_s83_F111, 0, .inl 2, true)
set_option maxRecDepth 100000 in
def pg_s83_F147 : ck_F := ([], [], [(0, 5, 5, (0, 400, [(1000033, 0), (1000031, 4)])), (226, 11, 11, (0, 400, [(1000001, 0)])), (0, 3, 3, (0, 400, [(1000033, 0), (1000031, 4)])), (0, 4, 4, ck_one 0), (226, 9, 9, (0, 400, [(1000001, 0)])), (226, 12, 12, ck_one 0), (0, 0, 0, (0, 1, [])), (0, 6, 6, ck_one 1), (227, 1278, 1278, (0, 20, [])), (227, 1277, 1277, (0, 2, [])), (0, 2, 2, ck_one 8), (226, 15, 15, (0, 400, []))])
def pg_s83_C147 : ck_C := (rl_A 8, pg_s83_F147, 0, .inl 2, true)
def pg_s83_Z : List (Nat × ck_C) := [(147, pg_s83_C147), (111, pg_s83_C111)]
set_option maxRecDepth 100000 in
theorem pg_s83_a : (decide (pg_s83.2.2.1.length ≤ gm_ml 274) && ck_go pg_O none [] pg_s83_E 274 pg_s83.1.1 pg_s83.2.1 pg_s83.2.2.2.2.1 pg_s83.2.2.2.2.2 pg_s83_Z 416 false [(147, pg_s83_C147, 0, 0, 245), (111, pg_s83_C111, 0, 0, 245)] pg_s83.1.2.1 pg_s83.1.2.2 0 (pg_s83.2.2.1.map some ++ List.replicate (gm_ml 274 - pg_s83.2.2.1.length) none) [] pg_s83.2.1 pg_s83.2.2.2.1) = true := by decide +kernel
set_option maxRecDepth 100000 in
theorem pg_s83_b : ck_go pg_O none [] pg_s83_E 274 pg_s83.1.1 245 pg_s83.2.2.2.2.1 pg_s83.2.2.2.2.2 pg_s83_Z 416 false [(147, pg_s83_C147, 0, 0, 245)] 0 0 123 (rl_A 8) [] 245 (rl_F1 8 pg_s83_F111) = true := by decide +kernel
set_option maxRecDepth 100000 in
theorem pg_s83_c : ck_go pg_O none [] pg_s83_E 274 pg_s83.1.1 245 pg_s83.2.2.2.2.1 pg_s83.2.2.2.2.2 pg_s83_Z 416 false [] 0 0 159 (rl_A 8) [] 245 (rl_F2 8 pg_s83_F147) = true := by decide +kernel
theorem pg_s83_u : ck_cu pg_s83_Z = true := by decide +kernel
theorem pg_s83_h {X : Int → Int} {LX : Nat} : ck_nmu pg_O ∧ ck_OkE pg_O X LX pg_s83_E := ⟨pg_nmu, ck_E1 (ck_S1 pg_s4_s (ck_S1 pg_s5_s (ck_S1 pg_s6_s ck_S0))) (ck_E1 (ck_S1 pg_s8_s ck_S0) (ck_E1 (ck_S1 pg_s10_s ck_S0) (ck_E1 (ck_S1 pg_s66_s ck_S0) ck_E0)))⟩
theorem pg_s83_y147 {X : Int → Int} {LX : Nat} {σ σ0 : Nat → Int} {K0 : gm_K} {R0 : gm_R} {M0 : gm_M} (hσ : ∀ s, s < 100 → σ s = σ0 s) : ck_Hy pg_O X LX 274 pg_s83.1.1 pg_s83.2.2.2.2.1 245 K0 R0 M0 (ck_Q pg_O σ0 pg_s83.2.2.2.2.1 245 K0 R0 M0 pg_s83.2.2.2.2.2) σ (147, pg_s83_C147, 0, 0, 245) := rl_147 pg_s83_u pg_s83_h hσ (by decide) (by decide +kernel) (by decide +kernel) ⟨by decide +kernel, by decide +kernel, by decide +kernel, by decide +kernel, by decide +kernel⟩ pg_s83_c (fun _ h => nomatch h)
theorem pg_s83_y111 {X : Int → Int} {LX : Nat} {σ σ0 : Nat → Int} {K0 : gm_K} {R0 : gm_R} {M0 : gm_M} (hσ : ∀ s, s < 100 → σ s = σ0 s) : ck_Hy pg_O X LX 274 pg_s83.1.1 pg_s83.2.2.2.2.1 245 K0 R0 M0 (ck_Q pg_O σ0 pg_s83.2.2.2.2.1 245 K0 R0 M0 pg_s83.2.2.2.2.2) σ (111, pg_s83_C111, 0, 0, 245) := rl_111 pg_s83_u pg_s83_h hσ (by decide) (by decide +kernel) ⟨by decide +kernel, by decide +kernel, by decide +kernel, by decide +kernel⟩ pg_s83_b (fun h hm => by
  rw [List.mem_singleton.mp hm]
  exact ⟨List.mem_cons_self, pg_s83_y147 hσ⟩)
theorem pg_s83_s {X : Int → Int} {LX : Nat} : ck_Ok pg_O X LX 274 pg_s83 := by
  refine ck_ok_st (cuts := pg_s83_Z) pg_s83_u pg_s83_h pg_s83_a (fun h hm => ?_)
  rcases List.mem_cons.mp hm with rfl | hm
  · exact ⟨List.mem_cons_self, fun σ K0 R0 M0 => pg_s83_y147 (fun _ _ => rfl)⟩
  rw [List.mem_singleton.mp hm]
  exact ⟨List.mem_cons_of_mem _ List.mem_cons_self, fun σ K0 R0 M0 => pg_s83_y111 (fun _ _ => rfl)⟩
set_option maxRecDepth 100000 in
/-- GlacierMailModel.readLine -/
def pg_s84 : ck_Sum := ((31, 0, 0), 245, [.inr (.inr (.inl 226)), .inl (ck_one 0), .inl (ck_one 8)], ([], [], [(0, 2, 2, ck_one 8), (0, 0, 0, (0, 400, [(30, 0)])), (0, 3, 3, ((-400), 400, [(31, 0)])), (0, 4, 4, ((-400), 400, [(32, 0)])), (0, 5, 5, (0, 400, [(33, 0)])), (0, 6, 6, (0, 1, [])), (226, 9, 9, (0, 400, [(1, 0)])), (226, 15, 15, (0, 400, [(2, 0)]))]), ([(0, 0, 6), (226, 9, 9), (226, 11, 12), (226, 15, 15), (227, 1277, 1280), (227, 1293, 2092)], []), [(.inr (some (.inl (ck_one 0))), 245, ([], [], [(0, 2, 2, ck_one 8), (0, 0, 0, (0, 400, [])), (0, 3, 3, (0, 400, [(1000033, 0)])), (0, 4, 4, ((-400), 400, [])), (0, 5, 5, (0, 400, [(1000033, 0)])), (0, 6, 6, (0, 1, [])), (226, 9, 9, (0, 400, [(1000001, 0)]))])), (.inr (some (.inl (ck_one 1))), 245, ([], [], [(0, 5, 5, (4, 400, [(1000033, 4)])), (226, 11, 11, (0, 400, [(1000001, 0)])), (0, 0, 0, ck_one 0), (0, 2, 2, ck_one 9), (0, 6, 6, ck_one 0), (0, 3, 3, (4, 400, [(1000033, 4)])), (0, 4, 4, ck_one 0), (226, 9, 9, (0, 400, [(1000001, 0)])), (226, 12, 12, ck_one 0), (227, 1278, 1278, (0, 20, [])), (227, 1277, 1277, (0, 2, []))]))])
set_option maxRecDepth 100000 in
theorem pg_s84_e : ck_ok pg_O none [] [(248, [pg_s3]), (274, [pg_s83])] 247 [] 102 pg_s84 = true := by decide +kernel
theorem pg_s84_s {X : Int → Int} {LX : Nat} : ck_Ok pg_O X LX 247 pg_s84 := ck_ok_s ⟨pg_nmu, ck_E1 (ck_S1 pg_s3_s ck_S0) (ck_E1 (ck_S1 pg_s83_s ck_S0) ck_E0)⟩ ck_X0 ck_l0 pg_s84_e
set_option maxRecDepth 100000 in
/-- GlacierMailModel.readLawLine -/
def pg_s85 : ck_Sum := ((30, 0, 0), 245, [.inr (.inr (.inl 226)), .inl (ck_one 9)], ([], [], [(0, 2, 2, ck_one 9), (0, 0, 0, (0, 400, [(30, 0)])), (0, 3, 3, ((-400), 400, [(31, 0)])), (0, 4, 4, ((-400), 400, [(32, 0)])), (0, 5, 5, (0, 400, [(33, 0)])), (0, 6, 6, (0, 1, [])), (226, 9, 9, (0, 400, [(1, 0)])), (226, 15, 15, (0, 400, [(2, 0)]))]), ([(0, 0, 6), (226, 9, 9), (226, 11, 12), (226, 15, 15), (227, 1281, 1284), (227, 1293, 2092)], []), [(.inr (some (.inl (ck_one 0))), 245, ([], [], [(0, 2, 2, ck_one 9), (0, 0, 0, (0, 400, [])), (0, 3, 3, ((-400), 400, [(1000031, 0)])), (0, 4, 4, ((-400), 400, [])), (0, 5, 5, (0, 400, [(1000033, 0)])), (0, 6, 6, (0, 1, [])), (226, 9, 9, (0, 400, [(1000001, 0)]))])), (.inr (some (.inl (ck_one 1))), 245, ([], [], [(0, 0, 0, ck_one 0), (0, 2, 2, ck_one 10), (0, 6, 6, ck_one 0), (0, 5, 5, (0, 400, [(1000033, 0), (1000031, 4)])), (226, 11, 11, (0, 400, [(1000001, 0)])), (0, 3, 3, (0, 400, [(1000033, 0), (1000031, 4)])), (0, 4, 4, ck_one 0), (226, 9, 9, (0, 400, [(1000001, 0)])), (226, 12, 12, ck_one 0), (227, 1282, 1282, (0, 20, [])), (227, 1281, 1281, (0, 2, []))]))])
def pg_s85_E : List (Nat × List ck_Sum) := [(250, [pg_s4, pg_s5, pg_s6]), (256, [pg_s8]), (269, [pg_s10]), (275, [pg_s66])]
set_option maxRecDepth 100000 in
def pg_s85_F111 : ck_F := ([], [], [(0, 5, 5, (0, 400, [(1000033, 0), (1000031, 4)])), (226, 11, 11, (0, 399, [])), (227, 1282, 1282, (0, 20, [])), (227, 1281, 1281, (0, 2, [])), (0, 4, 4, (1, 4, [])), (0, 2, 2, ck_one 9), (0, 0, 0, (0, 400, [(30, 0)])), (0, 3, 3, ((-400), 400, [(1000031, 0)])), (0, 6, 6, (0, 1, [])), (226, 9, 9, (0, 400, [(1000001, 0)])), (226, 15, 15, (0, 400, [(2, 0)]))])
def pg_s85_C111 : ck_C := (rl_A 9, pg_s85_F111, 0, .inl 2, true)
set_option maxRecDepth 100000 in
def pg_s85_F147 : ck_F := ([], [], [(0, 5, 5, (0, 400, [(1000033, 0), (1000031, 4)])), (226, 11, 11, (0, 400, [(1000001, 0)])), (0, 3, 3, (0, 400, [(1000033, 0), (1000031, 4)])), (0, 4, 4, ck_one 0), (226, 9, 9, (0, 400, [(1000001, 0)])), (226, 12, 12, ck_one 0), (0, 0, 0, (0, 1, [])), (0, 6, 6, ck_one 1), (227, 1282, 1282, (0, 20, [])), (227, 1281, 1281, (0, 2, [])), (0, 2, 2, ck_one 9), (226, 15, 15, (0, 400, []))])
def pg_s85_C147 : ck_C := (rl_A 9, pg_s85_F147, 0, .inl 2, true)
def pg_s85_Z : List (Nat × ck_C) := [(147, pg_s85_C147), (111, pg_s85_C111)]
set_option maxRecDepth 100000 in
theorem pg_s85_a : (decide (pg_s85.2.2.1.length ≤ gm_ml 274) && ck_go pg_O none [] pg_s85_E 274 pg_s85.1.1 pg_s85.2.1 pg_s85.2.2.2.2.1 pg_s85.2.2.2.2.2 pg_s85_Z 416 false [(147, pg_s85_C147, 0, 0, 245), (111, pg_s85_C111, 0, 0, 245)] pg_s85.1.2.1 pg_s85.1.2.2 0 (pg_s85.2.2.1.map some ++ List.replicate (gm_ml 274 - pg_s85.2.2.1.length) none) [] pg_s85.2.1 pg_s85.2.2.2.1) = true := by decide +kernel
set_option maxRecDepth 100000 in
theorem pg_s85_b : ck_go pg_O none [] pg_s85_E 274 pg_s85.1.1 245 pg_s85.2.2.2.2.1 pg_s85.2.2.2.2.2 pg_s85_Z 416 false [(147, pg_s85_C147, 0, 0, 245)] 0 0 123 (rl_A 9) [] 245 (rl_F1 9 pg_s85_F111) = true := by decide +kernel
set_option maxRecDepth 100000 in
theorem pg_s85_c : ck_go pg_O none [] pg_s85_E 274 pg_s85.1.1 245 pg_s85.2.2.2.2.1 pg_s85.2.2.2.2.2 pg_s85_Z 416 false [] 0 0 159 (rl_A 9) [] 245 (rl_F2 9 pg_s85_F147) = true := by decide +kernel
theorem pg_s85_u : ck_cu pg_s85_Z = true := by decide +kernel
theorem pg_s85_h {X : Int → Int} {LX : Nat} : ck_nmu pg_O ∧ ck_OkE pg_O X LX pg_s85_E := ⟨pg_nmu, ck_E1 (ck_S1 pg_s4_s (ck_S1 pg_s5_s (ck_S1 pg_s6_s ck_S0))) (ck_E1 (ck_S1 pg_s8_s ck_S0) (ck_E1 (ck_S1 pg_s10_s ck_S0) (ck_E1 (ck_S1 pg_s66_s ck_S0) ck_E0)))⟩
theorem pg_s85_y147 {X : Int → Int} {LX : Nat} {σ σ0 : Nat → Int} {K0 : gm_K} {R0 : gm_R} {M0 : gm_M} (hσ : ∀ s, s < 100 → σ s = σ0 s) : ck_Hy pg_O X LX 274 pg_s85.1.1 pg_s85.2.2.2.2.1 245 K0 R0 M0 (ck_Q pg_O σ0 pg_s85.2.2.2.2.1 245 K0 R0 M0 pg_s85.2.2.2.2.2) σ (147, pg_s85_C147, 0, 0, 245) := rl_147 pg_s85_u pg_s85_h hσ (by decide) (by decide +kernel) (by decide +kernel) ⟨by decide +kernel, by decide +kernel, by decide +kernel, by decide +kernel, by decide +kernel⟩ pg_s85_c (fun _ h => nomatch h)
theorem pg_s85_y111 {X : Int → Int} {LX : Nat} {σ σ0 : Nat → Int} {K0 : gm_K} {R0 : gm_R} {M0 : gm_M} (hσ : ∀ s, s < 100 → σ s = σ0 s) : ck_Hy pg_O X LX 274 pg_s85.1.1 pg_s85.2.2.2.2.1 245 K0 R0 M0 (ck_Q pg_O σ0 pg_s85.2.2.2.2.1 245 K0 R0 M0 pg_s85.2.2.2.2.2) σ (111, pg_s85_C111, 0, 0, 245) := rl_111 pg_s85_u pg_s85_h hσ (by decide) (by decide +kernel) ⟨by decide +kernel, by decide +kernel, by decide +kernel, by decide +kernel⟩ pg_s85_b (fun h hm => by
  rw [List.mem_singleton.mp hm]
  exact ⟨List.mem_cons_self, pg_s85_y147 hσ⟩)
theorem pg_s85_s {X : Int → Int} {LX : Nat} : ck_Ok pg_O X LX 274 pg_s85 := by
  refine ck_ok_st (cuts := pg_s85_Z) pg_s85_u pg_s85_h pg_s85_a (fun h hm => ?_)
  rcases List.mem_cons.mp hm with rfl | hm
  · exact ⟨List.mem_cons_self, fun σ K0 R0 M0 => pg_s85_y147 (fun _ _ => rfl)⟩
  rw [List.mem_singleton.mp hm]
  exact ⟨List.mem_cons_of_mem _ List.mem_cons_self, fun σ K0 R0 M0 => pg_s85_y111 (fun _ _ => rfl)⟩
set_option maxRecDepth 100000 in
/-- GlacierMailModel.readLine -/
def pg_s86 : ck_Sum := ((31, 0, 0), 245, [.inr (.inr (.inl 226)), .inl (ck_one 0), .inl (ck_one 9)], ([], [], [(0, 2, 2, ck_one 9), (0, 0, 0, (0, 400, [(30, 0)])), (0, 3, 3, ((-400), 400, [(31, 0)])), (0, 4, 4, ((-400), 400, [(32, 0)])), (0, 5, 5, (0, 400, [(33, 0)])), (0, 6, 6, (0, 1, [])), (226, 9, 9, (0, 400, [(1, 0)])), (226, 15, 15, (0, 400, [(2, 0)]))]), ([(0, 0, 6), (226, 9, 9), (226, 11, 12), (226, 15, 15), (227, 1281, 1284), (227, 1293, 2092)], []), [(.inr (some (.inl (ck_one 0))), 245, ([], [], [(0, 2, 2, ck_one 9), (0, 0, 0, (0, 400, [])), (0, 3, 3, (0, 400, [(1000033, 0)])), (0, 4, 4, ((-400), 400, [])), (0, 5, 5, (0, 400, [(1000033, 0)])), (0, 6, 6, (0, 1, [])), (226, 9, 9, (0, 400, [(1000001, 0)]))])), (.inr (some (.inl (ck_one 1))), 245, ([], [], [(0, 5, 5, (4, 400, [(1000033, 4)])), (226, 11, 11, (0, 400, [(1000001, 0)])), (0, 0, 0, ck_one 0), (0, 2, 2, ck_one 10), (0, 6, 6, ck_one 0), (0, 3, 3, (4, 400, [(1000033, 4)])), (0, 4, 4, ck_one 0), (226, 9, 9, (0, 400, [(1000001, 0)])), (226, 12, 12, ck_one 0), (227, 1282, 1282, (0, 20, [])), (227, 1281, 1281, (0, 2, []))]))])
set_option maxRecDepth 100000 in
theorem pg_s86_e : ck_ok pg_O none [] [(248, [pg_s3]), (274, [pg_s85])] 247 [] 102 pg_s86 = true := by decide +kernel
theorem pg_s86_s {X : Int → Int} {LX : Nat} : ck_Ok pg_O X LX 247 pg_s86 := ck_ok_s ⟨pg_nmu, ck_E1 (ck_S1 pg_s3_s ck_S0) (ck_E1 (ck_S1 pg_s85_s ck_S0) ck_E0)⟩ ck_X0 ck_l0 pg_s86_e
set_option maxRecDepth 100000 in
/-- GlacierMailModel.readLawLine -/
def pg_s87 : ck_Sum := ((30, 0, 0), 245, [.inr (.inr (.inl 226)), .inl (ck_one 10)], ([], [], [(0, 2, 2, ck_one 10), (0, 0, 0, (0, 400, [(30, 0)])), (0, 3, 3, ((-400), 400, [(31, 0)])), (0, 4, 4, ((-400), 400, [(32, 0)])), (0, 5, 5, (0, 400, [(33, 0)])), (0, 6, 6, (0, 1, [])), (226, 9, 9, (0, 400, [(1, 0)])), (226, 15, 15, (0, 400, [(2, 0)]))]), ([(0, 0, 6), (226, 9, 9), (226, 11, 12), (226, 15, 15), (227, 1285, 1288), (227, 1293, 2092)], []), [(.inr (some (.inl (ck_one 0))), 245, ([], [], [(0, 2, 2, ck_one 10), (0, 0, 0, (0, 400, [])), (0, 3, 3, ((-400), 400, [(1000031, 0)])), (0, 4, 4, ((-400), 400, [])), (0, 5, 5, (0, 400, [(1000033, 0)])), (0, 6, 6, (0, 1, [])), (226, 9, 9, (0, 400, [(1000001, 0)]))])), (.inr (some (.inl (ck_one 1))), 245, ([], [], [(0, 0, 0, ck_one 0), (0, 2, 2, ck_one 11), (0, 6, 6, ck_one 0), (0, 5, 5, (0, 400, [(1000033, 0), (1000031, 4)])), (226, 11, 11, (0, 400, [(1000001, 0)])), (0, 3, 3, (0, 400, [(1000033, 0), (1000031, 4)])), (0, 4, 4, ck_one 0), (226, 9, 9, (0, 400, [(1000001, 0)])), (226, 12, 12, ck_one 0), (227, 1286, 1286, (0, 20, [])), (227, 1285, 1285, (0, 2, []))]))])
def pg_s87_E : List (Nat × List ck_Sum) := [(250, [pg_s4, pg_s5, pg_s6]), (256, [pg_s8]), (269, [pg_s10]), (275, [pg_s66])]
set_option maxRecDepth 100000 in
def pg_s87_F111 : ck_F := ([], [], [(0, 5, 5, (0, 400, [(1000033, 0), (1000031, 4)])), (226, 11, 11, (0, 399, [])), (227, 1286, 1286, (0, 20, [])), (227, 1285, 1285, (0, 2, [])), (0, 4, 4, (1, 4, [])), (0, 2, 2, ck_one 10), (0, 0, 0, (0, 400, [(30, 0)])), (0, 3, 3, ((-400), 400, [(1000031, 0)])), (0, 6, 6, (0, 1, [])), (226, 9, 9, (0, 400, [(1000001, 0)])), (226, 15, 15, (0, 400, [(2, 0)]))])
def pg_s87_C111 : ck_C := (rl_A 10, pg_s87_F111, 0, .inl 2, true)
set_option maxRecDepth 100000 in
def pg_s87_F147 : ck_F := ([], [], [(0, 5, 5, (0, 400, [(1000033, 0), (1000031, 4)])), (226, 11, 11, (0, 400, [(1000001, 0)])), (0, 3, 3, (0, 400, [(1000033, 0), (1000031, 4)])), (0, 4, 4, ck_one 0), (226, 9, 9, (0, 400, [(1000001, 0)])), (226, 12, 12, ck_one 0), (0, 0, 0, (0, 1, [])), (0, 6, 6, ck_one 1), (227, 1286, 1286, (0, 20, [])), (227, 1285, 1285, (0, 2, [])), (0, 2, 2, ck_one 10), (226, 15, 15, (0, 400, []))])
def pg_s87_C147 : ck_C := (rl_A 10, pg_s87_F147, 0, .inl 2, true)
def pg_s87_Z : List (Nat × ck_C) := [(147, pg_s87_C147), (111, pg_s87_C111)]
set_option maxRecDepth 100000 in
theorem pg_s87_a : (decide (pg_s87.2.2.1.length ≤ gm_ml 274) && ck_go pg_O none [] pg_s87_E 274 pg_s87.1.1 pg_s87.2.1 pg_s87.2.2.2.2.1 pg_s87.2.2.2.2.2 pg_s87_Z 416 false [(147, pg_s87_C147, 0, 0, 245), (111, pg_s87_C111, 0, 0, 245)] pg_s87.1.2.1 pg_s87.1.2.2 0 (pg_s87.2.2.1.map some ++ List.replicate (gm_ml 274 - pg_s87.2.2.1.length) none) [] pg_s87.2.1 pg_s87.2.2.2.1) = true := by decide +kernel
set_option maxRecDepth 100000 in
theorem pg_s87_b : ck_go pg_O none [] pg_s87_E 274 pg_s87.1.1 245 pg_s87.2.2.2.2.1 pg_s87.2.2.2.2.2 pg_s87_Z 416 false [(147, pg_s87_C147, 0, 0, 245)] 0 0 123 (rl_A 10) [] 245 (rl_F1 10 pg_s87_F111) = true := by decide +kernel
set_option maxRecDepth 100000 in
theorem pg_s87_c : ck_go pg_O none [] pg_s87_E 274 pg_s87.1.1 245 pg_s87.2.2.2.2.1 pg_s87.2.2.2.2.2 pg_s87_Z 416 false [] 0 0 159 (rl_A 10) [] 245 (rl_F2 10 pg_s87_F147) = true := by decide +kernel
theorem pg_s87_u : ck_cu pg_s87_Z = true := by decide +kernel
theorem pg_s87_h {X : Int → Int} {LX : Nat} : ck_nmu pg_O ∧ ck_OkE pg_O X LX pg_s87_E := ⟨pg_nmu, ck_E1 (ck_S1 pg_s4_s (ck_S1 pg_s5_s (ck_S1 pg_s6_s ck_S0))) (ck_E1 (ck_S1 pg_s8_s ck_S0) (ck_E1 (ck_S1 pg_s10_s ck_S0) (ck_E1 (ck_S1 pg_s66_s ck_S0) ck_E0)))⟩
theorem pg_s87_y147 {X : Int → Int} {LX : Nat} {σ σ0 : Nat → Int} {K0 : gm_K} {R0 : gm_R} {M0 : gm_M} (hσ : ∀ s, s < 100 → σ s = σ0 s) : ck_Hy pg_O X LX 274 pg_s87.1.1 pg_s87.2.2.2.2.1 245 K0 R0 M0 (ck_Q pg_O σ0 pg_s87.2.2.2.2.1 245 K0 R0 M0 pg_s87.2.2.2.2.2) σ (147, pg_s87_C147, 0, 0, 245) := rl_147 pg_s87_u pg_s87_h hσ (by decide) (by decide +kernel) (by decide +kernel) ⟨by decide +kernel, by decide +kernel, by decide +kernel, by decide +kernel, by decide +kernel⟩ pg_s87_c (fun _ h => nomatch h)
theorem pg_s87_y111 {X : Int → Int} {LX : Nat} {σ σ0 : Nat → Int} {K0 : gm_K} {R0 : gm_R} {M0 : gm_M} (hσ : ∀ s, s < 100 → σ s = σ0 s) : ck_Hy pg_O X LX 274 pg_s87.1.1 pg_s87.2.2.2.2.1 245 K0 R0 M0 (ck_Q pg_O σ0 pg_s87.2.2.2.2.1 245 K0 R0 M0 pg_s87.2.2.2.2.2) σ (111, pg_s87_C111, 0, 0, 245) := rl_111 pg_s87_u pg_s87_h hσ (by decide) (by decide +kernel) ⟨by decide +kernel, by decide +kernel, by decide +kernel, by decide +kernel⟩ pg_s87_b (fun h hm => by
  rw [List.mem_singleton.mp hm]
  exact ⟨List.mem_cons_self, pg_s87_y147 hσ⟩)
theorem pg_s87_s {X : Int → Int} {LX : Nat} : ck_Ok pg_O X LX 274 pg_s87 := by
  refine ck_ok_st (cuts := pg_s87_Z) pg_s87_u pg_s87_h pg_s87_a (fun h hm => ?_)
  rcases List.mem_cons.mp hm with rfl | hm
  · exact ⟨List.mem_cons_self, fun σ K0 R0 M0 => pg_s87_y147 (fun _ _ => rfl)⟩
  rw [List.mem_singleton.mp hm]
  exact ⟨List.mem_cons_of_mem _ List.mem_cons_self, fun σ K0 R0 M0 => pg_s87_y111 (fun _ _ => rfl)⟩
set_option maxRecDepth 100000 in
/-- GlacierMailModel.readLine -/
def pg_s88 : ck_Sum := ((31, 0, 0), 245, [.inr (.inr (.inl 226)), .inl (ck_one 0), .inl (ck_one 10)], ([], [], [(0, 2, 2, ck_one 10), (0, 0, 0, (0, 400, [(30, 0)])), (0, 3, 3, ((-400), 400, [(31, 0)])), (0, 4, 4, ((-400), 400, [(32, 0)])), (0, 5, 5, (0, 400, [(33, 0)])), (0, 6, 6, (0, 1, [])), (226, 9, 9, (0, 400, [(1, 0)])), (226, 15, 15, (0, 400, [(2, 0)]))]), ([(0, 0, 6), (226, 9, 9), (226, 11, 12), (226, 15, 15), (227, 1285, 1288), (227, 1293, 2092)], []), [(.inr (some (.inl (ck_one 0))), 245, ([], [], [(0, 2, 2, ck_one 10), (0, 0, 0, (0, 400, [])), (0, 3, 3, (0, 400, [(1000033, 0)])), (0, 4, 4, ((-400), 400, [])), (0, 5, 5, (0, 400, [(1000033, 0)])), (0, 6, 6, (0, 1, [])), (226, 9, 9, (0, 400, [(1000001, 0)]))])), (.inr (some (.inl (ck_one 1))), 245, ([], [], [(0, 5, 5, (4, 400, [(1000033, 4)])), (226, 11, 11, (0, 400, [(1000001, 0)])), (0, 0, 0, ck_one 0), (0, 2, 2, ck_one 11), (0, 6, 6, ck_one 0), (0, 3, 3, (4, 400, [(1000033, 4)])), (0, 4, 4, ck_one 0), (226, 9, 9, (0, 400, [(1000001, 0)])), (226, 12, 12, ck_one 0), (227, 1286, 1286, (0, 20, [])), (227, 1285, 1285, (0, 2, []))]))])
set_option maxRecDepth 100000 in
theorem pg_s88_e : ck_ok pg_O none [] [(248, [pg_s3]), (274, [pg_s87])] 247 [] 102 pg_s88 = true := by decide +kernel
theorem pg_s88_s {X : Int → Int} {LX : Nat} : ck_Ok pg_O X LX 247 pg_s88 := ck_ok_s ⟨pg_nmu, ck_E1 (ck_S1 pg_s3_s ck_S0) (ck_E1 (ck_S1 pg_s87_s ck_S0) ck_E0)⟩ ck_X0 ck_l0 pg_s88_e
set_option maxRecDepth 100000 in
/-- GlacierMailModel.readLawLine -/
def pg_s89 : ck_Sum := ((30, 0, 0), 245, [.inr (.inr (.inl 226)), .inl (ck_one 11)], ([], [], [(0, 2, 2, ck_one 11), (0, 0, 0, (0, 400, [(30, 0)])), (0, 3, 3, ((-400), 400, [(31, 0)])), (0, 4, 4, ((-400), 400, [(32, 0)])), (0, 5, 5, (0, 400, [(33, 0)])), (0, 6, 6, (0, 1, [])), (226, 9, 9, (0, 400, [(1, 0)])), (226, 15, 15, (0, 400, [(2, 0)]))]), ([(0, 0, 6), (226, 9, 9), (226, 11, 12), (226, 15, 15), (227, 1289, 2092)], []), [(.inr (some (.inl (ck_one 0))), 245, ([], [], [(0, 2, 2, ck_one 11), (0, 0, 0, (0, 400, [])), (0, 3, 3, ((-400), 400, [(1000031, 0)])), (0, 4, 4, ((-400), 400, [])), (0, 5, 5, (0, 400, [(1000033, 0)])), (0, 6, 6, (0, 1, [])), (226, 9, 9, (0, 400, [(1000001, 0)]))])), (.inr (some (.inl (ck_one 1))), 245, ([], [], [(0, 0, 0, ck_one 0), (0, 2, 2, ck_one 12), (0, 6, 6, ck_one 0), (0, 5, 5, (0, 400, [(1000033, 0), (1000031, 4)])), (226, 11, 11, (0, 400, [(1000001, 0)])), (0, 3, 3, (0, 400, [(1000033, 0), (1000031, 4)])), (0, 4, 4, ck_one 0), (226, 9, 9, (0, 400, [(1000001, 0)])), (226, 12, 12, ck_one 0), (227, 1290, 1290, (0, 20, [])), (227, 1289, 1289, (0, 2, []))]))])
def pg_s89_E : List (Nat × List ck_Sum) := [(250, [pg_s4, pg_s5, pg_s6]), (256, [pg_s8]), (269, [pg_s10]), (275, [pg_s66])]
set_option maxRecDepth 100000 in
def pg_s89_F111 : ck_F := ([], [], [(0, 5, 5, (0, 400, [(1000033, 0), (1000031, 4)])), (226, 11, 11, (0, 399, [])), (227, 1290, 1290, (0, 20, [])), (227, 1289, 1289, (0, 2, [])), (0, 4, 4, (1, 4, [])), (0, 2, 2, ck_one 11), (0, 0, 0, (0, 400, [(30, 0)])), (0, 3, 3, ((-400), 400, [(1000031, 0)])), (0, 6, 6, (0, 1, [])), (226, 9, 9, (0, 400, [(1000001, 0)])), (226, 15, 15, (0, 400, [(2, 0)]))])
def pg_s89_C111 : ck_C := (rl_A 11, pg_s89_F111, 0, .inl 2, true)
set_option maxRecDepth 100000 in
def pg_s89_F147 : ck_F := ([], [], [(0, 5, 5, (0, 400, [(1000033, 0), (1000031, 4)])), (226, 11, 11, (0, 400, [(1000001, 0)])), (0, 3, 3, (0, 400, [(1000033, 0), (1000031, 4)])), (0, 4, 4, ck_one 0), (226, 9, 9, (0, 400, [(1000001, 0)])), (226, 12, 12, ck_one 0), (0, 0, 0, (0, 1, [])), (0, 6, 6, ck_one 1), (227, 1290, 1290, (0, 20, [])), (227, 1289, 1289, (0, 2, [])), (0, 2, 2, ck_one 11), (226, 15, 15, (0, 400, []))])
def pg_s89_C147 : ck_C := (rl_A 11, pg_s89_F147, 0, .inl 2, true)
def pg_s89_Z : List (Nat × ck_C) := [(147, pg_s89_C147), (111, pg_s89_C111)]
set_option maxRecDepth 100000 in
theorem pg_s89_a : (decide (pg_s89.2.2.1.length ≤ gm_ml 274) && ck_go pg_O none [] pg_s89_E 274 pg_s89.1.1 pg_s89.2.1 pg_s89.2.2.2.2.1 pg_s89.2.2.2.2.2 pg_s89_Z 416 false [(147, pg_s89_C147, 0, 0, 245), (111, pg_s89_C111, 0, 0, 245)] pg_s89.1.2.1 pg_s89.1.2.2 0 (pg_s89.2.2.1.map some ++ List.replicate (gm_ml 274 - pg_s89.2.2.1.length) none) [] pg_s89.2.1 pg_s89.2.2.2.1) = true := by decide +kernel
set_option maxRecDepth 100000 in
theorem pg_s89_b : ck_go pg_O none [] pg_s89_E 274 pg_s89.1.1 245 pg_s89.2.2.2.2.1 pg_s89.2.2.2.2.2 pg_s89_Z 416 false [(147, pg_s89_C147, 0, 0, 245)] 0 0 123 (rl_A 11) [] 245 (rl_F1 11 pg_s89_F111) = true := by decide +kernel
set_option maxRecDepth 100000 in
theorem pg_s89_c : ck_go pg_O none [] pg_s89_E 274 pg_s89.1.1 245 pg_s89.2.2.2.2.1 pg_s89.2.2.2.2.2 pg_s89_Z 416 false [] 0 0 159 (rl_A 11) [] 245 (rl_F2 11 pg_s89_F147) = true := by decide +kernel
theorem pg_s89_u : ck_cu pg_s89_Z = true := by decide +kernel
theorem pg_s89_h {X : Int → Int} {LX : Nat} : ck_nmu pg_O ∧ ck_OkE pg_O X LX pg_s89_E := ⟨pg_nmu, ck_E1 (ck_S1 pg_s4_s (ck_S1 pg_s5_s (ck_S1 pg_s6_s ck_S0))) (ck_E1 (ck_S1 pg_s8_s ck_S0) (ck_E1 (ck_S1 pg_s10_s ck_S0) (ck_E1 (ck_S1 pg_s66_s ck_S0) ck_E0)))⟩
theorem pg_s89_y147 {X : Int → Int} {LX : Nat} {σ σ0 : Nat → Int} {K0 : gm_K} {R0 : gm_R} {M0 : gm_M} (hσ : ∀ s, s < 100 → σ s = σ0 s) : ck_Hy pg_O X LX 274 pg_s89.1.1 pg_s89.2.2.2.2.1 245 K0 R0 M0 (ck_Q pg_O σ0 pg_s89.2.2.2.2.1 245 K0 R0 M0 pg_s89.2.2.2.2.2) σ (147, pg_s89_C147, 0, 0, 245) := rl_147 pg_s89_u pg_s89_h hσ (by decide) (by decide +kernel) (by decide +kernel) ⟨by decide +kernel, by decide +kernel, by decide +kernel, by decide +kernel, by decide +kernel⟩ pg_s89_c (fun _ h => nomatch h)
theorem pg_s89_y111 {X : Int → Int} {LX : Nat} {σ σ0 : Nat → Int} {K0 : gm_K} {R0 : gm_R} {M0 : gm_M} (hσ : ∀ s, s < 100 → σ s = σ0 s) : ck_Hy pg_O X LX 274 pg_s89.1.1 pg_s89.2.2.2.2.1 245 K0 R0 M0 (ck_Q pg_O σ0 pg_s89.2.2.2.2.1 245 K0 R0 M0 pg_s89.2.2.2.2.2) σ (111, pg_s89_C111, 0, 0, 245) := rl_111 pg_s89_u pg_s89_h hσ (by decide) (by decide +kernel) ⟨by decide +kernel, by decide +kernel, by decide +kernel, by decide +kernel⟩ pg_s89_b (fun h hm => by
  rw [List.mem_singleton.mp hm]
  exact ⟨List.mem_cons_self, pg_s89_y147 hσ⟩)
theorem pg_s89_s {X : Int → Int} {LX : Nat} : ck_Ok pg_O X LX 274 pg_s89 := by
  refine ck_ok_st (cuts := pg_s89_Z) pg_s89_u pg_s89_h pg_s89_a (fun h hm => ?_)
  rcases List.mem_cons.mp hm with rfl | hm
  · exact ⟨List.mem_cons_self, fun σ K0 R0 M0 => pg_s89_y147 (fun _ _ => rfl)⟩
  rw [List.mem_singleton.mp hm]
  exact ⟨List.mem_cons_of_mem _ List.mem_cons_self, fun σ K0 R0 M0 => pg_s89_y111 (fun _ _ => rfl)⟩
set_option maxRecDepth 100000 in
/-- GlacierMailModel.readLine -/
def pg_s90 : ck_Sum := ((31, 0, 0), 245, [.inr (.inr (.inl 226)), .inl (ck_one 0), .inl (ck_one 11)], ([], [], [(0, 2, 2, ck_one 11), (0, 0, 0, (0, 400, [(30, 0)])), (0, 3, 3, ((-400), 400, [(31, 0)])), (0, 4, 4, ((-400), 400, [(32, 0)])), (0, 5, 5, (0, 400, [(33, 0)])), (0, 6, 6, (0, 1, [])), (226, 9, 9, (0, 400, [(1, 0)])), (226, 15, 15, (0, 400, [(2, 0)]))]), ([(0, 0, 6), (226, 9, 9), (226, 11, 12), (226, 15, 15), (227, 1289, 2092)], []), [(.inr (some (.inl (ck_one 0))), 245, ([], [], [(0, 2, 2, ck_one 11), (0, 0, 0, (0, 400, [])), (0, 3, 3, (0, 400, [(1000033, 0)])), (0, 4, 4, ((-400), 400, [])), (0, 5, 5, (0, 400, [(1000033, 0)])), (0, 6, 6, (0, 1, [])), (226, 9, 9, (0, 400, [(1000001, 0)]))])), (.inr (some (.inl (ck_one 1))), 245, ([], [], [(0, 5, 5, (4, 400, [(1000033, 4)])), (226, 11, 11, (0, 400, [(1000001, 0)])), (0, 0, 0, ck_one 0), (0, 2, 2, ck_one 12), (0, 6, 6, ck_one 0), (0, 3, 3, (4, 400, [(1000033, 4)])), (0, 4, 4, ck_one 0), (226, 9, 9, (0, 400, [(1000001, 0)])), (226, 12, 12, ck_one 0), (227, 1290, 1290, (0, 20, [])), (227, 1289, 1289, (0, 2, []))]))])
set_option maxRecDepth 100000 in
theorem pg_s90_e : ck_ok pg_O none [] [(248, [pg_s3]), (274, [pg_s89])] 247 [] 102 pg_s90 = true := by decide +kernel
theorem pg_s90_s {X : Int → Int} {LX : Nat} : ck_Ok pg_O X LX 247 pg_s90 := ck_ok_s ⟨pg_nmu, ck_E1 (ck_S1 pg_s3_s ck_S0) (ck_E1 (ck_S1 pg_s89_s ck_S0) ck_E0)⟩ ck_X0 ck_l0 pg_s90_e
set_option maxRecDepth 100000 in
/-- GlacierMailModel.readLine -/
def pg_s91 : ck_Sum := ((3, 0, 0), 245, [.inr (.inr (.inl 226)), .inl (ck_one 0), .inl (ck_one 12)], ([], [], [(0, 3, 3, ((-400), 400, [(31, 0)])), (0, 4, 4, ((-400), 400, [(32, 0)])), (0, 5, 5, (0, 400, [(33, 0)])), (226, 9, 9, (0, 400, [(1, 0)]))]), ([(0, 3, 5), (226, 9, 9), (226, 11, 11)], []), [(.inr (some (.inl (ck_one 0))), 245, ([], [], [(0, 5, 5, (0, 400, [(1000033, 0)])), (226, 11, 11, (0, 400, [(1000001, 0)])), (0, 3, 3, (0, 400, [(1000033, 0)])), (0, 4, 4, (0, 400, [])), (226, 9, 9, (0, 400, [(1000001, 0)]))]))])
set_option maxRecDepth 100000 in
theorem pg_s91_e : ck_ok pg_O none [] [(248, [pg_s3])] 247 [] 88 pg_s91 = true := by decide +kernel
theorem pg_s91_s {X : Int → Int} {LX : Nat} : ck_Ok pg_O X LX 247 pg_s91 := ck_ok_s ⟨pg_nmu, ck_E1 (ck_S1 pg_s3_s ck_S0) ck_E0⟩ ck_X0 ck_l0 pg_s91_e
set_option maxRecDepth 100000 in
/-- GlacierMailModel.isAt -/
def pg_s92 : ck_Sum := ((0, 0, 0), 245, [.inr (.inr (.inl 226)), .inl (ck_one 59), .inl (ck_one 59)], ([], [], [(226, 9, 9, (0, 400, [(1, 0)]))]), ([], []), [(.inr (some (.inl (ck_one 0))), 245, ([], [], [])), (.inr (some (.inl (ck_one 1))), 245, ([], [], [(226, 10, 10, (1, 400, [])), (226, 9, 9, (0, 399, [(1, 0)]))]))])
set_option maxRecDepth 100000 in
theorem pg_s92_e : ck_ok pg_O none [] [] 246 [] 114 pg_s92 = true := by decide +kernel
theorem pg_s92_s {X : Int → Int} {LX : Nat} : ck_Ok pg_O X LX 246 pg_s92 := ck_ok_s ⟨pg_nmu, ck_E0⟩ ck_X0 ck_l0 pg_s92_e
set_option maxRecDepth 100000 in
/-- GlacierMailModel.throwsIf -/
def pg_s93 : ck_Sum := ((0, 0, 0), 245, [.inr (.inr (.inl 226)), .inl (ck_one 0), .inl (ck_one 1)], ([], [], []), ([], []), [(.inr (some (.inl (ck_one 0))), 245, ([], [], []))])
set_option maxRecDepth 100000 in
theorem pg_s93_e : ck_ok pg_O none [] [] 282 [] 78 pg_s93 = true := by decide +kernel
theorem pg_s93_s {X : Int → Int} {LX : Nat} : ck_Ok pg_O X LX 282 pg_s93 := ck_ok_s ⟨pg_nmu, ck_E0⟩ ck_X0 ck_l0 pg_s93_e
set_option maxRecDepth 100000 in
/-- GlacierMailModel.throwsIf -/
def pg_s94 : ck_Sum := ((0, 0, 0), 245, [.inr (.inr (.inl 226)), .inl (ck_one 1), .inl (ck_one 1)], ([], [], []), ([(226, 0, 0)], []), [(.inr (some (.inl (ck_one 1))), 245, ([], [], [(226, 0, 0, ck_one 1)]))])
set_option maxRecDepth 100000 in
theorem pg_s94_e : ck_ok pg_O none [] [] 282 [] 84 pg_s94 = true := by decide +kernel
theorem pg_s94_s {X : Int → Int} {LX : Nat} : ck_Ok pg_O X LX 282 pg_s94 := ck_ok_s ⟨pg_nmu, ck_E0⟩ ck_X0 ck_l0 pg_s94_e
