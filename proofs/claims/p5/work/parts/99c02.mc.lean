/-! THE LAW'S CASES (laid by wip/pp/gen99v.py). -/
section MCC
variable {X : Int → Int} {LX g bc bs : Nat} {i : Int} {la : Nat → Nat} {K : gm_K} {R : gm_R} {M : gm_M} {Q : gm_Q} {L : gm_L}
theorem mc_27 (hb : bg g la K R M) (hg : g < 9990) (hM : rl M) (hL : mn_L i L) (hi : 0 ≤ i ∧ i + 6 ≤ (LX : Int)) (hLX : LX ≤ 3072) (hX : ∀ j, gm_ir (X j)) (hbc : 12 ≤ bc) (hbs : 1200 ≤ bs) (rest : mn_R X LX bc bs i g Q) : gm_Wp X LX 280 bc bs 370 1281 L [] (245 + 4 * g) K R M Q := by
  obtain ⟨hM, hMb⟩ := hM
  refine gm_sz (gm_p_load (pc := 1281) (i := .aload_n 1) (sr := 2) (j := 1) (by decide +kernel) rfl hL.2.2.1 rfl) ?_
  refine mn_arg (pc := 1282) (j := 1) (by decide +kernel) (by decide +kernel) (by decide +kernel) (by decide +kernel) (by decide +kernel) hL hi (by decide) hLX ?_
  refine mn_arg (pc := 1288) (j := 2) (by decide +kernel) (by decide +kernel) (by decide +kernel) (by decide +kernel) (by decide +kernel) hL hi (by decide) hLX ?_
  refine mn_arg (pc := 1294) (j := 3) (by decide +kernel) (by decide +kernel) (by decide +kernel) (by decide +kernel) (by decide +kernel) hL hi (by decide) hLX ?_
  refine gm_sz (gm_p_load (pc := 1300) (i := .aload_n 3) (sr := 2) (j := 3) (by decide +kernel) rfl hL.2.2.2.2.1 rfl) ?_
  refine mn_x (pc := 1301) (ix := 238) (mj := 194) (xs := [X (i + 1), X (i + 2), X (i + 3)]) (st := []) (ds := [(-2147483648, 2147483647), (-2147483648, 2147483647), (-2147483648, 2147483647)]) (md := 0) hb (by omega) (by decide +kernel) (by decide +kernel) (by decide +kernel) (by decide +kernel) (show 5 = gm_na 194 by decide +kernel) (show 5 ≤ gm_ml 194 by decide +kernel) (Nat.le_of_ble_eq_true rfl) hx_apart_s hl_apart_s hx_apart_c hl_apart_c hx_apart_v hl_apart_v (bc_in1 (mn_w (hX _)) (bc_in1 (mn_w (hX _)) (bc_in1 (mn_w (hX _)) bc_in0))) (List.forall_mem_cons.mpr ⟨hX _, (List.forall_mem_cons.mpr ⟨hX _, (List.forall_mem_cons.mpr ⟨hX _, (fun _ h => nomatch h)⟩)⟩)⟩) (by omega) (by omega) (fun g1 la1 K1 R1 M1 u1 hb1 hg1 ho1 hp1 hu1 hk1 => ?_)
  have hp1 : M1 1 1 = M 1 1 := hp1
  obtain ⟨y1, rfl⟩ : ∃ y, u1 = some (gm_vi y) := hu1
  show gm_Wp X LX 280 _ _ 370 1304 L [gm_vi y1] (245 + 4 * g1) K1 R1 M1 Q
  refine gm_sz (gm_p_stor (pc := 1304) (i := .istore 5) (sr := 0) (j := 5) (by decide +kernel) rfl (by show 5 + 0 < L.length; have := hL.1; omega) rfl) ?_
  have hL5 := mn_L_s (y := y1) hL (j := 5) (Or.inl rfl)
  generalize gm_lst L 5 (gm_vi y1) = L5 at hL5 ⊢
  refine gm_sz (gm_p_load (pc := 1306) (i := .aload_n 2) (sr := 2) (j := 2) (by decide +kernel) rfl hL5.2.2.2.1 rfl) ?_
  refine mn_arg (pc := 1307) (j := 1) (by decide +kernel) (by decide +kernel) (by decide +kernel) (by decide +kernel) (by decide +kernel) hL5 hi (by decide) hLX ?_
  refine mn_arg (pc := 1313) (j := 2) (by decide +kernel) (by decide +kernel) (by decide +kernel) (by decide +kernel) (by decide +kernel) hL5 hi (by decide) hLX ?_
  refine mn_arg (pc := 1319) (j := 3) (by decide +kernel) (by decide +kernel) (by decide +kernel) (by decide +kernel) (by decide +kernel) hL5 hi (by decide) hLX ?_
  refine mn_m (pc := 1325) (ix := 240) (mj := 344) (xs := [X (i + 1), X (i + 2), X (i + 3)]) (st := []) (ds := [(-2147483648, 2147483647), (-2147483648, 2147483647), (-2147483648, 2147483647)]) (md := 0) (r := true) hb1 (by omega) (by decide +kernel) (by decide +kernel) (by decide +kernel) (by decide +kernel) (show 3 = gm_na 344 by decide +kernel) (show 4 ≤ gm_ml 344 by decide +kernel) (Nat.le_of_ble_eq_true rfl) hm_apart_s hm_apart_c hm_apart_v (bc_in1 (mn_w (hX _)) (bc_in1 (mn_w (hX _)) (bc_in1 (mn_w (hX _)) bc_in0))) (List.forall_mem_cons.mpr ⟨hX _, (List.forall_mem_cons.mpr ⟨hX _, (List.forall_mem_cons.mpr ⟨hX _, (fun _ h => nomatch h)⟩)⟩)⟩) (by omega) (by omega) (fun g2 la2 K2 R2 M2 u2 hb2 hg2 ho2 hp2 hu2 hk2 => ?_)
  have hp2 : M2 226 8 = M1 226 8 := hp2
  obtain ⟨y2, rfl⟩ : ∃ y, u2 = some (gm_vi y) := hu2
  show gm_Wp X LX 280 _ _ 370 1328 L5 [gm_vi y2] (245 + 4 * g2) K2 R2 M2 Q
  refine gm_sz (gm_p_stor (pc := 1328) (i := .istore 6) (sr := 0) (j := 6) (by decide +kernel) rfl (by show 6 + 0 < L5.length; have := hL5.1; omega) rfl) ?_
  have hL6 := mn_L_s (y := y2) hL5 (j := 6) (Or.inr rfl)
  generalize gm_lst L5 6 (gm_vi y2) = L6 at hL6 ⊢
  refine gm_sz (gm_p_goto (pc := 1330) (off := 663) (by decide +kernel) (by decide)) ?_
  exact gm_Wp_wk (Nat.le_refl _) (by omega) (by omega) (rest g2 la2 K2 R2 M2 L6 hb2 (by omega) ⟨by omega, fun j j1 j2 => by have a1 := hk1 j j1 j2; have a2 := hk2 j j1 j2; have a3 := hMb j j1 j2; omega⟩ hL6)
theorem mc_28 (hb : bg g la K R M) (hg : g < 9990) (hM : rl M) (hL : mn_L i L) (hi : 0 ≤ i ∧ i + 6 ≤ (LX : Int)) (hLX : LX ≤ 3072) (hX : ∀ j, gm_ir (X j)) (hbc : 12 ≤ bc) (hbs : 1200 ≤ bs) (rest : mn_R X LX bc bs i g Q) : gm_Wp X LX 280 bc bs 370 1333 L [] (245 + 4 * g) K R M Q := by
  obtain ⟨hM, hMb⟩ := hM
  refine gm_sz (gm_p_load (pc := 1333) (i := .aload_n 1) (sr := 2) (j := 1) (by decide +kernel) rfl hL.2.2.1 rfl) ?_
  refine mn_d (pc := 1334) (ix := 241) (mj := 48) (xs := []) (st := []) (ds := []) (md := 0) (r := true) hb (by omega) (by decide +kernel) (by decide +kernel) (by decide +kernel) (by decide +kernel) (show 0 = gm_na 48 by decide +kernel) (show 1 ≤ gm_ml 48 by decide +kernel) (Nat.le_of_ble_eq_true rfl) hx_poles_s hl_poles_s hx_poles_c hl_poles_c hx_poles_v hl_poles_v bc_in0 (fun _ h => nomatch h) (by omega) (by omega) (fun g1 la1 K1 R1 M1 u1 hb1 hg1 ho1 hp1 hu1 hk1 => ?_)
  have hp1 : M1 1 1 = M 1 1 := hp1
  obtain ⟨y1, rfl⟩ : ∃ y, u1 = some (gm_vi y) := hu1
  show gm_Wp X LX 280 _ _ 370 1337 L [gm_vi y1] (245 + 4 * g1) K1 R1 M1 Q
  refine gm_sz (gm_p_pop (pc := 1337) (by decide +kernel) (by simp [gm_sort])) ?_
  refine gm_sz (gm_p_load (pc := 1338) (i := .aload_n 2) (sr := 2) (j := 2) (by decide +kernel) rfl hL.2.2.2.1 rfl) ?_
  refine mn_m (pc := 1339) (ix := 244) (mj := 347) (xs := []) (st := []) (ds := []) (md := 0) (r := true) hb1 (by omega) (by decide +kernel) (by decide +kernel) (by decide +kernel) (by decide +kernel) (show 0 = gm_na 347 by decide +kernel) (show 1 ≤ gm_ml 347 by decide +kernel) (Nat.le_of_ble_eq_true rfl) hm_poles_s hm_poles_c hm_poles_v bc_in0 (fun _ h => nomatch h) (by omega) (by omega) (fun g2 la2 K2 R2 M2 u2 hb2 hg2 ho2 hp2 hu2 hk2 => ?_)
  have hp2 : M2 226 8 = M1 226 8 := hp2
  obtain ⟨y2, rfl⟩ : ∃ y, u2 = some (gm_vi y) := hu2
  show gm_Wp X LX 280 _ _ 370 1342 L [gm_vi y2] (245 + 4 * g2) K2 R2 M2 Q
  refine gm_sz (gm_p_pop (pc := 1342) (by decide +kernel) (by simp [gm_sort])) ?_
  refine gm_sz (gm_p_goto (pc := 1343) (off := 650) (by decide +kernel) (by decide)) ?_
  exact gm_Wp_wk (Nat.le_refl _) (by omega) (by omega) (rest g2 la2 K2 R2 M2 L hb2 (by omega) ⟨by omega, fun j j1 j2 => by have a1 := hk1 j j1 j2; have a2 := hk2 j j1 j2; have a3 := hMb j j1 j2; omega⟩ hL)
theorem mc_29 (hb : bg g la K R M) (hg : g < 9990) (hM : rl M) (hL : mn_L i L) (hi : 0 ≤ i ∧ i + 6 ≤ (LX : Int)) (hLX : LX ≤ 3072) (hX : ∀ j, gm_ir (X j)) (hbc : 12 ≤ bc) (hbs : 1200 ≤ bs) (rest : mn_R X LX bc bs i g Q) : gm_Wp X LX 280 bc bs 370 1346 L [] (245 + 4 * g) K R M Q := by
  obtain ⟨hM, hMb⟩ := hM
  refine gm_sz (gm_p_load (pc := 1346) (i := .aload_n 1) (sr := 2) (j := 1) (by decide +kernel) rfl hL.2.2.1 rfl) ?_
  refine gm_sz (gm_p_load (pc := 1347) (i := .aload_n 3) (sr := 2) (j := 3) (by decide +kernel) rfl hL.2.2.2.2.1 rfl) ?_
  refine mn_x (pc := 1348) (ix := 245) (mj := 196) (xs := []) (st := []) (ds := []) (md := 1) hb (by omega) (by decide +kernel) (by decide +kernel) (by decide +kernel) (by decide +kernel) (show 2 = gm_na 196 by decide +kernel) (show 2 ≤ gm_ml 196 by decide +kernel) (Nat.le_of_ble_eq_true rfl) hx_fit_s hl_fit_s hx_fit_c hl_fit_c hx_fit_v hl_fit_v bc_in0 (fun _ h => nomatch h) (by omega) (by omega) (fun g1 la1 K1 R1 M1 u1 hb1 hg1 ho1 hp1 hu1 hk1 => ?_)
  have hp1 : M1 1 1 = 0 := hp1
  obtain ⟨y1, rfl⟩ : ∃ y, u1 = some (gm_vi y) := hu1
  show gm_Wp X LX 280 _ _ 370 1351 L [gm_vi y1] (245 + 4 * g1) K1 R1 M1 Q
  refine gm_sz (gm_p_stor (pc := 1351) (i := .istore 5) (sr := 0) (j := 5) (by decide +kernel) rfl (by show 5 + 0 < L.length; have := hL.1; omega) rfl) ?_
  have hL5 := mn_L_s (y := y1) hL (j := 5) (Or.inl rfl)
  generalize gm_lst L 5 (gm_vi y1) = L5 at hL5 ⊢
  refine gm_sz (gm_p_load (pc := 1353) (i := .aload_n 2) (sr := 2) (j := 2) (by decide +kernel) rfl hL5.2.2.2.1 rfl) ?_
  refine mn_m (pc := 1354) (ix := 247) (mj := 348) (xs := []) (st := []) (ds := []) (md := 1) (r := true) hb1 (by omega) (by decide +kernel) (by decide +kernel) (by decide +kernel) (by decide +kernel) (show 0 = gm_na 348 by decide +kernel) (show 1 ≤ gm_ml 348 by decide +kernel) (Nat.le_of_ble_eq_true rfl) hm_fit_s hm_fit_c hm_fit_v bc_in0 (fun _ h => nomatch h) (by omega) (by omega) (fun g2 la2 K2 R2 M2 u2 hb2 hg2 ho2 hp2 hu2 hk2 => ?_)
  have hp2 : M2 226 8 = 0 := hp2
  obtain ⟨y2, rfl⟩ : ∃ y, u2 = some (gm_vi y) := hu2
  show gm_Wp X LX 280 _ _ 370 1357 L5 [gm_vi y2] (245 + 4 * g2) K2 R2 M2 Q
  refine gm_sz (gm_p_stor (pc := 1357) (i := .istore 6) (sr := 0) (j := 6) (by decide +kernel) rfl (by show 6 + 0 < L5.length; have := hL5.1; omega) rfl) ?_
  have hL6 := mn_L_s (y := y2) hL5 (j := 6) (Or.inr rfl)
  generalize gm_lst L5 6 (gm_vi y2) = L6 at hL6 ⊢
  refine gm_sz (gm_p_goto (pc := 1359) (off := 634) (by decide +kernel) (by decide)) ?_
  exact gm_Wp_wk (Nat.le_refl _) (by omega) (by omega) (rest g2 la2 K2 R2 M2 L6 hb2 (by omega) ⟨by omega, fun j j1 j2 => by have a1 := hk1 j j1 j2; have a2 := hk2 j j1 j2; have a3 := hMb j j1 j2; omega⟩ hL6)
theorem mc_30 (hb : bg g la K R M) (hg : g < 9990) (hM : rl M) (hL : mn_L i L) (hi : 0 ≤ i ∧ i + 6 ≤ (LX : Int)) (hLX : LX ≤ 3072) (hX : ∀ j, gm_ir (X j)) (hbc : 12 ≤ bc) (hbs : 1200 ≤ bs) (rest : mn_R X LX bc bs i g Q) : gm_Wp X LX 280 bc bs 370 1362 L [] (245 + 4 * g) K R M Q := by
  obtain ⟨hM, hMb⟩ := hM
  refine gm_sz (gm_p_load (pc := 1362) (i := .aload_n 1) (sr := 2) (j := 1) (by decide +kernel) rfl hL.2.2.1 rfl) ?_
  refine mn_arg (pc := 1363) (j := 1) (by decide +kernel) (by decide +kernel) (by decide +kernel) (by decide +kernel) (by decide +kernel) hL hi (by decide) hLX ?_
  refine mn_arg (pc := 1369) (j := 2) (by decide +kernel) (by decide +kernel) (by decide +kernel) (by decide +kernel) (by decide +kernel) hL hi (by decide) hLX ?_
  refine mn_arg (pc := 1375) (j := 3) (by decide +kernel) (by decide +kernel) (by decide +kernel) (by decide +kernel) (by decide +kernel) hL hi (by decide) hLX ?_
  refine mn_bool (pc := 1381) (by decide +kernel) (by decide +kernel) (by decide +kernel) (by decide +kernel) (fun b1 p1 q1 => ?_)
  refine gm_sz (gm_p_load (pc := 1389) (i := .aload_n 3) (sr := 2) (j := 3) (by decide +kernel) rfl hL.2.2.2.2.1 rfl) ?_
  refine mn_x (pc := 1390) (ix := 248) (mj := 200) (xs := [X (i + 1), X (i + 2), b1]) (st := []) (ds := [(-2147483648, 2147483647), (-2147483648, 2147483647), (0, 1)]) (md := 0) hb (by omega) (by decide +kernel) (by decide +kernel) (by decide +kernel) (by decide +kernel) (show 5 = gm_na 200 by decide +kernel) (show 5 ≤ gm_ml 200 by decide +kernel) (Nat.le_of_ble_eq_true rfl) hx_soonest_s hl_soonest_s hx_soonest_c hl_soonest_c hx_soonest_v hl_soonest_v (bc_in1 (mn_w (hX _)) (bc_in1 (mn_w (hX _)) (bc_in1 ⟨p1, q1⟩ bc_in0))) (List.forall_mem_cons.mpr ⟨hX _, (List.forall_mem_cons.mpr ⟨hX _, (List.forall_mem_cons.mpr ⟨⟨by omega, by omega⟩, (fun _ h => nomatch h)⟩)⟩)⟩) (by omega) (by omega) (fun g1 la1 K1 R1 M1 u1 hb1 hg1 ho1 hp1 hu1 hk1 => ?_)
  have hp1 : M1 1 1 = M 1 1 := hp1
  obtain ⟨y1, rfl⟩ : ∃ y, u1 = some (gm_vi y) := hu1
  show gm_Wp X LX 280 _ _ 370 1393 L [gm_vi y1] (245 + 4 * g1) K1 R1 M1 Q
  refine gm_sz (gm_p_stor (pc := 1393) (i := .istore 5) (sr := 0) (j := 5) (by decide +kernel) rfl (by show 5 + 0 < L.length; have := hL.1; omega) rfl) ?_
  have hL5 := mn_L_s (y := y1) hL (j := 5) (Or.inl rfl)
  generalize gm_lst L 5 (gm_vi y1) = L5 at hL5 ⊢
  refine gm_sz (gm_p_load (pc := 1395) (i := .aload_n 2) (sr := 2) (j := 2) (by decide +kernel) rfl hL5.2.2.2.1 rfl) ?_
  refine mn_arg (pc := 1396) (j := 1) (by decide +kernel) (by decide +kernel) (by decide +kernel) (by decide +kernel) (by decide +kernel) hL5 hi (by decide) hLX ?_
  refine mn_arg (pc := 1402) (j := 2) (by decide +kernel) (by decide +kernel) (by decide +kernel) (by decide +kernel) (by decide +kernel) hL5 hi (by decide) hLX ?_
  refine mn_arg (pc := 1408) (j := 3) (by decide +kernel) (by decide +kernel) (by decide +kernel) (by decide +kernel) (by decide +kernel) hL5 hi (by decide) hLX ?_
  refine mn_bool (pc := 1414) (by decide +kernel) (by decide +kernel) (by decide +kernel) (by decide +kernel) (fun b2 p2 q2 => ?_)
  refine mn_m (pc := 1422) (ix := 251) (mj := 349) (xs := [X (i + 1), X (i + 2), b2]) (st := []) (ds := [(-2147483648, 2147483647), (-2147483648, 2147483647), (0, 1)]) (md := 0) (r := true) hb1 (by omega) (by decide +kernel) (by decide +kernel) (by decide +kernel) (by decide +kernel) (show 3 = gm_na 349 by decide +kernel) (show 4 ≤ gm_ml 349 by decide +kernel) (Nat.le_of_ble_eq_true rfl) hm_soonest_s hm_soonest_c hm_soonest_v (bc_in1 (mn_w (hX _)) (bc_in1 (mn_w (hX _)) (bc_in1 ⟨p2, q2⟩ bc_in0))) (List.forall_mem_cons.mpr ⟨hX _, (List.forall_mem_cons.mpr ⟨hX _, (List.forall_mem_cons.mpr ⟨⟨by omega, by omega⟩, (fun _ h => nomatch h)⟩)⟩)⟩) (by omega) (by omega) (fun g2 la2 K2 R2 M2 u2 hb2 hg2 ho2 hp2 hu2 hk2 => ?_)
  have hp2 : M2 226 8 = M1 226 8 := hp2
  obtain ⟨y2, rfl⟩ : ∃ y, u2 = some (gm_vi y) := hu2
  show gm_Wp X LX 280 _ _ 370 1425 L5 [gm_vi y2] (245 + 4 * g2) K2 R2 M2 Q
  refine gm_sz (gm_p_stor (pc := 1425) (i := .istore 6) (sr := 0) (j := 6) (by decide +kernel) rfl (by show 6 + 0 < L5.length; have := hL5.1; omega) rfl) ?_
  have hL6 := mn_L_s (y := y2) hL5 (j := 6) (Or.inr rfl)
  generalize gm_lst L5 6 (gm_vi y2) = L6 at hL6 ⊢
  refine gm_sz (gm_p_goto (pc := 1427) (off := 566) (by decide +kernel) (by decide)) ?_
  exact gm_Wp_wk (Nat.le_refl _) (by omega) (by omega) (rest g2 la2 K2 R2 M2 L6 hb2 (by omega) ⟨by omega, fun j j1 j2 => by have a1 := hk1 j j1 j2; have a2 := hk2 j j1 j2; have a3 := hMb j j1 j2; omega⟩ hL6)
theorem mc_31 (hb : bg g la K R M) (hg : g < 9990) (hM : rl M) (hL : mn_L i L) (hi : 0 ≤ i ∧ i + 6 ≤ (LX : Int)) (hLX : LX ≤ 3072) (hX : ∀ j, gm_ir (X j)) (hbc : 12 ≤ bc) (hbs : 1200 ≤ bs) (rest : mn_R X LX bc bs i g Q) : gm_Wp X LX 280 bc bs 370 1430 L [] (245 + 4 * g) K R M Q := by
  obtain ⟨hM, hMb⟩ := hM
  refine gm_sz (gm_p_load (pc := 1430) (i := .aload_n 1) (sr := 2) (j := 1) (by decide +kernel) rfl hL.2.2.1 rfl) ?_
  refine mn_arg (pc := 1431) (j := 1) (by decide +kernel) (by decide +kernel) (by decide +kernel) (by decide +kernel) (by decide +kernel) hL hi (by decide) hLX ?_
  refine mn_arg (pc := 1437) (j := 2) (by decide +kernel) (by decide +kernel) (by decide +kernel) (by decide +kernel) (by decide +kernel) hL hi (by decide) hLX ?_
  refine mn_arg (pc := 1443) (j := 3) (by decide +kernel) (by decide +kernel) (by decide +kernel) (by decide +kernel) (by decide +kernel) hL hi (by decide) hLX ?_
  refine gm_sz (gm_p_load (pc := 1449) (i := .aload_n 3) (sr := 2) (j := 3) (by decide +kernel) rfl hL.2.2.2.2.1 rfl) ?_
  refine mn_x (pc := 1450) (ix := 252) (mj := 206) (xs := [X (i + 1), X (i + 2), X (i + 3)]) (st := []) (ds := [(-2147483648, 2147483647), (-2147483648, 2147483647), (-2147483648, 2147483647)]) (md := 0) hb (by omega) (by decide +kernel) (by decide +kernel) (by decide +kernel) (by decide +kernel) (show 5 = gm_na 206 by decide +kernel) (show 5 ≤ gm_ml 206 by decide +kernel) (Nat.le_of_ble_eq_true rfl) hx_chain_s hl_chain_s hx_chain_c hl_chain_c hx_chain_v hl_chain_v (bc_in1 (mn_w (hX _)) (bc_in1 (mn_w (hX _)) (bc_in1 (mn_w (hX _)) bc_in0))) (List.forall_mem_cons.mpr ⟨hX _, (List.forall_mem_cons.mpr ⟨hX _, (List.forall_mem_cons.mpr ⟨hX _, (fun _ h => nomatch h)⟩)⟩)⟩) (by omega) (by omega) (fun g1 la1 K1 R1 M1 u1 hb1 hg1 ho1 hp1 hu1 hk1 => ?_)
  have hp1 : M1 1 1 = M 1 1 := hp1
  obtain ⟨y1, rfl⟩ : ∃ y, u1 = some (gm_vi y) := hu1
  show gm_Wp X LX 280 _ _ 370 1453 L [gm_vi y1] (245 + 4 * g1) K1 R1 M1 Q
  refine gm_sz (gm_p_stor (pc := 1453) (i := .istore 5) (sr := 0) (j := 5) (by decide +kernel) rfl (by show 5 + 0 < L.length; have := hL.1; omega) rfl) ?_
  have hL5 := mn_L_s (y := y1) hL (j := 5) (Or.inl rfl)
  generalize gm_lst L 5 (gm_vi y1) = L5 at hL5 ⊢
  refine gm_sz (gm_p_load (pc := 1455) (i := .aload_n 2) (sr := 2) (j := 2) (by decide +kernel) rfl hL5.2.2.2.1 rfl) ?_
  refine mn_arg (pc := 1456) (j := 1) (by decide +kernel) (by decide +kernel) (by decide +kernel) (by decide +kernel) (by decide +kernel) hL5 hi (by decide) hLX ?_
  refine mn_arg (pc := 1462) (j := 2) (by decide +kernel) (by decide +kernel) (by decide +kernel) (by decide +kernel) (by decide +kernel) hL5 hi (by decide) hLX ?_
  refine mn_arg (pc := 1468) (j := 3) (by decide +kernel) (by decide +kernel) (by decide +kernel) (by decide +kernel) (by decide +kernel) hL5 hi (by decide) hLX ?_
  refine mn_m (pc := 1474) (ix := 254) (mj := 354) (xs := [X (i + 1), X (i + 2), X (i + 3)]) (st := []) (ds := [(-2147483648, 2147483647), (-2147483648, 2147483647), (-2147483648, 2147483647)]) (md := 0) (r := true) hb1 (by omega) (by decide +kernel) (by decide +kernel) (by decide +kernel) (by decide +kernel) (show 3 = gm_na 354 by decide +kernel) (show 4 ≤ gm_ml 354 by decide +kernel) (Nat.le_of_ble_eq_true rfl) hm_chain_s hm_chain_c hm_chain_v (bc_in1 (mn_w (hX _)) (bc_in1 (mn_w (hX _)) (bc_in1 (mn_w (hX _)) bc_in0))) (List.forall_mem_cons.mpr ⟨hX _, (List.forall_mem_cons.mpr ⟨hX _, (List.forall_mem_cons.mpr ⟨hX _, (fun _ h => nomatch h)⟩)⟩)⟩) (by omega) (by omega) (fun g2 la2 K2 R2 M2 u2 hb2 hg2 ho2 hp2 hu2 hk2 => ?_)
  have hp2 : M2 226 8 = M1 226 8 := hp2
  obtain ⟨y2, rfl⟩ : ∃ y, u2 = some (gm_vi y) := hu2
  show gm_Wp X LX 280 _ _ 370 1477 L5 [gm_vi y2] (245 + 4 * g2) K2 R2 M2 Q
  refine gm_sz (gm_p_stor (pc := 1477) (i := .istore 6) (sr := 0) (j := 6) (by decide +kernel) rfl (by show 6 + 0 < L5.length; have := hL5.1; omega) rfl) ?_
  have hL6 := mn_L_s (y := y2) hL5 (j := 6) (Or.inr rfl)
  generalize gm_lst L5 6 (gm_vi y2) = L6 at hL6 ⊢
  refine gm_sz (gm_p_goto (pc := 1479) (off := 514) (by decide +kernel) (by decide)) ?_
  exact gm_Wp_wk (Nat.le_refl _) (by omega) (by omega) (rest g2 la2 K2 R2 M2 L6 hb2 (by omega) ⟨by omega, fun j j1 j2 => by have a1 := hk1 j j1 j2; have a2 := hk2 j j1 j2; have a3 := hMb j j1 j2; omega⟩ hL6)
theorem mc_32 (hb : bg g la K R M) (hg : g < 9990) (hM : rl M) (hL : mn_L i L) (hi : 0 ≤ i ∧ i + 6 ≤ (LX : Int)) (hLX : LX ≤ 3072) (hX : ∀ j, gm_ir (X j)) (hbc : 12 ≤ bc) (hbs : 1200 ≤ bs) (rest : mn_R X LX bc bs i g Q) : gm_Wp X LX 280 bc bs 370 1482 L [] (245 + 4 * g) K R M Q := by
  obtain ⟨hM, hMb⟩ := hM
  refine gm_sz (gm_p_load (pc := 1482) (i := .aload_n 1) (sr := 2) (j := 1) (by decide +kernel) rfl hL.2.2.1 rfl) ?_
  refine mn_arg (pc := 1483) (j := 1) (by decide +kernel) (by decide +kernel) (by decide +kernel) (by decide +kernel) (by decide +kernel) hL hi (by decide) hLX ?_
  refine mn_arg (pc := 1489) (j := 2) (by decide +kernel) (by decide +kernel) (by decide +kernel) (by decide +kernel) (by decide +kernel) hL hi (by decide) hLX ?_
  refine gm_sz (gm_p_load (pc := 1495) (i := .aload_n 3) (sr := 2) (j := 3) (by decide +kernel) rfl hL.2.2.2.2.1 rfl) ?_
  refine mn_x (pc := 1496) (ix := 255) (mj := 210) (xs := [X (i + 1), X (i + 2)]) (st := []) (ds := [(-2147483648, 2147483647), (-2147483648, 2147483647)]) (md := 0) hb (by omega) (by decide +kernel) (by decide +kernel) (by decide +kernel) (by decide +kernel) (show 4 = gm_na 210 by decide +kernel) (show 4 ≤ gm_ml 210 by decide +kernel) (Nat.le_of_ble_eq_true rfl) hx_reached_s hl_reached_s hx_reached_c hl_reached_c hx_reached_v hl_reached_v (bc_in1 (mn_w (hX _)) (bc_in1 (mn_w (hX _)) bc_in0)) (List.forall_mem_cons.mpr ⟨hX _, (List.forall_mem_cons.mpr ⟨hX _, (fun _ h => nomatch h)⟩)⟩) (by omega) (by omega) (fun g1 la1 K1 R1 M1 u1 hb1 hg1 ho1 hp1 hu1 hk1 => ?_)
  have hp1 : M1 1 1 = M 1 1 := hp1
  obtain ⟨y1, rfl⟩ : ∃ y, u1 = some (gm_vi y) := hu1
  show gm_Wp X LX 280 _ _ 370 1499 L [gm_vi y1] (245 + 4 * g1) K1 R1 M1 Q
  refine gm_sz (gm_p_stor (pc := 1499) (i := .istore 5) (sr := 0) (j := 5) (by decide +kernel) rfl (by show 5 + 0 < L.length; have := hL.1; omega) rfl) ?_
  have hL5 := mn_L_s (y := y1) hL (j := 5) (Or.inl rfl)
  generalize gm_lst L 5 (gm_vi y1) = L5 at hL5 ⊢
  refine gm_sz (gm_p_load (pc := 1501) (i := .aload_n 2) (sr := 2) (j := 2) (by decide +kernel) rfl hL5.2.2.2.1 rfl) ?_
  refine mn_arg (pc := 1502) (j := 1) (by decide +kernel) (by decide +kernel) (by decide +kernel) (by decide +kernel) (by decide +kernel) hL5 hi (by decide) hLX ?_
  refine mn_arg (pc := 1508) (j := 2) (by decide +kernel) (by decide +kernel) (by decide +kernel) (by decide +kernel) (by decide +kernel) hL5 hi (by decide) hLX ?_
  refine mn_m (pc := 1514) (ix := 257) (mj := 356) (xs := [X (i + 1), X (i + 2)]) (st := []) (ds := [(-2147483648, 2147483647), (-2147483648, 2147483647)]) (md := 0) (r := true) hb1 (by omega) (by decide +kernel) (by decide +kernel) (by decide +kernel) (by decide +kernel) (show 2 = gm_na 356 by decide +kernel) (show 3 ≤ gm_ml 356 by decide +kernel) (Nat.le_of_ble_eq_true rfl) hm_reached_s hm_reached_c hm_reached_v (bc_in1 (mn_w (hX _)) (bc_in1 (mn_w (hX _)) bc_in0)) (List.forall_mem_cons.mpr ⟨hX _, (List.forall_mem_cons.mpr ⟨hX _, (fun _ h => nomatch h)⟩)⟩) (by omega) (by omega) (fun g2 la2 K2 R2 M2 u2 hb2 hg2 ho2 hp2 hu2 hk2 => ?_)
  have hp2 : M2 226 8 = M1 226 8 := hp2
  obtain ⟨y2, rfl⟩ : ∃ y, u2 = some (gm_vi y) := hu2
  show gm_Wp X LX 280 _ _ 370 1517 L5 [gm_vi y2] (245 + 4 * g2) K2 R2 M2 Q
  refine gm_sz (gm_p_stor (pc := 1517) (i := .istore 6) (sr := 0) (j := 6) (by decide +kernel) rfl (by show 6 + 0 < L5.length; have := hL5.1; omega) rfl) ?_
  have hL6 := mn_L_s (y := y2) hL5 (j := 6) (Or.inr rfl)
  generalize gm_lst L5 6 (gm_vi y2) = L6 at hL6 ⊢
  refine gm_sz (gm_p_goto (pc := 1519) (off := 474) (by decide +kernel) (by decide)) ?_
  exact gm_Wp_wk (Nat.le_refl _) (by omega) (by omega) (rest g2 la2 K2 R2 M2 L6 hb2 (by omega) ⟨by omega, fun j j1 j2 => by have a1 := hk1 j j1 j2; have a2 := hk2 j j1 j2; have a3 := hMb j j1 j2; omega⟩ hL6)
theorem mc_33 (hb : bg g la K R M) (hg : g < 9990) (hM : rl M) (hL : mn_L i L) (hi : 0 ≤ i ∧ i + 6 ≤ (LX : Int)) (hLX : LX ≤ 3072) (hX : ∀ j, gm_ir (X j)) (hbc : 12 ≤ bc) (hbs : 1200 ≤ bs) (rest : mn_R X LX bc bs i g Q) : gm_Wp X LX 280 bc bs 370 1522 L [] (245 + 4 * g) K R M Q := by
  obtain ⟨hM, hMb⟩ := hM
  refine gm_sz (gm_p_load (pc := 1522) (i := .aload_n 1) (sr := 2) (j := 1) (by decide +kernel) rfl hL.2.2.1 rfl) ?_
  refine mn_arg (pc := 1523) (j := 1) (by decide +kernel) (by decide +kernel) (by decide +kernel) (by decide +kernel) (by decide +kernel) hL hi (by decide) hLX ?_
  refine mn_arg (pc := 1529) (j := 2) (by decide +kernel) (by decide +kernel) (by decide +kernel) (by decide +kernel) (by decide +kernel) hL hi (by decide) hLX ?_
  refine mn_bool (pc := 1535) (by decide +kernel) (by decide +kernel) (by decide +kernel) (by decide +kernel) (fun b1 p1 q1 => ?_)
  refine gm_sz (gm_p_load (pc := 1543) (i := .aload_n 3) (sr := 2) (j := 3) (by decide +kernel) rfl hL.2.2.2.2.1 rfl) ?_
  refine mn_x (pc := 1544) (ix := 258) (mj := 212) (xs := [X (i + 1), b1]) (st := []) (ds := [(-2147483648, 2147483647), (0, 1)]) (md := 0) hb (by omega) (by decide +kernel) (by decide +kernel) (by decide +kernel) (by decide +kernel) (show 4 = gm_na 212 by decide +kernel) (show 4 ≤ gm_ml 212 by decide +kernel) (Nat.le_of_ble_eq_true rfl) hx_thieves_s hl_thieves_s hx_thieves_c hl_thieves_c hx_thieves_v hl_thieves_v (bc_in1 (mn_w (hX _)) (bc_in1 ⟨p1, q1⟩ bc_in0)) (List.forall_mem_cons.mpr ⟨hX _, (List.forall_mem_cons.mpr ⟨⟨by omega, by omega⟩, (fun _ h => nomatch h)⟩)⟩) (by omega) (by omega) (fun g1 la1 K1 R1 M1 u1 hb1 hg1 ho1 hp1 hu1 hk1 => ?_)
  have hp1 : M1 1 1 = M 1 1 := hp1
  obtain ⟨y1, rfl⟩ : ∃ y, u1 = some (gm_vi y) := hu1
  show gm_Wp X LX 280 _ _ 370 1547 L [gm_vi y1] (245 + 4 * g1) K1 R1 M1 Q
  refine gm_sz (gm_p_stor (pc := 1547) (i := .istore 5) (sr := 0) (j := 5) (by decide +kernel) rfl (by show 5 + 0 < L.length; have := hL.1; omega) rfl) ?_
  have hL5 := mn_L_s (y := y1) hL (j := 5) (Or.inl rfl)
  generalize gm_lst L 5 (gm_vi y1) = L5 at hL5 ⊢
  refine gm_sz (gm_p_load (pc := 1549) (i := .aload_n 2) (sr := 2) (j := 2) (by decide +kernel) rfl hL5.2.2.2.1 rfl) ?_
  refine mn_arg (pc := 1550) (j := 1) (by decide +kernel) (by decide +kernel) (by decide +kernel) (by decide +kernel) (by decide +kernel) hL5 hi (by decide) hLX ?_
  refine mn_arg (pc := 1556) (j := 2) (by decide +kernel) (by decide +kernel) (by decide +kernel) (by decide +kernel) (by decide +kernel) hL5 hi (by decide) hLX ?_
  refine mn_bool (pc := 1562) (by decide +kernel) (by decide +kernel) (by decide +kernel) (by decide +kernel) (fun b2 p2 q2 => ?_)
  refine mn_m (pc := 1570) (ix := 261) (mj := 357) (xs := [X (i + 1), b2]) (st := []) (ds := [(-2147483648, 2147483647), (0, 1)]) (md := 0) (r := true) hb1 (by omega) (by decide +kernel) (by decide +kernel) (by decide +kernel) (by decide +kernel) (show 2 = gm_na 357 by decide +kernel) (show 3 ≤ gm_ml 357 by decide +kernel) (Nat.le_of_ble_eq_true rfl) hm_thieves_s hm_thieves_c hm_thieves_v (bc_in1 (mn_w (hX _)) (bc_in1 ⟨p2, q2⟩ bc_in0)) (List.forall_mem_cons.mpr ⟨hX _, (List.forall_mem_cons.mpr ⟨⟨by omega, by omega⟩, (fun _ h => nomatch h)⟩)⟩) (by omega) (by omega) (fun g2 la2 K2 R2 M2 u2 hb2 hg2 ho2 hp2 hu2 hk2 => ?_)
  have hp2 : M2 226 8 = M1 226 8 := hp2
  obtain ⟨y2, rfl⟩ : ∃ y, u2 = some (gm_vi y) := hu2
  show gm_Wp X LX 280 _ _ 370 1573 L5 [gm_vi y2] (245 + 4 * g2) K2 R2 M2 Q
  refine gm_sz (gm_p_stor (pc := 1573) (i := .istore 6) (sr := 0) (j := 6) (by decide +kernel) rfl (by show 6 + 0 < L5.length; have := hL5.1; omega) rfl) ?_
  have hL6 := mn_L_s (y := y2) hL5 (j := 6) (Or.inr rfl)
  generalize gm_lst L5 6 (gm_vi y2) = L6 at hL6 ⊢
  refine gm_sz (gm_p_goto (pc := 1575) (off := 418) (by decide +kernel) (by decide)) ?_
  exact gm_Wp_wk (Nat.le_refl _) (by omega) (by omega) (rest g2 la2 K2 R2 M2 L6 hb2 (by omega) ⟨by omega, fun j j1 j2 => by have a1 := hk1 j j1 j2; have a2 := hk2 j j1 j2; have a3 := hMb j j1 j2; omega⟩ hL6)
theorem mc_34 (hb : bg g la K R M) (hg : g < 9990) (hM : rl M) (hL : mn_L i L) (hi : 0 ≤ i ∧ i + 6 ≤ (LX : Int)) (hLX : LX ≤ 3072) (hX : ∀ j, gm_ir (X j)) (hbc : 12 ≤ bc) (hbs : 1200 ≤ bs) (rest : mn_R X LX bc bs i g Q) : gm_Wp X LX 280 bc bs 370 1578 L [] (245 + 4 * g) K R M Q := by
  obtain ⟨hM, hMb⟩ := hM
  refine gm_sz (gm_p_load (pc := 1578) (i := .aload_n 1) (sr := 2) (j := 1) (by decide +kernel) rfl hL.2.2.1 rfl) ?_
  refine mn_arg (pc := 1579) (j := 1) (by decide +kernel) (by decide +kernel) (by decide +kernel) (by decide +kernel) (by decide +kernel) hL hi (by decide) hLX ?_
  refine mn_arg (pc := 1585) (j := 2) (by decide +kernel) (by decide +kernel) (by decide +kernel) (by decide +kernel) (by decide +kernel) hL hi (by decide) hLX ?_
  refine mn_bool (pc := 1591) (by decide +kernel) (by decide +kernel) (by decide +kernel) (by decide +kernel) (fun b1 p1 q1 => ?_)
  refine gm_sz (gm_p_load (pc := 1599) (i := .aload_n 3) (sr := 2) (j := 3) (by decide +kernel) rfl hL.2.2.2.2.1 rfl) ?_
  refine mn_x (pc := 1600) (ix := 262) (mj := 217) (xs := [X (i + 1), b1]) (st := []) (ds := [(-2147483648, 2147483647), (0, 1)]) (md := 0) hb (by omega) (by decide +kernel) (by decide +kernel) (by decide +kernel) (by decide +kernel) (show 4 = gm_na 217 by decide +kernel) (show 4 ≤ gm_ml 217 by decide +kernel) (Nat.le_of_ble_eq_true rfl) hx_watchman_s hl_watchman_s hx_watchman_c hl_watchman_c hx_watchman_v hl_watchman_v (bc_in1 (mn_w (hX _)) (bc_in1 ⟨p1, q1⟩ bc_in0)) (List.forall_mem_cons.mpr ⟨hX _, (List.forall_mem_cons.mpr ⟨⟨by omega, by omega⟩, (fun _ h => nomatch h)⟩)⟩) (by omega) (by omega) (fun g1 la1 K1 R1 M1 u1 hb1 hg1 ho1 hp1 hu1 hk1 => ?_)
  have hp1 : M1 1 1 = M 1 1 := hp1
  obtain ⟨y1, rfl⟩ : ∃ y, u1 = some (gm_vi y) := hu1
  show gm_Wp X LX 280 _ _ 370 1603 L [gm_vi y1] (245 + 4 * g1) K1 R1 M1 Q
  refine gm_sz (gm_p_stor (pc := 1603) (i := .istore 5) (sr := 0) (j := 5) (by decide +kernel) rfl (by show 5 + 0 < L.length; have := hL.1; omega) rfl) ?_
  have hL5 := mn_L_s (y := y1) hL (j := 5) (Or.inl rfl)
  generalize gm_lst L 5 (gm_vi y1) = L5 at hL5 ⊢
  refine gm_sz (gm_p_load (pc := 1605) (i := .aload_n 2) (sr := 2) (j := 2) (by decide +kernel) rfl hL5.2.2.2.1 rfl) ?_
  refine mn_arg (pc := 1606) (j := 1) (by decide +kernel) (by decide +kernel) (by decide +kernel) (by decide +kernel) (by decide +kernel) hL5 hi (by decide) hLX ?_
  refine mn_arg (pc := 1612) (j := 2) (by decide +kernel) (by decide +kernel) (by decide +kernel) (by decide +kernel) (by decide +kernel) hL5 hi (by decide) hLX ?_
  refine mn_bool (pc := 1618) (by decide +kernel) (by decide +kernel) (by decide +kernel) (by decide +kernel) (fun b2 p2 q2 => ?_)
  refine mn_m (pc := 1626) (ix := 264) (mj := 359) (xs := [X (i + 1), b2]) (st := []) (ds := [(-2147483648, 2147483647), (0, 1)]) (md := 0) (r := true) hb1 (by omega) (by decide +kernel) (by decide +kernel) (by decide +kernel) (by decide +kernel) (show 2 = gm_na 359 by decide +kernel) (show 3 ≤ gm_ml 359 by decide +kernel) (Nat.le_of_ble_eq_true rfl) hm_watchman_s hm_watchman_c hm_watchman_v (bc_in1 (mn_w (hX _)) (bc_in1 ⟨p2, q2⟩ bc_in0)) (List.forall_mem_cons.mpr ⟨hX _, (List.forall_mem_cons.mpr ⟨⟨by omega, by omega⟩, (fun _ h => nomatch h)⟩)⟩) (by omega) (by omega) (fun g2 la2 K2 R2 M2 u2 hb2 hg2 ho2 hp2 hu2 hk2 => ?_)
  have hp2 : M2 226 8 = M1 226 8 := hp2
  obtain ⟨y2, rfl⟩ : ∃ y, u2 = some (gm_vi y) := hu2
  show gm_Wp X LX 280 _ _ 370 1629 L5 [gm_vi y2] (245 + 4 * g2) K2 R2 M2 Q
  refine gm_sz (gm_p_stor (pc := 1629) (i := .istore 6) (sr := 0) (j := 6) (by decide +kernel) rfl (by show 6 + 0 < L5.length; have := hL5.1; omega) rfl) ?_
  have hL6 := mn_L_s (y := y2) hL5 (j := 6) (Or.inr rfl)
  generalize gm_lst L5 6 (gm_vi y2) = L6 at hL6 ⊢
  refine gm_sz (gm_p_goto (pc := 1631) (off := 362) (by decide +kernel) (by decide)) ?_
  exact gm_Wp_wk (Nat.le_refl _) (by omega) (by omega) (rest g2 la2 K2 R2 M2 L6 hb2 (by omega) ⟨by omega, fun j j1 j2 => by have a1 := hk1 j j1 j2; have a2 := hk2 j j1 j2; have a3 := hMb j j1 j2; omega⟩ hL6)
theorem mc_35 (hb : bg g la K R M) (hg : g < 9990) (hM : rl M) (hL : mn_L i L) (hi : 0 ≤ i ∧ i + 6 ≤ (LX : Int)) (hLX : LX ≤ 3072) (hX : ∀ j, gm_ir (X j)) (hbc : 12 ≤ bc) (hbs : 1200 ≤ bs) (rest : mn_R X LX bc bs i g Q) : gm_Wp X LX 280 bc bs 370 1634 L [] (245 + 4 * g) K R M Q := by
  obtain ⟨hM, hMb⟩ := hM
  refine gm_sz (gm_p_load (pc := 1634) (i := .aload_n 1) (sr := 2) (j := 1) (by decide +kernel) rfl hL.2.2.1 rfl) ?_
  refine mn_arg (pc := 1635) (j := 1) (by decide +kernel) (by decide +kernel) (by decide +kernel) (by decide +kernel) (by decide +kernel) hL hi (by decide) hLX ?_
  refine mn_arg (pc := 1641) (j := 2) (by decide +kernel) (by decide +kernel) (by decide +kernel) (by decide +kernel) (by decide +kernel) hL hi (by decide) hLX ?_
  refine gm_sz (gm_p_load (pc := 1647) (i := .aload_n 3) (sr := 2) (j := 3) (by decide +kernel) rfl hL.2.2.2.2.1 rfl) ?_
  refine mn_x (pc := 1648) (ix := 265) (mj := 220) (xs := [X (i + 1), X (i + 2)]) (st := []) (ds := [(-2147483648, 2147483647), (-2147483648, 2147483647)]) (md := 0) hb (by omega) (by decide +kernel) (by decide +kernel) (by decide +kernel) (by decide +kernel) (show 4 = gm_na 220 by decide +kernel) (show 4 ≤ gm_ml 220 by decide +kernel) (Nat.le_of_ble_eq_true rfl) hx_meeting_s hl_meeting_s hx_meeting_c hl_meeting_c hx_meeting_v hl_meeting_v (bc_in1 (mn_w (hX _)) (bc_in1 (mn_w (hX _)) bc_in0)) (List.forall_mem_cons.mpr ⟨hX _, (List.forall_mem_cons.mpr ⟨hX _, (fun _ h => nomatch h)⟩)⟩) (by omega) (by omega) (fun g1 la1 K1 R1 M1 u1 hb1 hg1 ho1 hp1 hu1 hk1 => ?_)
  have hp1 : M1 1 1 = M 1 1 := hp1
  obtain ⟨y1, rfl⟩ : ∃ y, u1 = some (gm_vi y) := hu1
  show gm_Wp X LX 280 _ _ 370 1651 L [gm_vi y1] (245 + 4 * g1) K1 R1 M1 Q
  refine gm_sz (gm_p_stor (pc := 1651) (i := .istore 5) (sr := 0) (j := 5) (by decide +kernel) rfl (by show 5 + 0 < L.length; have := hL.1; omega) rfl) ?_
  have hL5 := mn_L_s (y := y1) hL (j := 5) (Or.inl rfl)
  generalize gm_lst L 5 (gm_vi y1) = L5 at hL5 ⊢
  refine gm_sz (gm_p_load (pc := 1653) (i := .aload_n 2) (sr := 2) (j := 2) (by decide +kernel) rfl hL5.2.2.2.1 rfl) ?_
  refine mn_arg (pc := 1654) (j := 1) (by decide +kernel) (by decide +kernel) (by decide +kernel) (by decide +kernel) (by decide +kernel) hL5 hi (by decide) hLX ?_
  refine mn_arg (pc := 1660) (j := 2) (by decide +kernel) (by decide +kernel) (by decide +kernel) (by decide +kernel) (by decide +kernel) hL5 hi (by decide) hLX ?_
  refine mn_m (pc := 1666) (ix := 267) (mj := 360) (xs := [X (i + 1), X (i + 2)]) (st := []) (ds := [(-2147483648, 2147483647), (-2147483648, 2147483647)]) (md := 0) (r := true) hb1 (by omega) (by decide +kernel) (by decide +kernel) (by decide +kernel) (by decide +kernel) (show 2 = gm_na 360 by decide +kernel) (show 3 ≤ gm_ml 360 by decide +kernel) (Nat.le_of_ble_eq_true rfl) hm_meeting_s hm_meeting_c hm_meeting_v (bc_in1 (mn_w (hX _)) (bc_in1 (mn_w (hX _)) bc_in0)) (List.forall_mem_cons.mpr ⟨hX _, (List.forall_mem_cons.mpr ⟨hX _, (fun _ h => nomatch h)⟩)⟩) (by omega) (by omega) (fun g2 la2 K2 R2 M2 u2 hb2 hg2 ho2 hp2 hu2 hk2 => ?_)
  have hp2 : M2 226 8 = M1 226 8 := hp2
  obtain ⟨y2, rfl⟩ : ∃ y, u2 = some (gm_vi y) := hu2
  show gm_Wp X LX 280 _ _ 370 1669 L5 [gm_vi y2] (245 + 4 * g2) K2 R2 M2 Q
  refine gm_sz (gm_p_stor (pc := 1669) (i := .istore 6) (sr := 0) (j := 6) (by decide +kernel) rfl (by show 6 + 0 < L5.length; have := hL5.1; omega) rfl) ?_
  have hL6 := mn_L_s (y := y2) hL5 (j := 6) (Or.inr rfl)
  generalize gm_lst L5 6 (gm_vi y2) = L6 at hL6 ⊢
  refine gm_sz (gm_p_goto (pc := 1671) (off := 322) (by decide +kernel) (by decide)) ?_
  exact gm_Wp_wk (Nat.le_refl _) (by omega) (by omega) (rest g2 la2 K2 R2 M2 L6 hb2 (by omega) ⟨by omega, fun j j1 j2 => by have a1 := hk1 j j1 j2; have a2 := hk2 j j1 j2; have a3 := hMb j j1 j2; omega⟩ hL6)
theorem mc_36 (hb : bg g la K R M) (hg : g < 9990) (hM : rl M) (hL : mn_L i L) (hi : 0 ≤ i ∧ i + 6 ≤ (LX : Int)) (hLX : LX ≤ 3072) (hX : ∀ j, gm_ir (X j)) (hbc : 12 ≤ bc) (hbs : 1200 ≤ bs) (rest : mn_R X LX bc bs i g Q) : gm_Wp X LX 280 bc bs 370 1674 L [] (245 + 4 * g) K R M Q := by
  obtain ⟨hM, hMb⟩ := hM
  refine gm_sz (gm_p_load (pc := 1674) (i := .aload_n 1) (sr := 2) (j := 1) (by decide +kernel) rfl hL.2.2.1 rfl) ?_
  refine mn_arg (pc := 1675) (j := 1) (by decide +kernel) (by decide +kernel) (by decide +kernel) (by decide +kernel) (by decide +kernel) hL hi (by decide) hLX ?_
  refine gm_sz (gm_p_load (pc := 1681) (i := .aload_n 3) (sr := 2) (j := 3) (by decide +kernel) rfl hL.2.2.2.2.1 rfl) ?_
  refine mn_x (pc := 1682) (ix := 268) (mj := 222) (xs := [X (i + 1)]) (st := []) (ds := [(-2147483648, 2147483647)]) (md := 0) hb (by omega) (by decide +kernel) (by decide +kernel) (by decide +kernel) (by decide +kernel) (show 3 = gm_na 222 by decide +kernel) (show 3 ≤ gm_ml 222 by decide +kernel) (Nat.le_of_ble_eq_true rfl) hx_outs_s hl_outs_s hx_outs_c hl_outs_c hx_outs_v hl_outs_v (bc_in1 (mn_w (hX _)) bc_in0) (List.forall_mem_cons.mpr ⟨hX _, (fun _ h => nomatch h)⟩) (by omega) (by omega) (fun g1 la1 K1 R1 M1 u1 hb1 hg1 ho1 hp1 hu1 hk1 => ?_)
  have hp1 : M1 1 1 = M 1 1 := hp1
  obtain ⟨y1, rfl⟩ : ∃ y, u1 = some (gm_vi y) := hu1
  show gm_Wp X LX 280 _ _ 370 1685 L [gm_vi y1] (245 + 4 * g1) K1 R1 M1 Q
  refine gm_sz (gm_p_stor (pc := 1685) (i := .istore 5) (sr := 0) (j := 5) (by decide +kernel) rfl (by show 5 + 0 < L.length; have := hL.1; omega) rfl) ?_
  have hL5 := mn_L_s (y := y1) hL (j := 5) (Or.inl rfl)
  generalize gm_lst L 5 (gm_vi y1) = L5 at hL5 ⊢
  refine gm_sz (gm_p_load (pc := 1687) (i := .aload_n 2) (sr := 2) (j := 2) (by decide +kernel) rfl hL5.2.2.2.1 rfl) ?_
  refine mn_arg (pc := 1688) (j := 1) (by decide +kernel) (by decide +kernel) (by decide +kernel) (by decide +kernel) (by decide +kernel) hL5 hi (by decide) hLX ?_
  refine mn_m (pc := 1694) (ix := 270) (mj := 361) (xs := [X (i + 1)]) (st := []) (ds := [(-2147483648, 2147483647)]) (md := 0) (r := true) hb1 (by omega) (by decide +kernel) (by decide +kernel) (by decide +kernel) (by decide +kernel) (show 1 = gm_na 361 by decide +kernel) (show 2 ≤ gm_ml 361 by decide +kernel) (Nat.le_of_ble_eq_true rfl) hm_outs_s hm_outs_c hm_outs_v (bc_in1 (mn_w (hX _)) bc_in0) (List.forall_mem_cons.mpr ⟨hX _, (fun _ h => nomatch h)⟩) (by omega) (by omega) (fun g2 la2 K2 R2 M2 u2 hb2 hg2 ho2 hp2 hu2 hk2 => ?_)
  have hp2 : M2 226 8 = M1 226 8 := hp2
  obtain ⟨y2, rfl⟩ : ∃ y, u2 = some (gm_vi y) := hu2
  show gm_Wp X LX 280 _ _ 370 1697 L5 [gm_vi y2] (245 + 4 * g2) K2 R2 M2 Q
  refine gm_sz (gm_p_stor (pc := 1697) (i := .istore 6) (sr := 0) (j := 6) (by decide +kernel) rfl (by show 6 + 0 < L5.length; have := hL5.1; omega) rfl) ?_
  have hL6 := mn_L_s (y := y2) hL5 (j := 6) (Or.inr rfl)
  generalize gm_lst L5 6 (gm_vi y2) = L6 at hL6 ⊢
  refine gm_sz (gm_p_goto (pc := 1699) (off := 294) (by decide +kernel) (by decide)) ?_
  exact gm_Wp_wk (Nat.le_refl _) (by omega) (by omega) (rest g2 la2 K2 R2 M2 L6 hb2 (by omega) ⟨by omega, fun j j1 j2 => by have a1 := hk1 j j1 j2; have a2 := hk2 j j1 j2; have a3 := hMb j j1 j2; omega⟩ hL6)
theorem mc_37 (hb : bg g la K R M) (hg : g < 9990) (hM : rl M) (hL : mn_L i L) (hi : 0 ≤ i ∧ i + 6 ≤ (LX : Int)) (hLX : LX ≤ 3072) (hX : ∀ j, gm_ir (X j)) (hbc : 12 ≤ bc) (hbs : 1200 ≤ bs) (rest : mn_R X LX bc bs i g Q) : gm_Wp X LX 280 bc bs 370 1702 L [] (245 + 4 * g) K R M Q := by
  obtain ⟨hM, hMb⟩ := hM
  refine gm_sz (gm_p_load (pc := 1702) (i := .aload_n 1) (sr := 2) (j := 1) (by decide +kernel) rfl hL.2.2.1 rfl) ?_
  refine mn_arg (pc := 1703) (j := 1) (by decide +kernel) (by decide +kernel) (by decide +kernel) (by decide +kernel) (by decide +kernel) hL hi (by decide) hLX ?_
  refine mn_d (pc := 1709) (ix := 271) (mj := 52) (xs := [X (i + 1)]) (st := []) (ds := [(-2147483648, 2147483647)]) (md := 0) (r := true) hb (by omega) (by decide +kernel) (by decide +kernel) (by decide +kernel) (by decide +kernel) (show 1 = gm_na 52 by decide +kernel) (show 2 ≤ gm_ml 52 by decide +kernel) (Nat.le_of_ble_eq_true rfl) hx_order_s hl_order_s hx_order_c hl_order_c hx_order_v hl_order_v (bc_in1 (mn_w (hX _)) bc_in0) (List.forall_mem_cons.mpr ⟨hX _, (fun _ h => nomatch h)⟩) (by omega) (by omega) (fun g1 la1 K1 R1 M1 u1 hb1 hg1 ho1 hp1 hu1 hk1 => ?_)
  have hp1 : M1 1 1 = M 1 1 := hp1
  obtain ⟨y1, rfl⟩ : ∃ y, u1 = some (gm_vi y) := hu1
  show gm_Wp X LX 280 _ _ 370 1712 L [gm_vi y1] (245 + 4 * g1) K1 R1 M1 Q
  refine gm_sz (gm_p_pop (pc := 1712) (by decide +kernel) (by simp [gm_sort])) ?_
  refine gm_sz (gm_p_load (pc := 1713) (i := .aload_n 2) (sr := 2) (j := 2) (by decide +kernel) rfl hL.2.2.2.1 rfl) ?_
  refine mn_arg (pc := 1714) (j := 1) (by decide +kernel) (by decide +kernel) (by decide +kernel) (by decide +kernel) (by decide +kernel) hL hi (by decide) hLX ?_
  refine mn_m (pc := 1720) (ix := 274) (mj := 362) (xs := [X (i + 1)]) (st := []) (ds := [(-2147483648, 2147483647)]) (md := 0) (r := true) hb1 (by omega) (by decide +kernel) (by decide +kernel) (by decide +kernel) (by decide +kernel) (show 1 = gm_na 362 by decide +kernel) (show 2 ≤ gm_ml 362 by decide +kernel) (Nat.le_of_ble_eq_true rfl) hm_order_s hm_order_c hm_order_v (bc_in1 (mn_w (hX _)) bc_in0) (List.forall_mem_cons.mpr ⟨hX _, (fun _ h => nomatch h)⟩) (by omega) (by omega) (fun g2 la2 K2 R2 M2 u2 hb2 hg2 ho2 hp2 hu2 hk2 => ?_)
  have hp2 : M2 226 8 = M1 226 8 := hp2
  obtain ⟨y2, rfl⟩ : ∃ y, u2 = some (gm_vi y) := hu2
  show gm_Wp X LX 280 _ _ 370 1723 L [gm_vi y2] (245 + 4 * g2) K2 R2 M2 Q
  refine gm_sz (gm_p_pop (pc := 1723) (by decide +kernel) (by simp [gm_sort])) ?_
  refine gm_sz (gm_p_goto (pc := 1724) (off := 269) (by decide +kernel) (by decide)) ?_
  exact gm_Wp_wk (Nat.le_refl _) (by omega) (by omega) (rest g2 la2 K2 R2 M2 L hb2 (by omega) ⟨by omega, fun j j1 j2 => by have a1 := hk1 j j1 j2; have a2 := hk2 j j1 j2; have a3 := hMb j j1 j2; omega⟩ hL)
theorem mc_38 (hb : bg g la K R M) (hg : g < 9990) (hM : rl M) (hL : mn_L i L) (hi : 0 ≤ i ∧ i + 6 ≤ (LX : Int)) (hLX : LX ≤ 3072) (hX : ∀ j, gm_ir (X j)) (hbc : 12 ≤ bc) (hbs : 1200 ≤ bs) (rest : mn_R X LX bc bs i g Q) : gm_Wp X LX 280 bc bs 370 1727 L [] (245 + 4 * g) K R M Q := by
  obtain ⟨hM, hMb⟩ := hM
  refine gm_sz (gm_p_load (pc := 1727) (i := .aload_n 1) (sr := 2) (j := 1) (by decide +kernel) rfl hL.2.2.1 rfl) ?_
  refine mn_arg (pc := 1728) (j := 1) (by decide +kernel) (by decide +kernel) (by decide +kernel) (by decide +kernel) (by decide +kernel) hL hi (by decide) hLX ?_
  refine mn_arg (pc := 1734) (j := 2) (by decide +kernel) (by decide +kernel) (by decide +kernel) (by decide +kernel) (by decide +kernel) hL hi (by decide) hLX ?_
  refine mn_bool (pc := 1740) (by decide +kernel) (by decide +kernel) (by decide +kernel) (by decide +kernel) (fun b1 p1 q1 => ?_)
  refine gm_sz (gm_p_load (pc := 1748) (i := .aload_n 3) (sr := 2) (j := 3) (by decide +kernel) rfl hL.2.2.2.2.1 rfl) ?_
  refine mn_x (pc := 1749) (ix := 275) (mj := 224) (xs := [X (i + 1), b1]) (st := []) (ds := [(-2147483648, 2147483647), (0, 1)]) (md := 0) hb (by omega) (by decide +kernel) (by decide +kernel) (by decide +kernel) (by decide +kernel) (show 4 = gm_na 224 by decide +kernel) (show 4 ≤ gm_ml 224 by decide +kernel) (Nat.le_of_ble_eq_true rfl) hx_streams_s hl_streams_s hx_streams_c hl_streams_c hx_streams_v hl_streams_v (bc_in1 (mn_w (hX _)) (bc_in1 ⟨p1, q1⟩ bc_in0)) (List.forall_mem_cons.mpr ⟨hX _, (List.forall_mem_cons.mpr ⟨⟨by omega, by omega⟩, (fun _ h => nomatch h)⟩)⟩) (by omega) (by omega) (fun g1 la1 K1 R1 M1 u1 hb1 hg1 ho1 hp1 hu1 hk1 => ?_)
  have hp1 : M1 1 1 = M 1 1 := hp1
  obtain ⟨y1, rfl⟩ : ∃ y, u1 = some (gm_vi y) := hu1
  show gm_Wp X LX 280 _ _ 370 1752 L [gm_vi y1] (245 + 4 * g1) K1 R1 M1 Q
  refine gm_sz (gm_p_stor (pc := 1752) (i := .istore 5) (sr := 0) (j := 5) (by decide +kernel) rfl (by show 5 + 0 < L.length; have := hL.1; omega) rfl) ?_
  have hL5 := mn_L_s (y := y1) hL (j := 5) (Or.inl rfl)
  generalize gm_lst L 5 (gm_vi y1) = L5 at hL5 ⊢
  refine gm_sz (gm_p_load (pc := 1754) (i := .aload_n 2) (sr := 2) (j := 2) (by decide +kernel) rfl hL5.2.2.2.1 rfl) ?_
  refine mn_arg (pc := 1755) (j := 1) (by decide +kernel) (by decide +kernel) (by decide +kernel) (by decide +kernel) (by decide +kernel) hL5 hi (by decide) hLX ?_
  refine mn_arg (pc := 1761) (j := 2) (by decide +kernel) (by decide +kernel) (by decide +kernel) (by decide +kernel) (by decide +kernel) hL5 hi (by decide) hLX ?_
  refine mn_bool (pc := 1767) (by decide +kernel) (by decide +kernel) (by decide +kernel) (by decide +kernel) (fun b2 p2 q2 => ?_)
  refine mn_m (pc := 1775) (ix := 277) (mj := 363) (xs := [X (i + 1), b2]) (st := []) (ds := [(-2147483648, 2147483647), (0, 1)]) (md := 0) (r := true) hb1 (by omega) (by decide +kernel) (by decide +kernel) (by decide +kernel) (by decide +kernel) (show 2 = gm_na 363 by decide +kernel) (show 3 ≤ gm_ml 363 by decide +kernel) (Nat.le_of_ble_eq_true rfl) hm_streams_s hm_streams_c hm_streams_v (bc_in1 (mn_w (hX _)) (bc_in1 ⟨p2, q2⟩ bc_in0)) (List.forall_mem_cons.mpr ⟨hX _, (List.forall_mem_cons.mpr ⟨⟨by omega, by omega⟩, (fun _ h => nomatch h)⟩)⟩) (by omega) (by omega) (fun g2 la2 K2 R2 M2 u2 hb2 hg2 ho2 hp2 hu2 hk2 => ?_)
  have hp2 : M2 226 8 = M1 226 8 := hp2
  obtain ⟨y2, rfl⟩ : ∃ y, u2 = some (gm_vi y) := hu2
  show gm_Wp X LX 280 _ _ 370 1778 L5 [gm_vi y2] (245 + 4 * g2) K2 R2 M2 Q
  refine gm_sz (gm_p_stor (pc := 1778) (i := .istore 6) (sr := 0) (j := 6) (by decide +kernel) rfl (by show 6 + 0 < L5.length; have := hL5.1; omega) rfl) ?_
  have hL6 := mn_L_s (y := y2) hL5 (j := 6) (Or.inr rfl)
  generalize gm_lst L5 6 (gm_vi y2) = L6 at hL6 ⊢
  refine gm_sz (gm_p_goto (pc := 1780) (off := 213) (by decide +kernel) (by decide)) ?_
  exact gm_Wp_wk (Nat.le_refl _) (by omega) (by omega) (rest g2 la2 K2 R2 M2 L6 hb2 (by omega) ⟨by omega, fun j j1 j2 => by have a1 := hk1 j j1 j2; have a2 := hk2 j j1 j2; have a3 := hMb j j1 j2; omega⟩ hL6)
end MCC
