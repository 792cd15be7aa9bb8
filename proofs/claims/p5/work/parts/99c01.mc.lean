/-! THE LAW'S CASES (laid by wip/pp/gen99v.py). -/
section MCC
variable {X : Int → Int} {LX g bc bs : Nat} {i : Int} {la : Nat → Nat} {K : gm_K} {R : gm_R} {M : gm_M} {Q : gm_Q} {L : gm_L}
theorem mc_15 (hb : bg g la K R M) (hg : g < 9990) (hM : rl M) (hL : mn_L i L) (hi : 0 ≤ i ∧ i + 6 ≤ (LX : Int)) (hLX : LX ≤ 3072) (hX : ∀ j, gm_ir (X j)) (hbc : 12 ≤ bc) (hbs : 1200 ≤ bs) (rest : mn_R X LX bc bs i g Q) : gm_Wp X LX 280 bc bs 370 803 L [] (245 + 4 * g) K R M Q := by
  obtain ⟨hM, hMb⟩ := hM
  refine gm_sz (gm_p_load (pc := 803) (i := .aload_n 1) (sr := 2) (j := 1) (by decide +kernel) rfl hL.2.2.1 rfl) ?_
  refine mn_arg (pc := 804) (j := 1) (by decide +kernel) (by decide +kernel) (by decide +kernel) (by decide +kernel) (by decide +kernel) hL hi (by decide) hLX ?_
  refine gm_sz (gm_p_load (pc := 810) (i := .aload_n 3) (sr := 2) (j := 3) (by decide +kernel) rfl hL.2.2.2.2.1 rfl) ?_
  refine mn_x (pc := 811) (ix := 198) (mj := 160) (xs := [X (i + 1)]) (st := []) (ds := [(-2147483648, 2147483647)]) (md := 0) hb (by omega) (by decide +kernel) (by decide +kernel) (by decide +kernel) (by decide +kernel) (show 3 = gm_na 160 by decide +kernel) (show 3 ≤ gm_ml 160 by decide +kernel) (Nat.le_of_ble_eq_true rfl) hx_years_s hl_years_s hx_years_c hl_years_c hx_years_v hl_years_v (bc_in1 (mn_w (hX _)) bc_in0) (List.forall_mem_cons.mpr ⟨hX _, (fun _ h => nomatch h)⟩) (by omega) (by omega) (fun g1 la1 K1 R1 M1 u1 hb1 hg1 ho1 hp1 hu1 hk1 => ?_)
  have hp1 : M1 1 1 = M 1 1 := hp1
  obtain ⟨y1, rfl⟩ : ∃ y, u1 = some (gm_vi y) := hu1
  show gm_Wp X LX 280 _ _ 370 814 L [gm_vi y1] (245 + 4 * g1) K1 R1 M1 Q
  refine gm_sz (gm_p_stor (pc := 814) (i := .istore 5) (sr := 0) (j := 5) (by decide +kernel) rfl (by show 5 + 0 < L.length; have := hL.1; omega) rfl) ?_
  have hL5 := mn_L_s (y := y1) hL (j := 5) (Or.inl rfl)
  generalize gm_lst L 5 (gm_vi y1) = L5 at hL5 ⊢
  refine gm_sz (gm_p_load (pc := 816) (i := .aload_n 2) (sr := 2) (j := 2) (by decide +kernel) rfl hL5.2.2.2.1 rfl) ?_
  refine mn_arg (pc := 817) (j := 1) (by decide +kernel) (by decide +kernel) (by decide +kernel) (by decide +kernel) (by decide +kernel) hL5 hi (by decide) hLX ?_
  refine mn_m (pc := 823) (ix := 200) (mj := 320) (xs := [X (i + 1)]) (st := []) (ds := [(-2147483648, 2147483647)]) (md := 0) (r := true) hb1 (by omega) (by decide +kernel) (by decide +kernel) (by decide +kernel) (by decide +kernel) (show 1 = gm_na 320 by decide +kernel) (show 2 ≤ gm_ml 320 by decide +kernel) (Nat.le_of_ble_eq_true rfl) hm_years_s hm_years_c hm_years_v (bc_in1 (mn_w (hX _)) bc_in0) (List.forall_mem_cons.mpr ⟨hX _, (fun _ h => nomatch h)⟩) (by omega) (by omega) (fun g2 la2 K2 R2 M2 u2 hb2 hg2 ho2 hp2 hu2 hk2 => ?_)
  have hp2 : M2 226 8 = M1 226 8 := hp2
  obtain ⟨y2, rfl⟩ : ∃ y, u2 = some (gm_vi y) := hu2
  show gm_Wp X LX 280 _ _ 370 826 L5 [gm_vi y2] (245 + 4 * g2) K2 R2 M2 Q
  refine gm_sz (gm_p_stor (pc := 826) (i := .istore 6) (sr := 0) (j := 6) (by decide +kernel) rfl (by show 6 + 0 < L5.length; have := hL5.1; omega) rfl) ?_
  have hL6 := mn_L_s (y := y2) hL5 (j := 6) (Or.inr rfl)
  generalize gm_lst L5 6 (gm_vi y2) = L6 at hL6 ⊢
  refine gm_sz (gm_p_goto (pc := 828) (off := 1165) (by decide +kernel) (by decide)) ?_
  exact gm_Wp_wk (Nat.le_refl _) (by omega) (by omega) (rest g2 la2 K2 R2 M2 L6 hb2 (by omega) ⟨by omega, fun j j1 j2 => by have a1 := hk1 j j1 j2; have a2 := hk2 j j1 j2; have a3 := hMb j j1 j2; omega⟩ hL6)
theorem mc_16 (hb : bg g la K R M) (hg : g < 9990) (hM : rl M) (hL : mn_L i L) (hi : 0 ≤ i ∧ i + 6 ≤ (LX : Int)) (hLX : LX ≤ 3072) (hX : ∀ j, gm_ir (X j)) (hbc : 12 ≤ bc) (hbs : 1200 ≤ bs) (rest : mn_R X LX bc bs i g Q) : gm_Wp X LX 280 bc bs 370 831 L [] (245 + 4 * g) K R M Q := by
  obtain ⟨hM, hMb⟩ := hM
  refine gm_sz (gm_p_load (pc := 831) (i := .aload_n 1) (sr := 2) (j := 1) (by decide +kernel) rfl hL.2.2.1 rfl) ?_
  refine mn_arg (pc := 832) (j := 1) (by decide +kernel) (by decide +kernel) (by decide +kernel) (by decide +kernel) (by decide +kernel) hL hi (by decide) hLX ?_
  refine mn_arg (pc := 838) (j := 2) (by decide +kernel) (by decide +kernel) (by decide +kernel) (by decide +kernel) (by decide +kernel) hL hi (by decide) hLX ?_
  refine mn_arg (pc := 844) (j := 3) (by decide +kernel) (by decide +kernel) (by decide +kernel) (by decide +kernel) (by decide +kernel) hL hi (by decide) hLX ?_
  refine mn_arg (pc := 850) (j := 4) (by decide +kernel) (by decide +kernel) (by decide +kernel) (by decide +kernel) (by decide +kernel) hL hi (by decide) hLX ?_
  refine gm_sz (gm_p_load (pc := 856) (i := .aload_n 3) (sr := 2) (j := 3) (by decide +kernel) rfl hL.2.2.2.2.1 rfl) ?_
  refine mn_x (pc := 857) (ix := 201) (mj := 166) (xs := [X (i + 1), X (i + 2), X (i + 3), X (i + 4)]) (st := []) (ds := [(-2147483648, 2147483647), (-2147483648, 2147483647), (-2147483648, 2147483647), (-2147483648, 2147483647)]) (md := 0) hb (by omega) (by decide +kernel) (by decide +kernel) (by decide +kernel) (by decide +kernel) (show 6 = gm_na 166 by decide +kernel) (show 6 ≤ gm_ml 166 by decide +kernel) (Nat.le_of_ble_eq_true rfl) hx_throwsFor_s hl_throwsFor_s hx_throwsFor_c hl_throwsFor_c hx_throwsFor_v hl_throwsFor_v (bc_in1 (mn_w (hX _)) (bc_in1 (mn_w (hX _)) (bc_in1 (mn_w (hX _)) (bc_in1 (mn_w (hX _)) bc_in0)))) (List.forall_mem_cons.mpr ⟨hX _, (List.forall_mem_cons.mpr ⟨hX _, (List.forall_mem_cons.mpr ⟨hX _, (List.forall_mem_cons.mpr ⟨hX _, (fun _ h => nomatch h)⟩)⟩)⟩)⟩) (by omega) (by omega) (fun g1 la1 K1 R1 M1 u1 hb1 hg1 ho1 hp1 hu1 hk1 => ?_)
  have hp1 : M1 1 1 = M 1 1 := hp1
  obtain ⟨y1, rfl⟩ : ∃ y, u1 = some (gm_vi y) := hu1
  show gm_Wp X LX 280 _ _ 370 860 L [gm_vi y1] (245 + 4 * g1) K1 R1 M1 Q
  refine gm_sz (gm_p_stor (pc := 860) (i := .istore 5) (sr := 0) (j := 5) (by decide +kernel) rfl (by show 5 + 0 < L.length; have := hL.1; omega) rfl) ?_
  have hL5 := mn_L_s (y := y1) hL (j := 5) (Or.inl rfl)
  generalize gm_lst L 5 (gm_vi y1) = L5 at hL5 ⊢
  refine gm_sz (gm_p_load (pc := 862) (i := .aload_n 2) (sr := 2) (j := 2) (by decide +kernel) rfl hL5.2.2.2.1 rfl) ?_
  refine mn_arg (pc := 863) (j := 1) (by decide +kernel) (by decide +kernel) (by decide +kernel) (by decide +kernel) (by decide +kernel) hL5 hi (by decide) hLX ?_
  refine mn_arg (pc := 869) (j := 2) (by decide +kernel) (by decide +kernel) (by decide +kernel) (by decide +kernel) (by decide +kernel) hL5 hi (by decide) hLX ?_
  refine mn_arg (pc := 875) (j := 3) (by decide +kernel) (by decide +kernel) (by decide +kernel) (by decide +kernel) (by decide +kernel) hL5 hi (by decide) hLX ?_
  refine mn_arg (pc := 881) (j := 4) (by decide +kernel) (by decide +kernel) (by decide +kernel) (by decide +kernel) (by decide +kernel) hL5 hi (by decide) hLX ?_
  refine mn_m (pc := 887) (ix := 204) (mj := 324) (xs := [X (i + 1), X (i + 2), X (i + 3), X (i + 4)]) (st := []) (ds := [(-2147483648, 2147483647), (-2147483648, 2147483647), (-2147483648, 2147483647), (-2147483648, 2147483647)]) (md := 0) (r := true) hb1 (by omega) (by decide +kernel) (by decide +kernel) (by decide +kernel) (by decide +kernel) (show 4 = gm_na 324 by decide +kernel) (show 5 ≤ gm_ml 324 by decide +kernel) (Nat.le_of_ble_eq_true rfl) hm_throwsFor_s hm_throwsFor_c hm_throwsFor_v (bc_in1 (mn_w (hX _)) (bc_in1 (mn_w (hX _)) (bc_in1 (mn_w (hX _)) (bc_in1 (mn_w (hX _)) bc_in0)))) (List.forall_mem_cons.mpr ⟨hX _, (List.forall_mem_cons.mpr ⟨hX _, (List.forall_mem_cons.mpr ⟨hX _, (List.forall_mem_cons.mpr ⟨hX _, (fun _ h => nomatch h)⟩)⟩)⟩)⟩) (by omega) (by omega) (fun g2 la2 K2 R2 M2 u2 hb2 hg2 ho2 hp2 hu2 hk2 => ?_)
  have hp2 : M2 226 8 = M1 226 8 := hp2
  obtain ⟨y2, rfl⟩ : ∃ y, u2 = some (gm_vi y) := hu2
  show gm_Wp X LX 280 _ _ 370 890 L5 [gm_vi y2] (245 + 4 * g2) K2 R2 M2 Q
  refine gm_sz (gm_p_stor (pc := 890) (i := .istore 6) (sr := 0) (j := 6) (by decide +kernel) rfl (by show 6 + 0 < L5.length; have := hL5.1; omega) rfl) ?_
  have hL6 := mn_L_s (y := y2) hL5 (j := 6) (Or.inr rfl)
  generalize gm_lst L5 6 (gm_vi y2) = L6 at hL6 ⊢
  refine gm_sz (gm_p_goto (pc := 892) (off := 1101) (by decide +kernel) (by decide)) ?_
  exact gm_Wp_wk (Nat.le_refl _) (by omega) (by omega) (rest g2 la2 K2 R2 M2 L6 hb2 (by omega) ⟨by omega, fun j j1 j2 => by have a1 := hk1 j j1 j2; have a2 := hk2 j j1 j2; have a3 := hMb j j1 j2; omega⟩ hL6)
theorem mc_17 (hb : bg g la K R M) (hg : g < 9990) (hM : rl M) (hL : mn_L i L) (hi : 0 ≤ i ∧ i + 6 ≤ (LX : Int)) (hLX : LX ≤ 3072) (hX : ∀ j, gm_ir (X j)) (hbc : 12 ≤ bc) (hbs : 1200 ≤ bs) (rest : mn_R X LX bc bs i g Q) : gm_Wp X LX 280 bc bs 370 895 L [] (245 + 4 * g) K R M Q := by
  obtain ⟨hM, hMb⟩ := hM
  refine gm_sz (gm_p_load (pc := 895) (i := .aload_n 1) (sr := 2) (j := 1) (by decide +kernel) rfl hL.2.2.1 rfl) ?_
  refine mn_arg (pc := 896) (j := 1) (by decide +kernel) (by decide +kernel) (by decide +kernel) (by decide +kernel) (by decide +kernel) hL hi (by decide) hLX ?_
  refine mn_arg (pc := 902) (j := 2) (by decide +kernel) (by decide +kernel) (by decide +kernel) (by decide +kernel) (by decide +kernel) hL hi (by decide) hLX ?_
  refine gm_sz (gm_p_load (pc := 908) (i := .aload_n 3) (sr := 2) (j := 3) (by decide +kernel) rfl hL.2.2.2.2.1 rfl) ?_
  refine mn_x (pc := 909) (ix := 205) (mj := 168) (xs := [X (i + 1), X (i + 2)]) (st := []) (ds := [(-2147483648, 2147483647), (-2147483648, 2147483647)]) (md := 0) hb (by omega) (by decide +kernel) (by decide +kernel) (by decide +kernel) (by decide +kernel) (show 4 = gm_na 168 by decide +kernel) (show 4 ≤ gm_ml 168 by decide +kernel) (Nat.le_of_ble_eq_true rfl) hx_latest_s hl_latest_s hx_latest_c hl_latest_c hx_latest_v hl_latest_v (bc_in1 (mn_w (hX _)) (bc_in1 (mn_w (hX _)) bc_in0)) (List.forall_mem_cons.mpr ⟨hX _, (List.forall_mem_cons.mpr ⟨hX _, (fun _ h => nomatch h)⟩)⟩) (by omega) (by omega) (fun g1 la1 K1 R1 M1 u1 hb1 hg1 ho1 hp1 hu1 hk1 => ?_)
  have hp1 : M1 1 1 = M 1 1 := hp1
  obtain ⟨y1, rfl⟩ : ∃ y, u1 = some (gm_vi y) := hu1
  show gm_Wp X LX 280 _ _ 370 912 L [gm_vi y1] (245 + 4 * g1) K1 R1 M1 Q
  refine gm_sz (gm_p_stor (pc := 912) (i := .istore 5) (sr := 0) (j := 5) (by decide +kernel) rfl (by show 5 + 0 < L.length; have := hL.1; omega) rfl) ?_
  have hL5 := mn_L_s (y := y1) hL (j := 5) (Or.inl rfl)
  generalize gm_lst L 5 (gm_vi y1) = L5 at hL5 ⊢
  refine gm_sz (gm_p_load (pc := 914) (i := .aload_n 2) (sr := 2) (j := 2) (by decide +kernel) rfl hL5.2.2.2.1 rfl) ?_
  refine mn_arg (pc := 915) (j := 1) (by decide +kernel) (by decide +kernel) (by decide +kernel) (by decide +kernel) (by decide +kernel) hL5 hi (by decide) hLX ?_
  refine mn_arg (pc := 921) (j := 2) (by decide +kernel) (by decide +kernel) (by decide +kernel) (by decide +kernel) (by decide +kernel) hL5 hi (by decide) hLX ?_
  refine mn_m (pc := 927) (ix := 207) (mj := 326) (xs := [X (i + 1), X (i + 2)]) (st := []) (ds := [(-2147483648, 2147483647), (-2147483648, 2147483647)]) (md := 0) (r := true) hb1 (by omega) (by decide +kernel) (by decide +kernel) (by decide +kernel) (by decide +kernel) (show 2 = gm_na 326 by decide +kernel) (show 3 ≤ gm_ml 326 by decide +kernel) (Nat.le_of_ble_eq_true rfl) hm_latest_s hm_latest_c hm_latest_v (bc_in1 (mn_w (hX _)) (bc_in1 (mn_w (hX _)) bc_in0)) (List.forall_mem_cons.mpr ⟨hX _, (List.forall_mem_cons.mpr ⟨hX _, (fun _ h => nomatch h)⟩)⟩) (by omega) (by omega) (fun g2 la2 K2 R2 M2 u2 hb2 hg2 ho2 hp2 hu2 hk2 => ?_)
  have hp2 : M2 226 8 = M1 226 8 := hp2
  obtain ⟨y2, rfl⟩ : ∃ y, u2 = some (gm_vi y) := hu2
  show gm_Wp X LX 280 _ _ 370 930 L5 [gm_vi y2] (245 + 4 * g2) K2 R2 M2 Q
  refine gm_sz (gm_p_stor (pc := 930) (i := .istore 6) (sr := 0) (j := 6) (by decide +kernel) rfl (by show 6 + 0 < L5.length; have := hL5.1; omega) rfl) ?_
  have hL6 := mn_L_s (y := y2) hL5 (j := 6) (Or.inr rfl)
  generalize gm_lst L5 6 (gm_vi y2) = L6 at hL6 ⊢
  refine gm_sz (gm_p_goto (pc := 932) (off := 1061) (by decide +kernel) (by decide)) ?_
  exact gm_Wp_wk (Nat.le_refl _) (by omega) (by omega) (rest g2 la2 K2 R2 M2 L6 hb2 (by omega) ⟨by omega, fun j j1 j2 => by have a1 := hk1 j j1 j2; have a2 := hk2 j j1 j2; have a3 := hMb j j1 j2; omega⟩ hL6)
theorem mc_18 (hb : bg g la K R M) (hg : g < 9990) (hM : rl M) (hL : mn_L i L) (hi : 0 ≤ i ∧ i + 6 ≤ (LX : Int)) (hLX : LX ≤ 3072) (hX : ∀ j, gm_ir (X j)) (hbc : 12 ≤ bc) (hbs : 1200 ≤ bs) (rest : mn_R X LX bc bs i g Q) : gm_Wp X LX 280 bc bs 370 935 L [] (245 + 4 * g) K R M Q := by
  obtain ⟨hM, hMb⟩ := hM
  refine gm_sz (gm_p_load (pc := 935) (i := .aload_n 1) (sr := 2) (j := 1) (by decide +kernel) rfl hL.2.2.1 rfl) ?_
  refine mn_arg (pc := 936) (j := 1) (by decide +kernel) (by decide +kernel) (by decide +kernel) (by decide +kernel) (by decide +kernel) hL hi (by decide) hLX ?_
  refine mn_arg (pc := 942) (j := 2) (by decide +kernel) (by decide +kernel) (by decide +kernel) (by decide +kernel) (by decide +kernel) hL hi (by decide) hLX ?_
  refine gm_sz (gm_p_load (pc := 948) (i := .aload_n 3) (sr := 2) (j := 3) (by decide +kernel) rfl hL.2.2.2.2.1 rfl) ?_
  refine mn_x (pc := 949) (ix := 208) (mj := 171) (xs := [X (i + 1), X (i + 2)]) (st := []) (ds := [(-2147483648, 2147483647), (-2147483648, 2147483647)]) (md := 0) hb (by omega) (by decide +kernel) (by decide +kernel) (by decide +kernel) (by decide +kernel) (show 4 = gm_na 171 by decide +kernel) (show 4 ≤ gm_ml 171 by decide +kernel) (Nat.le_of_ble_eq_true rfl) hx_hut_s hl_hut_s hx_hut_c hl_hut_c hx_hut_v hl_hut_v (bc_in1 (mn_w (hX _)) (bc_in1 (mn_w (hX _)) bc_in0)) (List.forall_mem_cons.mpr ⟨hX _, (List.forall_mem_cons.mpr ⟨hX _, (fun _ h => nomatch h)⟩)⟩) (by omega) (by omega) (fun g1 la1 K1 R1 M1 u1 hb1 hg1 ho1 hp1 hu1 hk1 => ?_)
  have hp1 : M1 1 1 = M 1 1 := hp1
  obtain ⟨y1, rfl⟩ : ∃ y, u1 = some (gm_vi y) := hu1
  show gm_Wp X LX 280 _ _ 370 952 L [gm_vi y1] (245 + 4 * g1) K1 R1 M1 Q
  refine gm_sz (gm_p_stor (pc := 952) (i := .istore 5) (sr := 0) (j := 5) (by decide +kernel) rfl (by show 5 + 0 < L.length; have := hL.1; omega) rfl) ?_
  have hL5 := mn_L_s (y := y1) hL (j := 5) (Or.inl rfl)
  generalize gm_lst L 5 (gm_vi y1) = L5 at hL5 ⊢
  refine gm_sz (gm_p_load (pc := 954) (i := .aload_n 2) (sr := 2) (j := 2) (by decide +kernel) rfl hL5.2.2.2.1 rfl) ?_
  refine mn_arg (pc := 955) (j := 1) (by decide +kernel) (by decide +kernel) (by decide +kernel) (by decide +kernel) (by decide +kernel) hL5 hi (by decide) hLX ?_
  refine mn_arg (pc := 961) (j := 2) (by decide +kernel) (by decide +kernel) (by decide +kernel) (by decide +kernel) (by decide +kernel) hL5 hi (by decide) hLX ?_
  refine mn_m (pc := 967) (ix := 210) (mj := 327) (xs := [X (i + 1), X (i + 2)]) (st := []) (ds := [(-2147483648, 2147483647), (-2147483648, 2147483647)]) (md := 0) (r := true) hb1 (by omega) (by decide +kernel) (by decide +kernel) (by decide +kernel) (by decide +kernel) (show 2 = gm_na 327 by decide +kernel) (show 3 ≤ gm_ml 327 by decide +kernel) (Nat.le_of_ble_eq_true rfl) hm_hut_s hm_hut_c hm_hut_v (bc_in1 (mn_w (hX _)) (bc_in1 (mn_w (hX _)) bc_in0)) (List.forall_mem_cons.mpr ⟨hX _, (List.forall_mem_cons.mpr ⟨hX _, (fun _ h => nomatch h)⟩)⟩) (by omega) (by omega) (fun g2 la2 K2 R2 M2 u2 hb2 hg2 ho2 hp2 hu2 hk2 => ?_)
  have hp2 : M2 226 8 = M1 226 8 := hp2
  obtain ⟨y2, rfl⟩ : ∃ y, u2 = some (gm_vi y) := hu2
  show gm_Wp X LX 280 _ _ 370 970 L5 [gm_vi y2] (245 + 4 * g2) K2 R2 M2 Q
  refine gm_sz (gm_p_stor (pc := 970) (i := .istore 6) (sr := 0) (j := 6) (by decide +kernel) rfl (by show 6 + 0 < L5.length; have := hL5.1; omega) rfl) ?_
  have hL6 := mn_L_s (y := y2) hL5 (j := 6) (Or.inr rfl)
  generalize gm_lst L5 6 (gm_vi y2) = L6 at hL6 ⊢
  refine gm_sz (gm_p_goto (pc := 972) (off := 1021) (by decide +kernel) (by decide)) ?_
  exact gm_Wp_wk (Nat.le_refl _) (by omega) (by omega) (rest g2 la2 K2 R2 M2 L6 hb2 (by omega) ⟨by omega, fun j j1 j2 => by have a1 := hk1 j j1 j2; have a2 := hk2 j j1 j2; have a3 := hMb j j1 j2; omega⟩ hL6)
theorem mc_19 (hb : bg g la K R M) (hg : g < 9990) (hM : rl M) (hL : mn_L i L) (hi : 0 ≤ i ∧ i + 6 ≤ (LX : Int)) (hLX : LX ≤ 3072) (hX : ∀ j, gm_ir (X j)) (hbc : 12 ≤ bc) (hbs : 1200 ≤ bs) (rest : mn_R X LX bc bs i g Q) : gm_Wp X LX 280 bc bs 370 975 L [] (245 + 4 * g) K R M Q := by
  obtain ⟨hM, hMb⟩ := hM
  refine gm_sz (gm_p_load (pc := 975) (i := .aload_n 1) (sr := 2) (j := 1) (by decide +kernel) rfl hL.2.2.1 rfl) ?_
  refine mn_arg (pc := 976) (j := 1) (by decide +kernel) (by decide +kernel) (by decide +kernel) (by decide +kernel) (by decide +kernel) hL hi (by decide) hLX ?_
  refine mn_arg (pc := 982) (j := 2) (by decide +kernel) (by decide +kernel) (by decide +kernel) (by decide +kernel) (by decide +kernel) hL hi (by decide) hLX ?_
  refine gm_sz (gm_p_load (pc := 988) (i := .aload_n 3) (sr := 2) (j := 3) (by decide +kernel) rfl hL.2.2.2.2.1 rfl) ?_
  refine mn_x (pc := 989) (ix := 211) (mj := 173) (xs := [X (i + 1), X (i + 2)]) (st := []) (ds := [(-2147483648, 2147483647), (-2147483648, 2147483647)]) (md := 0) hb (by omega) (by decide +kernel) (by decide +kernel) (by decide +kernel) (by decide +kernel) (show 4 = gm_na 173 by decide +kernel) (show 4 ≤ gm_ml 173 by decide +kernel) (Nat.le_of_ble_eq_true rfl) hx_without_s hl_without_s hx_without_c hl_without_c hx_without_v hl_without_v (bc_in1 (mn_w (hX _)) (bc_in1 (mn_w (hX _)) bc_in0)) (List.forall_mem_cons.mpr ⟨hX _, (List.forall_mem_cons.mpr ⟨hX _, (fun _ h => nomatch h)⟩)⟩) (by omega) (by omega) (fun g1 la1 K1 R1 M1 u1 hb1 hg1 ho1 hp1 hu1 hk1 => ?_)
  have hp1 : M1 1 1 = M 1 1 := hp1
  obtain ⟨y1, rfl⟩ : ∃ y, u1 = some (gm_vi y) := hu1
  show gm_Wp X LX 280 _ _ 370 992 L [gm_vi y1] (245 + 4 * g1) K1 R1 M1 Q
  refine gm_sz (gm_p_stor (pc := 992) (i := .istore 5) (sr := 0) (j := 5) (by decide +kernel) rfl (by show 5 + 0 < L.length; have := hL.1; omega) rfl) ?_
  have hL5 := mn_L_s (y := y1) hL (j := 5) (Or.inl rfl)
  generalize gm_lst L 5 (gm_vi y1) = L5 at hL5 ⊢
  refine gm_sz (gm_p_load (pc := 994) (i := .aload_n 2) (sr := 2) (j := 2) (by decide +kernel) rfl hL5.2.2.2.1 rfl) ?_
  refine mn_arg (pc := 995) (j := 1) (by decide +kernel) (by decide +kernel) (by decide +kernel) (by decide +kernel) (by decide +kernel) hL5 hi (by decide) hLX ?_
  refine mn_arg (pc := 1001) (j := 2) (by decide +kernel) (by decide +kernel) (by decide +kernel) (by decide +kernel) (by decide +kernel) hL5 hi (by decide) hLX ?_
  refine mn_m (pc := 1007) (ix := 213) (mj := 328) (xs := [X (i + 1), X (i + 2)]) (st := []) (ds := [(-2147483648, 2147483647), (-2147483648, 2147483647)]) (md := 0) (r := true) hb1 (by omega) (by decide +kernel) (by decide +kernel) (by decide +kernel) (by decide +kernel) (show 2 = gm_na 328 by decide +kernel) (show 3 ≤ gm_ml 328 by decide +kernel) (Nat.le_of_ble_eq_true rfl) hm_without_s hm_without_c hm_without_v (bc_in1 (mn_w (hX _)) (bc_in1 (mn_w (hX _)) bc_in0)) (List.forall_mem_cons.mpr ⟨hX _, (List.forall_mem_cons.mpr ⟨hX _, (fun _ h => nomatch h)⟩)⟩) (by omega) (by omega) (fun g2 la2 K2 R2 M2 u2 hb2 hg2 ho2 hp2 hu2 hk2 => ?_)
  have hp2 : M2 226 8 = M1 226 8 := hp2
  obtain ⟨y2, rfl⟩ : ∃ y, u2 = some (gm_vi y) := hu2
  show gm_Wp X LX 280 _ _ 370 1010 L5 [gm_vi y2] (245 + 4 * g2) K2 R2 M2 Q
  refine gm_sz (gm_p_stor (pc := 1010) (i := .istore 6) (sr := 0) (j := 6) (by decide +kernel) rfl (by show 6 + 0 < L5.length; have := hL5.1; omega) rfl) ?_
  have hL6 := mn_L_s (y := y2) hL5 (j := 6) (Or.inr rfl)
  generalize gm_lst L5 6 (gm_vi y2) = L6 at hL6 ⊢
  refine gm_sz (gm_p_goto (pc := 1012) (off := 981) (by decide +kernel) (by decide)) ?_
  exact gm_Wp_wk (Nat.le_refl _) (by omega) (by omega) (rest g2 la2 K2 R2 M2 L6 hb2 (by omega) ⟨by omega, fun j j1 j2 => by have a1 := hk1 j j1 j2; have a2 := hk2 j j1 j2; have a3 := hMb j j1 j2; omega⟩ hL6)
theorem mc_20 (hb : bg g la K R M) (hg : g < 9990) (hM : rl M) (hL : mn_L i L) (hi : 0 ≤ i ∧ i + 6 ≤ (LX : Int)) (hLX : LX ≤ 3072) (hX : ∀ j, gm_ir (X j)) (hbc : 12 ≤ bc) (hbs : 1200 ≤ bs) (rest : mn_R X LX bc bs i g Q) : gm_Wp X LX 280 bc bs 370 1015 L [] (245 + 4 * g) K R M Q := by
  obtain ⟨hM, hMb⟩ := hM
  refine gm_sz (gm_p_load (pc := 1015) (i := .aload_n 1) (sr := 2) (j := 1) (by decide +kernel) rfl hL.2.2.1 rfl) ?_
  refine mn_arg (pc := 1016) (j := 1) (by decide +kernel) (by decide +kernel) (by decide +kernel) (by decide +kernel) (by decide +kernel) hL hi (by decide) hLX ?_
  refine gm_sz (gm_p_load (pc := 1022) (i := .aload_n 3) (sr := 2) (j := 3) (by decide +kernel) rfl hL.2.2.2.2.1 rfl) ?_
  refine mn_x (pc := 1023) (ix := 214) (mj := 176) (xs := [X (i + 1)]) (st := []) (ds := [(-2147483648, 2147483647)]) (md := 0) hb (by omega) (by decide +kernel) (by decide +kernel) (by decide +kernel) (by decide +kernel) (show 3 = gm_na 176 by decide +kernel) (show 3 ≤ gm_ml 176 by decide +kernel) (Nat.le_of_ble_eq_true rfl) hx_moved_s hl_moved_s hx_moved_c hl_moved_c hx_moved_v hl_moved_v (bc_in1 (mn_w (hX _)) bc_in0) (List.forall_mem_cons.mpr ⟨hX _, (fun _ h => nomatch h)⟩) (by omega) (by omega) (fun g1 la1 K1 R1 M1 u1 hb1 hg1 ho1 hp1 hu1 hk1 => ?_)
  have hp1 : M1 1 1 = M 1 1 := hp1
  obtain ⟨y1, rfl⟩ : ∃ y, u1 = some (gm_vi y) := hu1
  show gm_Wp X LX 280 _ _ 370 1026 L [gm_vi y1] (245 + 4 * g1) K1 R1 M1 Q
  refine gm_sz (gm_p_stor (pc := 1026) (i := .istore 5) (sr := 0) (j := 5) (by decide +kernel) rfl (by show 5 + 0 < L.length; have := hL.1; omega) rfl) ?_
  have hL5 := mn_L_s (y := y1) hL (j := 5) (Or.inl rfl)
  generalize gm_lst L 5 (gm_vi y1) = L5 at hL5 ⊢
  refine gm_sz (gm_p_load (pc := 1028) (i := .aload_n 2) (sr := 2) (j := 2) (by decide +kernel) rfl hL5.2.2.2.1 rfl) ?_
  refine mn_arg (pc := 1029) (j := 1) (by decide +kernel) (by decide +kernel) (by decide +kernel) (by decide +kernel) (by decide +kernel) hL5 hi (by decide) hLX ?_
  refine mn_m (pc := 1035) (ix := 216) (mj := 329) (xs := [X (i + 1)]) (st := []) (ds := [(-2147483648, 2147483647)]) (md := 0) (r := true) hb1 (by omega) (by decide +kernel) (by decide +kernel) (by decide +kernel) (by decide +kernel) (show 1 = gm_na 329 by decide +kernel) (show 2 ≤ gm_ml 329 by decide +kernel) (Nat.le_of_ble_eq_true rfl) hm_moved_s hm_moved_c hm_moved_v (bc_in1 (mn_w (hX _)) bc_in0) (List.forall_mem_cons.mpr ⟨hX _, (fun _ h => nomatch h)⟩) (by omega) (by omega) (fun g2 la2 K2 R2 M2 u2 hb2 hg2 ho2 hp2 hu2 hk2 => ?_)
  have hp2 : M2 226 8 = M1 226 8 := hp2
  obtain ⟨y2, rfl⟩ : ∃ y, u2 = some (gm_vi y) := hu2
  show gm_Wp X LX 280 _ _ 370 1038 L5 [gm_vi y2] (245 + 4 * g2) K2 R2 M2 Q
  refine gm_sz (gm_p_stor (pc := 1038) (i := .istore 6) (sr := 0) (j := 6) (by decide +kernel) rfl (by show 6 + 0 < L5.length; have := hL5.1; omega) rfl) ?_
  have hL6 := mn_L_s (y := y2) hL5 (j := 6) (Or.inr rfl)
  generalize gm_lst L5 6 (gm_vi y2) = L6 at hL6 ⊢
  refine gm_sz (gm_p_goto (pc := 1040) (off := 953) (by decide +kernel) (by decide)) ?_
  exact gm_Wp_wk (Nat.le_refl _) (by omega) (by omega) (rest g2 la2 K2 R2 M2 L6 hb2 (by omega) ⟨by omega, fun j j1 j2 => by have a1 := hk1 j j1 j2; have a2 := hk2 j j1 j2; have a3 := hMb j j1 j2; omega⟩ hL6)
theorem mc_21 (hb : bg g la K R M) (hg : g < 9990) (hM : rl M) (hL : mn_L i L) (hi : 0 ≤ i ∧ i + 6 ≤ (LX : Int)) (hLX : LX ≤ 3072) (hX : ∀ j, gm_ir (X j)) (hbc : 12 ≤ bc) (hbs : 1200 ≤ bs) (rest : mn_R X LX bc bs i g Q) : gm_Wp X LX 280 bc bs 370 1043 L [] (245 + 4 * g) K R M Q := by
  obtain ⟨hM, hMb⟩ := hM
  refine gm_sz (gm_p_load (pc := 1043) (i := .aload_n 1) (sr := 2) (j := 1) (by decide +kernel) rfl hL.2.2.1 rfl) ?_
  refine mn_d (pc := 1044) (ix := 217) (mj := 23) (xs := []) (st := []) (ds := []) (md := 0) (r := true) hb (by omega) (by decide +kernel) (by decide +kernel) (by decide +kernel) (by decide +kernel) (show 0 = gm_na 23 by decide +kernel) (show 1 ≤ gm_ml 23 by decide +kernel) (Nat.le_of_ble_eq_true rfl) hx_lost_s hl_lost_s hx_lost_c hl_lost_c hx_lost_v hl_lost_v bc_in0 (fun _ h => nomatch h) (by omega) (by omega) (fun g1 la1 K1 R1 M1 u1 hb1 hg1 ho1 hp1 hu1 hk1 => ?_)
  have hp1 : M1 1 1 = M 1 1 := hp1
  obtain ⟨y1, rfl⟩ : ∃ y, u1 = some (gm_vi y) := hu1
  show gm_Wp X LX 280 _ _ 370 1047 L [gm_vi y1] (245 + 4 * g1) K1 R1 M1 Q
  refine gm_sz (gm_p_pop (pc := 1047) (by decide +kernel) (by simp [gm_sort])) ?_
  refine gm_sz (gm_p_load (pc := 1048) (i := .aload_n 2) (sr := 2) (j := 2) (by decide +kernel) rfl hL.2.2.2.1 rfl) ?_
  refine mn_m (pc := 1049) (ix := 220) (mj := 330) (xs := []) (st := []) (ds := []) (md := 0) (r := true) hb1 (by omega) (by decide +kernel) (by decide +kernel) (by decide +kernel) (by decide +kernel) (show 0 = gm_na 330 by decide +kernel) (show 1 ≤ gm_ml 330 by decide +kernel) (Nat.le_of_ble_eq_true rfl) hm_lost_s hm_lost_c hm_lost_v bc_in0 (fun _ h => nomatch h) (by omega) (by omega) (fun g2 la2 K2 R2 M2 u2 hb2 hg2 ho2 hp2 hu2 hk2 => ?_)
  have hp2 : M2 226 8 = M1 226 8 := hp2
  obtain ⟨y2, rfl⟩ : ∃ y, u2 = some (gm_vi y) := hu2
  show gm_Wp X LX 280 _ _ 370 1052 L [gm_vi y2] (245 + 4 * g2) K2 R2 M2 Q
  refine gm_sz (gm_p_pop (pc := 1052) (by decide +kernel) (by simp [gm_sort])) ?_
  refine gm_sz (gm_p_goto (pc := 1053) (off := 940) (by decide +kernel) (by decide)) ?_
  exact gm_Wp_wk (Nat.le_refl _) (by omega) (by omega) (rest g2 la2 K2 R2 M2 L hb2 (by omega) ⟨by omega, fun j j1 j2 => by have a1 := hk1 j j1 j2; have a2 := hk2 j j1 j2; have a3 := hMb j j1 j2; omega⟩ hL)
theorem mc_22 (hb : bg g la K R M) (hg : g < 9990) (hM : rl M) (hL : mn_L i L) (hi : 0 ≤ i ∧ i + 6 ≤ (LX : Int)) (hLX : LX ≤ 3072) (hX : ∀ j, gm_ir (X j)) (hbc : 12 ≤ bc) (hbs : 1200 ≤ bs) (rest : mn_R X LX bc bs i g Q) : gm_Wp X LX 280 bc bs 370 1056 L [] (245 + 4 * g) K R M Q := by
  obtain ⟨hM, hMb⟩ := hM
  refine gm_sz (gm_p_load (pc := 1056) (i := .aload_n 1) (sr := 2) (j := 1) (by decide +kernel) rfl hL.2.2.1 rfl) ?_
  refine mn_arg (pc := 1057) (j := 1) (by decide +kernel) (by decide +kernel) (by decide +kernel) (by decide +kernel) (by decide +kernel) hL hi (by decide) hLX ?_
  refine mn_bool (pc := 1063) (by decide +kernel) (by decide +kernel) (by decide +kernel) (by decide +kernel) (fun b1 p1 q1 => ?_)
  refine mn_d (pc := 1071) (ix := 221) (mj := 46) (xs := [b1]) (st := []) (ds := [(0, 1)]) (md := 0) (r := true) hb (by omega) (by decide +kernel) (by decide +kernel) (by decide +kernel) (by decide +kernel) (show 1 = gm_na 46 by decide +kernel) (show 2 ≤ gm_ml 46 by decide +kernel) (Nat.le_of_ble_eq_true rfl) hx_market_s hl_market_s hx_market_c hl_market_c hx_market_v hl_market_v (bc_in1 ⟨p1, q1⟩ bc_in0) (List.forall_mem_cons.mpr ⟨⟨by omega, by omega⟩, (fun _ h => nomatch h)⟩) (by omega) (by omega) (fun g1 la1 K1 R1 M1 u1 hb1 hg1 ho1 hp1 hu1 hk1 => ?_)
  have hp1 : M1 1 1 = M 1 1 := hp1
  obtain ⟨y1, rfl⟩ : ∃ y, u1 = some (gm_vi y) := hu1
  show gm_Wp X LX 280 _ _ 370 1074 L [gm_vi y1] (245 + 4 * g1) K1 R1 M1 Q
  refine gm_sz (gm_p_pop (pc := 1074) (by decide +kernel) (by simp [gm_sort])) ?_
  refine gm_sz (gm_p_load (pc := 1075) (i := .aload_n 2) (sr := 2) (j := 2) (by decide +kernel) rfl hL.2.2.2.1 rfl) ?_
  refine mn_arg (pc := 1076) (j := 1) (by decide +kernel) (by decide +kernel) (by decide +kernel) (by decide +kernel) (by decide +kernel) hL hi (by decide) hLX ?_
  refine mn_bool (pc := 1082) (by decide +kernel) (by decide +kernel) (by decide +kernel) (by decide +kernel) (fun b2 p2 q2 => ?_)
  refine mn_m (pc := 1090) (ix := 225) (mj := 331) (xs := [b2]) (st := []) (ds := [(0, 1)]) (md := 0) (r := true) hb1 (by omega) (by decide +kernel) (by decide +kernel) (by decide +kernel) (by decide +kernel) (show 1 = gm_na 331 by decide +kernel) (show 2 ≤ gm_ml 331 by decide +kernel) (Nat.le_of_ble_eq_true rfl) hm_market_s hm_market_c hm_market_v (bc_in1 ⟨p2, q2⟩ bc_in0) (List.forall_mem_cons.mpr ⟨⟨by omega, by omega⟩, (fun _ h => nomatch h)⟩) (by omega) (by omega) (fun g2 la2 K2 R2 M2 u2 hb2 hg2 ho2 hp2 hu2 hk2 => ?_)
  have hp2 : M2 226 8 = M1 226 8 := hp2
  obtain ⟨y2, rfl⟩ : ∃ y, u2 = some (gm_vi y) := hu2
  show gm_Wp X LX 280 _ _ 370 1093 L [gm_vi y2] (245 + 4 * g2) K2 R2 M2 Q
  refine gm_sz (gm_p_pop (pc := 1093) (by decide +kernel) (by simp [gm_sort])) ?_
  refine gm_sz (gm_p_goto (pc := 1094) (off := 899) (by decide +kernel) (by decide)) ?_
  exact gm_Wp_wk (Nat.le_refl _) (by omega) (by omega) (rest g2 la2 K2 R2 M2 L hb2 (by omega) ⟨by omega, fun j j1 j2 => by have a1 := hk1 j j1 j2; have a2 := hk2 j j1 j2; have a3 := hMb j j1 j2; omega⟩ hL)
theorem mc_23 (hb : bg g la K R M) (hg : g < 9990) (hM : rl M) (hL : mn_L i L) (hi : 0 ≤ i ∧ i + 6 ≤ (LX : Int)) (hLX : LX ≤ 3072) (hX : ∀ j, gm_ir (X j)) (hbc : 12 ≤ bc) (hbs : 1200 ≤ bs) (rest : mn_R X LX bc bs i g Q) : gm_Wp X LX 280 bc bs 370 1097 L [] (245 + 4 * g) K R M Q := by
  obtain ⟨hM, hMb⟩ := hM
  refine gm_sz (gm_p_load (pc := 1097) (i := .aload_n 1) (sr := 2) (j := 1) (by decide +kernel) rfl hL.2.2.1 rfl) ?_
  refine mn_arg (pc := 1098) (j := 1) (by decide +kernel) (by decide +kernel) (by decide +kernel) (by decide +kernel) (by decide +kernel) hL hi (by decide) hLX ?_
  refine gm_sz (gm_p_load (pc := 1104) (i := .aload_n 3) (sr := 2) (j := 3) (by decide +kernel) rfl hL.2.2.2.2.1 rfl) ?_
  refine mn_x (pc := 1105) (ix := 226) (mj := 178) (xs := [X (i + 1)]) (st := []) (ds := [(-2147483648, 2147483647)]) (md := 0) hb (by omega) (by decide +kernel) (by decide +kernel) (by decide +kernel) (by decide +kernel) (show 3 = gm_na 178 by decide +kernel) (show 3 ≤ gm_ml 178 by decide +kernel) (Nat.le_of_ble_eq_true rfl) hx_passes_s hl_passes_s hx_passes_c hl_passes_c hx_passes_v hl_passes_v (bc_in1 (mn_w (hX _)) bc_in0) (List.forall_mem_cons.mpr ⟨hX _, (fun _ h => nomatch h)⟩) (by omega) (by omega) (fun g1 la1 K1 R1 M1 u1 hb1 hg1 ho1 hp1 hu1 hk1 => ?_)
  have hp1 : M1 1 1 = M 1 1 := hp1
  obtain ⟨y1, rfl⟩ : ∃ y, u1 = some (gm_vi y) := hu1
  show gm_Wp X LX 280 _ _ 370 1108 L [gm_vi y1] (245 + 4 * g1) K1 R1 M1 Q
  refine gm_sz (gm_p_stor (pc := 1108) (i := .istore 5) (sr := 0) (j := 5) (by decide +kernel) rfl (by show 5 + 0 < L.length; have := hL.1; omega) rfl) ?_
  have hL5 := mn_L_s (y := y1) hL (j := 5) (Or.inl rfl)
  generalize gm_lst L 5 (gm_vi y1) = L5 at hL5 ⊢
  refine gm_sz (gm_p_load (pc := 1110) (i := .aload_n 2) (sr := 2) (j := 2) (by decide +kernel) rfl hL5.2.2.2.1 rfl) ?_
  refine mn_arg (pc := 1111) (j := 1) (by decide +kernel) (by decide +kernel) (by decide +kernel) (by decide +kernel) (by decide +kernel) hL5 hi (by decide) hLX ?_
  refine mn_m (pc := 1117) (ix := 228) (mj := 334) (xs := [X (i + 1)]) (st := []) (ds := [(-2147483648, 2147483647)]) (md := 0) (r := true) hb1 (by omega) (by decide +kernel) (by decide +kernel) (by decide +kernel) (by decide +kernel) (show 1 = gm_na 334 by decide +kernel) (show 2 ≤ gm_ml 334 by decide +kernel) (Nat.le_of_ble_eq_true rfl) hm_passes_s hm_passes_c hm_passes_v (bc_in1 (mn_w (hX _)) bc_in0) (List.forall_mem_cons.mpr ⟨hX _, (fun _ h => nomatch h)⟩) (by omega) (by omega) (fun g2 la2 K2 R2 M2 u2 hb2 hg2 ho2 hp2 hu2 hk2 => ?_)
  have hp2 : M2 226 8 = M1 226 8 := hp2
  obtain ⟨y2, rfl⟩ : ∃ y, u2 = some (gm_vi y) := hu2
  show gm_Wp X LX 280 _ _ 370 1120 L5 [gm_vi y2] (245 + 4 * g2) K2 R2 M2 Q
  refine gm_sz (gm_p_stor (pc := 1120) (i := .istore 6) (sr := 0) (j := 6) (by decide +kernel) rfl (by show 6 + 0 < L5.length; have := hL5.1; omega) rfl) ?_
  have hL6 := mn_L_s (y := y2) hL5 (j := 6) (Or.inr rfl)
  generalize gm_lst L5 6 (gm_vi y2) = L6 at hL6 ⊢
  refine gm_sz (gm_p_goto (pc := 1122) (off := 871) (by decide +kernel) (by decide)) ?_
  exact gm_Wp_wk (Nat.le_refl _) (by omega) (by omega) (rest g2 la2 K2 R2 M2 L6 hb2 (by omega) ⟨by omega, fun j j1 j2 => by have a1 := hk1 j j1 j2; have a2 := hk2 j j1 j2; have a3 := hMb j j1 j2; omega⟩ hL6)
theorem mc_24 (hb : bg g la K R M) (hg : g < 9990) (hM : rl M) (hL : mn_L i L) (hi : 0 ≤ i ∧ i + 6 ≤ (LX : Int)) (hLX : LX ≤ 3072) (hX : ∀ j, gm_ir (X j)) (hbc : 12 ≤ bc) (hbs : 1200 ≤ bs) (rest : mn_R X LX bc bs i g Q) : gm_Wp X LX 280 bc bs 370 1125 L [] (245 + 4 * g) K R M Q := by
  obtain ⟨hM, hMb⟩ := hM
  refine gm_sz (gm_p_load (pc := 1125) (i := .aload_n 1) (sr := 2) (j := 1) (by decide +kernel) rfl hL.2.2.1 rfl) ?_
  refine mn_arg (pc := 1126) (j := 1) (by decide +kernel) (by decide +kernel) (by decide +kernel) (by decide +kernel) (by decide +kernel) hL hi (by decide) hLX ?_
  refine mn_arg (pc := 1132) (j := 2) (by decide +kernel) (by decide +kernel) (by decide +kernel) (by decide +kernel) (by decide +kernel) hL hi (by decide) hLX ?_
  refine mn_arg (pc := 1138) (j := 3) (by decide +kernel) (by decide +kernel) (by decide +kernel) (by decide +kernel) (by decide +kernel) hL hi (by decide) hLX ?_
  refine gm_sz (gm_p_load (pc := 1144) (i := .aload_n 3) (sr := 2) (j := 3) (by decide +kernel) rfl hL.2.2.2.2.1 rfl) ?_
  refine mn_x (pc := 1145) (ix := 229) (mj := 185) (xs := [X (i + 1), X (i + 2), X (i + 3)]) (st := []) (ds := [(-2147483648, 2147483647), (-2147483648, 2147483647), (-2147483648, 2147483647)]) (md := 0) hb (by omega) (by decide +kernel) (by decide +kernel) (by decide +kernel) (by decide +kernel) (show 5 = gm_na 185 by decide +kernel) (show 5 ≤ gm_ml 185 by decide +kernel) (Nat.le_of_ble_eq_true rfl) hx_writers_s hl_writers_s hx_writers_c hl_writers_c hx_writers_v hl_writers_v (bc_in1 (mn_w (hX _)) (bc_in1 (mn_w (hX _)) (bc_in1 (mn_w (hX _)) bc_in0))) (List.forall_mem_cons.mpr ⟨hX _, (List.forall_mem_cons.mpr ⟨hX _, (List.forall_mem_cons.mpr ⟨hX _, (fun _ h => nomatch h)⟩)⟩)⟩) (by omega) (by omega) (fun g1 la1 K1 R1 M1 u1 hb1 hg1 ho1 hp1 hu1 hk1 => ?_)
  have hp1 : M1 1 1 = M 1 1 := hp1
  obtain ⟨y1, rfl⟩ : ∃ y, u1 = some (gm_vi y) := hu1
  show gm_Wp X LX 280 _ _ 370 1148 L [gm_vi y1] (245 + 4 * g1) K1 R1 M1 Q
  refine gm_sz (gm_p_stor (pc := 1148) (i := .istore 5) (sr := 0) (j := 5) (by decide +kernel) rfl (by show 5 + 0 < L.length; have := hL.1; omega) rfl) ?_
  have hL5 := mn_L_s (y := y1) hL (j := 5) (Or.inl rfl)
  generalize gm_lst L 5 (gm_vi y1) = L5 at hL5 ⊢
  refine gm_sz (gm_p_load (pc := 1150) (i := .aload_n 2) (sr := 2) (j := 2) (by decide +kernel) rfl hL5.2.2.2.1 rfl) ?_
  refine mn_arg (pc := 1151) (j := 1) (by decide +kernel) (by decide +kernel) (by decide +kernel) (by decide +kernel) (by decide +kernel) hL5 hi (by decide) hLX ?_
  refine mn_arg (pc := 1157) (j := 2) (by decide +kernel) (by decide +kernel) (by decide +kernel) (by decide +kernel) (by decide +kernel) hL5 hi (by decide) hLX ?_
  refine mn_arg (pc := 1163) (j := 3) (by decide +kernel) (by decide +kernel) (by decide +kernel) (by decide +kernel) (by decide +kernel) hL5 hi (by decide) hLX ?_
  refine mn_m (pc := 1169) (ix := 231) (mj := 338) (xs := [X (i + 1), X (i + 2), X (i + 3)]) (st := []) (ds := [(-2147483648, 2147483647), (-2147483648, 2147483647), (-2147483648, 2147483647)]) (md := 0) (r := true) hb1 (by omega) (by decide +kernel) (by decide +kernel) (by decide +kernel) (by decide +kernel) (show 3 = gm_na 338 by decide +kernel) (show 4 ≤ gm_ml 338 by decide +kernel) (Nat.le_of_ble_eq_true rfl) hm_writers_s hm_writers_c hm_writers_v (bc_in1 (mn_w (hX _)) (bc_in1 (mn_w (hX _)) (bc_in1 (mn_w (hX _)) bc_in0))) (List.forall_mem_cons.mpr ⟨hX _, (List.forall_mem_cons.mpr ⟨hX _, (List.forall_mem_cons.mpr ⟨hX _, (fun _ h => nomatch h)⟩)⟩)⟩) (by omega) (by omega) (fun g2 la2 K2 R2 M2 u2 hb2 hg2 ho2 hp2 hu2 hk2 => ?_)
  have hp2 : M2 226 8 = M1 226 8 := hp2
  obtain ⟨y2, rfl⟩ : ∃ y, u2 = some (gm_vi y) := hu2
  show gm_Wp X LX 280 _ _ 370 1172 L5 [gm_vi y2] (245 + 4 * g2) K2 R2 M2 Q
  refine gm_sz (gm_p_stor (pc := 1172) (i := .istore 6) (sr := 0) (j := 6) (by decide +kernel) rfl (by show 6 + 0 < L5.length; have := hL5.1; omega) rfl) ?_
  have hL6 := mn_L_s (y := y2) hL5 (j := 6) (Or.inr rfl)
  generalize gm_lst L5 6 (gm_vi y2) = L6 at hL6 ⊢
  refine gm_sz (gm_p_goto (pc := 1174) (off := 819) (by decide +kernel) (by decide)) ?_
  exact gm_Wp_wk (Nat.le_refl _) (by omega) (by omega) (rest g2 la2 K2 R2 M2 L6 hb2 (by omega) ⟨by omega, fun j j1 j2 => by have a1 := hk1 j j1 j2; have a2 := hk2 j j1 j2; have a3 := hMb j j1 j2; omega⟩ hL6)
theorem mc_25 (hb : bg g la K R M) (hg : g < 9990) (hM : rl M) (hL : mn_L i L) (hi : 0 ≤ i ∧ i + 6 ≤ (LX : Int)) (hLX : LX ≤ 3072) (hX : ∀ j, gm_ir (X j)) (hbc : 12 ≤ bc) (hbs : 1200 ≤ bs) (rest : mn_R X LX bc bs i g Q) : gm_Wp X LX 280 bc bs 370 1177 L [] (245 + 4 * g) K R M Q := by
  obtain ⟨hM, hMb⟩ := hM
  refine gm_sz (gm_p_load (pc := 1177) (i := .aload_n 1) (sr := 2) (j := 1) (by decide +kernel) rfl hL.2.2.1 rfl) ?_
  refine mn_arg (pc := 1178) (j := 1) (by decide +kernel) (by decide +kernel) (by decide +kernel) (by decide +kernel) (by decide +kernel) hL hi (by decide) hLX ?_
  refine mn_arg (pc := 1184) (j := 2) (by decide +kernel) (by decide +kernel) (by decide +kernel) (by decide +kernel) (by decide +kernel) hL hi (by decide) hLX ?_
  refine mn_arg (pc := 1190) (j := 3) (by decide +kernel) (by decide +kernel) (by decide +kernel) (by decide +kernel) (by decide +kernel) hL hi (by decide) hLX ?_
  refine mn_arg (pc := 1196) (j := 4) (by decide +kernel) (by decide +kernel) (by decide +kernel) (by decide +kernel) (by decide +kernel) hL hi (by decide) hLX ?_
  refine gm_sz (gm_p_load (pc := 1202) (i := .aload_n 3) (sr := 2) (j := 3) (by decide +kernel) rfl hL.2.2.2.2.1 rfl) ?_
  refine mn_x (pc := 1203) (ix := 232) (mj := 189) (xs := [X (i + 1), X (i + 2), X (i + 3), X (i + 4)]) (st := []) (ds := [(-2147483648, 2147483647), (-2147483648, 2147483647), (-2147483648, 2147483647), (-2147483648, 2147483647)]) (md := 0) hb (by omega) (by decide +kernel) (by decide +kernel) (by decide +kernel) (by decide +kernel) (show 6 = gm_na 189 by decide +kernel) (show 6 ≤ gm_ml 189 by decide +kernel) (Nat.le_of_ble_eq_true rfl) hx_wrote_s hl_wrote_s hx_wrote_c hl_wrote_c hx_wrote_v hl_wrote_v (bc_in1 (mn_w (hX _)) (bc_in1 (mn_w (hX _)) (bc_in1 (mn_w (hX _)) (bc_in1 (mn_w (hX _)) bc_in0)))) (List.forall_mem_cons.mpr ⟨hX _, (List.forall_mem_cons.mpr ⟨hX _, (List.forall_mem_cons.mpr ⟨hX _, (List.forall_mem_cons.mpr ⟨hX _, (fun _ h => nomatch h)⟩)⟩)⟩)⟩) (by omega) (by omega) (fun g1 la1 K1 R1 M1 u1 hb1 hg1 ho1 hp1 hu1 hk1 => ?_)
  have hp1 : M1 1 1 = M 1 1 := hp1
  obtain ⟨y1, rfl⟩ : ∃ y, u1 = some (gm_vi y) := hu1
  show gm_Wp X LX 280 _ _ 370 1206 L [gm_vi y1] (245 + 4 * g1) K1 R1 M1 Q
  refine gm_sz (gm_p_stor (pc := 1206) (i := .istore 5) (sr := 0) (j := 5) (by decide +kernel) rfl (by show 5 + 0 < L.length; have := hL.1; omega) rfl) ?_
  have hL5 := mn_L_s (y := y1) hL (j := 5) (Or.inl rfl)
  generalize gm_lst L 5 (gm_vi y1) = L5 at hL5 ⊢
  refine gm_sz (gm_p_load (pc := 1208) (i := .aload_n 2) (sr := 2) (j := 2) (by decide +kernel) rfl hL5.2.2.2.1 rfl) ?_
  refine mn_arg (pc := 1209) (j := 1) (by decide +kernel) (by decide +kernel) (by decide +kernel) (by decide +kernel) (by decide +kernel) hL5 hi (by decide) hLX ?_
  refine mn_arg (pc := 1215) (j := 2) (by decide +kernel) (by decide +kernel) (by decide +kernel) (by decide +kernel) (by decide +kernel) hL5 hi (by decide) hLX ?_
  refine mn_arg (pc := 1221) (j := 3) (by decide +kernel) (by decide +kernel) (by decide +kernel) (by decide +kernel) (by decide +kernel) hL5 hi (by decide) hLX ?_
  refine mn_arg (pc := 1227) (j := 4) (by decide +kernel) (by decide +kernel) (by decide +kernel) (by decide +kernel) (by decide +kernel) hL5 hi (by decide) hLX ?_
  refine mn_m (pc := 1233) (ix := 234) (mj := 340) (xs := [X (i + 1), X (i + 2), X (i + 3), X (i + 4)]) (st := []) (ds := [(-2147483648, 2147483647), (-2147483648, 2147483647), (-2147483648, 2147483647), (-2147483648, 2147483647)]) (md := 0) (r := true) hb1 (by omega) (by decide +kernel) (by decide +kernel) (by decide +kernel) (by decide +kernel) (show 4 = gm_na 340 by decide +kernel) (show 5 ≤ gm_ml 340 by decide +kernel) (Nat.le_of_ble_eq_true rfl) hm_wrote_s hm_wrote_c hm_wrote_v (bc_in1 (mn_w (hX _)) (bc_in1 (mn_w (hX _)) (bc_in1 (mn_w (hX _)) (bc_in1 (mn_w (hX _)) bc_in0)))) (List.forall_mem_cons.mpr ⟨hX _, (List.forall_mem_cons.mpr ⟨hX _, (List.forall_mem_cons.mpr ⟨hX _, (List.forall_mem_cons.mpr ⟨hX _, (fun _ h => nomatch h)⟩)⟩)⟩)⟩) (by omega) (by omega) (fun g2 la2 K2 R2 M2 u2 hb2 hg2 ho2 hp2 hu2 hk2 => ?_)
  have hp2 : M2 226 8 = M1 226 8 := hp2
  obtain ⟨y2, rfl⟩ : ∃ y, u2 = some (gm_vi y) := hu2
  show gm_Wp X LX 280 _ _ 370 1236 L5 [gm_vi y2] (245 + 4 * g2) K2 R2 M2 Q
  refine gm_sz (gm_p_stor (pc := 1236) (i := .istore 6) (sr := 0) (j := 6) (by decide +kernel) rfl (by show 6 + 0 < L5.length; have := hL5.1; omega) rfl) ?_
  have hL6 := mn_L_s (y := y2) hL5 (j := 6) (Or.inr rfl)
  generalize gm_lst L5 6 (gm_vi y2) = L6 at hL6 ⊢
  refine gm_sz (gm_p_goto (pc := 1238) (off := 755) (by decide +kernel) (by decide)) ?_
  exact gm_Wp_wk (Nat.le_refl _) (by omega) (by omega) (rest g2 la2 K2 R2 M2 L6 hb2 (by omega) ⟨by omega, fun j j1 j2 => by have a1 := hk1 j j1 j2; have a2 := hk2 j j1 j2; have a3 := hMb j j1 j2; omega⟩ hL6)
theorem mc_26 (hb : bg g la K R M) (hg : g < 9990) (hM : rl M) (hL : mn_L i L) (hi : 0 ≤ i ∧ i + 6 ≤ (LX : Int)) (hLX : LX ≤ 3072) (hX : ∀ j, gm_ir (X j)) (hbc : 12 ≤ bc) (hbs : 1200 ≤ bs) (rest : mn_R X LX bc bs i g Q) : gm_Wp X LX 280 bc bs 370 1241 L [] (245 + 4 * g) K R M Q := by
  obtain ⟨hM, hMb⟩ := hM
  refine gm_sz (gm_p_load (pc := 1241) (i := .aload_n 1) (sr := 2) (j := 1) (by decide +kernel) rfl hL.2.2.1 rfl) ?_
  refine mn_arg (pc := 1242) (j := 1) (by decide +kernel) (by decide +kernel) (by decide +kernel) (by decide +kernel) (by decide +kernel) hL hi (by decide) hLX ?_
  refine mn_arg (pc := 1248) (j := 2) (by decide +kernel) (by decide +kernel) (by decide +kernel) (by decide +kernel) (by decide +kernel) hL hi (by decide) hLX ?_
  refine gm_sz (gm_p_load (pc := 1254) (i := .aload_n 3) (sr := 2) (j := 3) (by decide +kernel) rfl hL.2.2.2.2.1 rfl) ?_
  refine mn_x (pc := 1255) (ix := 235) (mj := 191) (xs := [X (i + 1), X (i + 2)]) (st := []) (ds := [(-2147483648, 2147483647), (-2147483648, 2147483647)]) (md := 0) hb (by omega) (by decide +kernel) (by decide +kernel) (by decide +kernel) (by decide +kernel) (show 4 = gm_na 191 by decide +kernel) (show 4 ≤ gm_ml 191 by decide +kernel) (Nat.le_of_ble_eq_true rfl) hx_table_s hl_table_s hx_table_c hl_table_c hx_table_v hl_table_v (bc_in1 (mn_w (hX _)) (bc_in1 (mn_w (hX _)) bc_in0)) (List.forall_mem_cons.mpr ⟨hX _, (List.forall_mem_cons.mpr ⟨hX _, (fun _ h => nomatch h)⟩)⟩) (by omega) (by omega) (fun g1 la1 K1 R1 M1 u1 hb1 hg1 ho1 hp1 hu1 hk1 => ?_)
  have hp1 : M1 1 1 = M 1 1 := hp1
  obtain ⟨y1, rfl⟩ : ∃ y, u1 = some (gm_vi y) := hu1
  show gm_Wp X LX 280 _ _ 370 1258 L [gm_vi y1] (245 + 4 * g1) K1 R1 M1 Q
  refine gm_sz (gm_p_stor (pc := 1258) (i := .istore 5) (sr := 0) (j := 5) (by decide +kernel) rfl (by show 5 + 0 < L.length; have := hL.1; omega) rfl) ?_
  have hL5 := mn_L_s (y := y1) hL (j := 5) (Or.inl rfl)
  generalize gm_lst L 5 (gm_vi y1) = L5 at hL5 ⊢
  refine gm_sz (gm_p_load (pc := 1260) (i := .aload_n 2) (sr := 2) (j := 2) (by decide +kernel) rfl hL5.2.2.2.1 rfl) ?_
  refine mn_arg (pc := 1261) (j := 1) (by decide +kernel) (by decide +kernel) (by decide +kernel) (by decide +kernel) (by decide +kernel) hL5 hi (by decide) hLX ?_
  refine mn_arg (pc := 1267) (j := 2) (by decide +kernel) (by decide +kernel) (by decide +kernel) (by decide +kernel) (by decide +kernel) hL5 hi (by decide) hLX ?_
  refine mn_m (pc := 1273) (ix := 237) (mj := 341) (xs := [X (i + 1), X (i + 2)]) (st := []) (ds := [(-2147483648, 2147483647), (-2147483648, 2147483647)]) (md := 0) (r := true) hb1 (by omega) (by decide +kernel) (by decide +kernel) (by decide +kernel) (by decide +kernel) (show 2 = gm_na 341 by decide +kernel) (show 3 ≤ gm_ml 341 by decide +kernel) (Nat.le_of_ble_eq_true rfl) hm_table_s hm_table_c hm_table_v (bc_in1 (mn_w (hX _)) (bc_in1 (mn_w (hX _)) bc_in0)) (List.forall_mem_cons.mpr ⟨hX _, (List.forall_mem_cons.mpr ⟨hX _, (fun _ h => nomatch h)⟩)⟩) (by omega) (by omega) (fun g2 la2 K2 R2 M2 u2 hb2 hg2 ho2 hp2 hu2 hk2 => ?_)
  have hp2 : M2 226 8 = M1 226 8 := hp2
  obtain ⟨y2, rfl⟩ : ∃ y, u2 = some (gm_vi y) := hu2
  show gm_Wp X LX 280 _ _ 370 1276 L5 [gm_vi y2] (245 + 4 * g2) K2 R2 M2 Q
  refine gm_sz (gm_p_stor (pc := 1276) (i := .istore 6) (sr := 0) (j := 6) (by decide +kernel) rfl (by show 6 + 0 < L5.length; have := hL5.1; omega) rfl) ?_
  have hL6 := mn_L_s (y := y2) hL5 (j := 6) (Or.inr rfl)
  generalize gm_lst L5 6 (gm_vi y2) = L6 at hL6 ⊢
  refine gm_sz (gm_p_goto (pc := 1278) (off := 715) (by decide +kernel) (by decide)) ?_
  exact gm_Wp_wk (Nat.le_refl _) (by omega) (by omega) (rest g2 la2 K2 R2 M2 L6 hb2 (by omega) ⟨by omega, fun j j1 j2 => by have a1 := hk1 j j1 j2; have a2 := hk2 j j1 j2; have a3 := hMb j j1 j2; omega⟩ hL6)
end MCC
