/-! 7d02.mc -/
section
/-! THE LAW'S CASES, on. -/
section MCC
variable {X : Int → Int} {LX g bc bs : Nat} {i : Int} {la : Nat → Nat} {K : gm_K} {R : gm_R} {M : gm_M} {Q : gm_Q} {L : gm_L}
theorem mc_16 (hb : bg g la K R M) (hg : g < 9990) (hM : RELW la K M) (hL : mn_L i L) (hi : 0 ≤ i ∧ i + 6 ≤ (LX : Int)) (hLX : LX ≤ 3072) (hX : ∀ j, gm_ir (X j)) (hbc : 12 ≤ bc) (hbs : 1200 ≤ bs) (rest : mn_R X LX bc bs i g Q) : gm_Wp X LX 280 bc bs 369 803 L [] (245 + 4 * g) K R M Q := by
  obtain ⟨N, lw, A, im, t, w, f, hM⟩ := hM
  refine gm_sz (gm_p_load (pc := 803) (i := .aload_n 1) (sr := 2) (j := 1) (by decide +kernel) rfl hL.2.2.1 rfl) ?_
  refine mn_arg (pc := 804) (j := 1) (by decide +kernel) (by decide +kernel) (by decide +kernel) (by decide +kernel) (by decide +kernel) hL hi (by decide) hLX ?_
  refine mn_arg (pc := 810) (j := 2) (by decide +kernel) (by decide +kernel) (by decide +kernel) (by decide +kernel) (by decide +kernel) hL hi (by decide) hLX ?_
  refine mn_arg (pc := 816) (j := 3) (by decide +kernel) (by decide +kernel) (by decide +kernel) (by decide +kernel) (by decide +kernel) hL hi (by decide) hLX ?_
  refine mn_arg (pc := 822) (j := 4) (by decide +kernel) (by decide +kernel) (by decide +kernel) (by decide +kernel) (by decide +kernel) hL hi (by decide) hLX ?_
  refine gm_sz (gm_p_load (pc := 828) (i := .aload_n 3) (sr := 2) (j := 3) (by decide +kernel) rfl hL.2.2.2.2.1 rfl) ?_
  refine rq_x (pc := 829) (ix := 198) (mj := 166) (xs := [X (i + 1), X (i + 2), X (i + 3), X (i + 4)]) (st := []) (ds := [(-2147483648, 2147483647), (-2147483648, 2147483647), (-2147483648, 2147483647), (-2147483648, 2147483647)]) (r := true) hb (by omega) hM (by decide +kernel) (by decide +kernel) (by decide +kernel) (by decide +kernel) (show 6 = gm_na 166 by decide +kernel) (show 6 ≤ gm_ml 166 by decide +kernel) (Nat.le_of_ble_eq_true rfl) ax_throwsFor_s al_throwsFor_s ax_throwsFor_c al_throwsFor_c ax_throwsFor_v al_throwsFor_v (bc_in1 (mn_w (hX _)) (bc_in1 (mn_w (hX _)) (bc_in1 (mn_w (hX _)) (bc_in1 (mn_w (hX _)) bc_in0)))) (List.forall_mem_cons.mpr ⟨hX _, (List.forall_mem_cons.mpr ⟨hX _, (List.forall_mem_cons.mpr ⟨hX _, (List.forall_mem_cons.mpr ⟨hX _, (fun _ h => nomatch h)⟩)⟩)⟩)⟩) (by omega) (by omega) ?_
  intro u1 la1 K1 R1 M1 hu1 hb1 hM1
  obtain ⟨y1, rfl⟩ : ∃ y, u1 = some (gm_vi y) := hu1
  show gm_Wp X LX 280 _ _ 369 832 L [gm_vi y1] (245 + 4 * g) K1 R1 M1 Q
  refine gm_sz (gm_p_stor (pc := 832) (i := .istore 5) (sr := 0) (j := 5) (by decide +kernel) rfl (by show 5 + 0 < L.length; have := hL.1; omega) rfl) ?_
  have hL5 := mn_L_s (y := y1) hL (j := 5) (Or.inl rfl)
  have l55 := mn_l5 (y := y1) hL
  generalize gm_lst L 5 (gm_vi y1) = L5 at hL5 l55 ⊢
  refine gm_sz (gm_p_load (pc := 834) (i := .aload_n 2) (sr := 2) (j := 2) (by decide +kernel) rfl hL5.2.2.2.1 rfl) ?_
  refine mn_arg (pc := 835) (j := 1) (by decide +kernel) (by decide +kernel) (by decide +kernel) (by decide +kernel) (by decide +kernel) hL5 hi (by decide) hLX ?_
  refine mn_arg (pc := 841) (j := 2) (by decide +kernel) (by decide +kernel) (by decide +kernel) (by decide +kernel) (by decide +kernel) hL5 hi (by decide) hLX ?_
  refine mn_arg (pc := 847) (j := 3) (by decide +kernel) (by decide +kernel) (by decide +kernel) (by decide +kernel) (by decide +kernel) hL5 hi (by decide) hLX ?_
  refine mn_arg (pc := 853) (j := 4) (by decide +kernel) (by decide +kernel) (by decide +kernel) (by decide +kernel) (by decide +kernel) hL5 hi (by decide) hLX ?_
  refine rq_m (pc := 859) (ix := 201) (mj := 324) (xs := [X (i + 1), X (i + 2), X (i + 3), X (i + 4)]) (st := []) (ds := [(-2147483648, 2147483647), (-2147483648, 2147483647), (-2147483648, 2147483647), (-2147483648, 2147483647)]) (r := true) hb1 (by omega) hM1 (by decide +kernel) (by decide +kernel) (by decide +kernel) (by decide +kernel) (show 4 = gm_na 324 by decide +kernel) (show 5 ≤ gm_ml 324 by decide +kernel) (Nat.le_of_ble_eq_true rfl) am_throwsFor_s am_throwsFor_c am_throwsFor_v (bc_in1 (mn_w (hX _)) (bc_in1 (mn_w (hX _)) (bc_in1 (mn_w (hX _)) (bc_in1 (mn_w (hX _)) bc_in0)))) (List.forall_mem_cons.mpr ⟨hX _, (List.forall_mem_cons.mpr ⟨hX _, (List.forall_mem_cons.mpr ⟨hX _, (List.forall_mem_cons.mpr ⟨hX _, (fun _ h => nomatch h)⟩)⟩)⟩)⟩) (by omega) (by omega) ?_
  intro u2 la2 K2 R2 M2 hu2 hb2 hM2
  obtain ⟨y2, rfl⟩ : ∃ y, u2 = some (gm_vi y) := hu2
  show gm_Wp X LX 280 _ _ 369 862 L5 [gm_vi y2] (245 + 4 * g) K2 R2 M2 Q
  refine gm_sz (gm_p_stor (pc := 862) (i := .istore 6) (sr := 0) (j := 6) (by decide +kernel) rfl (by show 6 + 0 < L5.length; have := hL5.1; omega) rfl) ?_
  have hL6 := mn_L_s (y := y2) hL5 (j := 6) (Or.inr rfl)
  have l66 := mn_l6 (y := y2) hL5
  have l65 := mn_l65 (y := y2) l55
  generalize gm_lst L5 6 (gm_vi y2) = L6 at hL6 l66 l65 ⊢
  refine gm_sz (gm_p_goto (pc := 864) (off := 1101) (by decide +kernel) (by decide)) ?_
  exact gm_Wp_wk (Nat.le_refl _) (by omega) (by omega) (rest g _ _ _ _ L6 hb2 (by omega) ⟨_, _, _, _, _, _, _, hM2⟩ hL6)
theorem mc_17 (hb : bg g la K R M) (hg : g < 9990) (hM : RELW la K M) (hL : mn_L i L) (hi : 0 ≤ i ∧ i + 6 ≤ (LX : Int)) (hLX : LX ≤ 3072) (hX : ∀ j, gm_ir (X j)) (hbc : 12 ≤ bc) (hbs : 1200 ≤ bs) (rest : mn_R X LX bc bs i g Q) : gm_Wp X LX 280 bc bs 369 867 L [] (245 + 4 * g) K R M Q := by
  obtain ⟨N, lw, A, im, t, w, f, hM⟩ := hM
  refine gm_sz (gm_p_load (pc := 867) (i := .aload_n 1) (sr := 2) (j := 1) (by decide +kernel) rfl hL.2.2.1 rfl) ?_
  refine mn_arg (pc := 868) (j := 1) (by decide +kernel) (by decide +kernel) (by decide +kernel) (by decide +kernel) (by decide +kernel) hL hi (by decide) hLX ?_
  refine mn_arg (pc := 874) (j := 2) (by decide +kernel) (by decide +kernel) (by decide +kernel) (by decide +kernel) (by decide +kernel) hL hi (by decide) hLX ?_
  refine gm_sz (gm_p_load (pc := 880) (i := .aload_n 3) (sr := 2) (j := 3) (by decide +kernel) rfl hL.2.2.2.2.1 rfl) ?_
  refine rq_x (pc := 881) (ix := 202) (mj := 168) (xs := [X (i + 1), X (i + 2)]) (st := []) (ds := [(-2147483648, 2147483647), (-2147483648, 2147483647)]) (r := true) hb (by omega) hM (by decide +kernel) (by decide +kernel) (by decide +kernel) (by decide +kernel) (show 4 = gm_na 168 by decide +kernel) (show 4 ≤ gm_ml 168 by decide +kernel) (Nat.le_of_ble_eq_true rfl) ax_latest_s al_latest_s ax_latest_c al_latest_c ax_latest_v al_latest_v (bc_in1 (mn_w (hX _)) (bc_in1 (mn_w (hX _)) bc_in0)) (List.forall_mem_cons.mpr ⟨hX _, (List.forall_mem_cons.mpr ⟨hX _, (fun _ h => nomatch h)⟩)⟩) (by omega) (by omega) ?_
  intro u1 la1 K1 R1 M1 hu1 hb1 hM1
  obtain ⟨y1, rfl⟩ : ∃ y, u1 = some (gm_vi y) := hu1
  show gm_Wp X LX 280 _ _ 369 884 L [gm_vi y1] (245 + 4 * g) K1 R1 M1 Q
  refine gm_sz (gm_p_stor (pc := 884) (i := .istore 5) (sr := 0) (j := 5) (by decide +kernel) rfl (by show 5 + 0 < L.length; have := hL.1; omega) rfl) ?_
  have hL5 := mn_L_s (y := y1) hL (j := 5) (Or.inl rfl)
  have l55 := mn_l5 (y := y1) hL
  generalize gm_lst L 5 (gm_vi y1) = L5 at hL5 l55 ⊢
  refine gm_sz (gm_p_load (pc := 886) (i := .aload_n 2) (sr := 2) (j := 2) (by decide +kernel) rfl hL5.2.2.2.1 rfl) ?_
  refine mn_arg (pc := 887) (j := 1) (by decide +kernel) (by decide +kernel) (by decide +kernel) (by decide +kernel) (by decide +kernel) hL5 hi (by decide) hLX ?_
  refine mn_arg (pc := 893) (j := 2) (by decide +kernel) (by decide +kernel) (by decide +kernel) (by decide +kernel) (by decide +kernel) hL5 hi (by decide) hLX ?_
  refine rq_m (pc := 899) (ix := 204) (mj := 326) (xs := [X (i + 1), X (i + 2)]) (st := []) (ds := [(-2147483648, 2147483647), (-2147483648, 2147483647)]) (r := true) hb1 (by omega) hM1 (by decide +kernel) (by decide +kernel) (by decide +kernel) (by decide +kernel) (show 2 = gm_na 326 by decide +kernel) (show 3 ≤ gm_ml 326 by decide +kernel) (Nat.le_of_ble_eq_true rfl) am_latest_s am_latest_c am_latest_v (bc_in1 (mn_w (hX _)) (bc_in1 (mn_w (hX _)) bc_in0)) (List.forall_mem_cons.mpr ⟨hX _, (List.forall_mem_cons.mpr ⟨hX _, (fun _ h => nomatch h)⟩)⟩) (by omega) (by omega) ?_
  intro u2 la2 K2 R2 M2 hu2 hb2 hM2
  obtain ⟨y2, rfl⟩ : ∃ y, u2 = some (gm_vi y) := hu2
  show gm_Wp X LX 280 _ _ 369 902 L5 [gm_vi y2] (245 + 4 * g) K2 R2 M2 Q
  refine gm_sz (gm_p_stor (pc := 902) (i := .istore 6) (sr := 0) (j := 6) (by decide +kernel) rfl (by show 6 + 0 < L5.length; have := hL5.1; omega) rfl) ?_
  have hL6 := mn_L_s (y := y2) hL5 (j := 6) (Or.inr rfl)
  have l66 := mn_l6 (y := y2) hL5
  have l65 := mn_l65 (y := y2) l55
  generalize gm_lst L5 6 (gm_vi y2) = L6 at hL6 l66 l65 ⊢
  refine gm_sz (gm_p_goto (pc := 904) (off := 1061) (by decide +kernel) (by decide)) ?_
  exact gm_Wp_wk (Nat.le_refl _) (by omega) (by omega) (rest g _ _ _ _ L6 hb2 (by omega) ⟨_, _, _, _, _, _, _, hM2⟩ hL6)
theorem mc_18 (hb : bg g la K R M) (hg : g < 9990) (hM : RELW la K M) (hL : mn_L i L) (hi : 0 ≤ i ∧ i + 6 ≤ (LX : Int)) (hLX : LX ≤ 3072) (hX : ∀ j, gm_ir (X j)) (hbc : 12 ≤ bc) (hbs : 1200 ≤ bs) (rest : mn_R X LX bc bs i g Q) : gm_Wp X LX 280 bc bs 369 907 L [] (245 + 4 * g) K R M Q := by
  obtain ⟨N, lw, A, im, t, w, f, hM⟩ := hM
  refine gm_sz (gm_p_load (pc := 907) (i := .aload_n 1) (sr := 2) (j := 1) (by decide +kernel) rfl hL.2.2.1 rfl) ?_
  refine mn_arg (pc := 908) (j := 1) (by decide +kernel) (by decide +kernel) (by decide +kernel) (by decide +kernel) (by decide +kernel) hL hi (by decide) hLX ?_
  refine mn_arg (pc := 914) (j := 2) (by decide +kernel) (by decide +kernel) (by decide +kernel) (by decide +kernel) (by decide +kernel) hL hi (by decide) hLX ?_
  refine gm_sz (gm_p_load (pc := 920) (i := .aload_n 3) (sr := 2) (j := 3) (by decide +kernel) rfl hL.2.2.2.2.1 rfl) ?_
  refine rq_x (pc := 921) (ix := 205) (mj := 171) (xs := [X (i + 1), X (i + 2)]) (st := []) (ds := [(-2147483648, 2147483647), (-2147483648, 2147483647)]) (r := true) hb (by omega) hM (by decide +kernel) (by decide +kernel) (by decide +kernel) (by decide +kernel) (show 4 = gm_na 171 by decide +kernel) (show 4 ≤ gm_ml 171 by decide +kernel) (Nat.le_of_ble_eq_true rfl) ax_hut_s al_hut_s ax_hut_c al_hut_c ax_hut_v al_hut_v (bc_in1 (mn_w (hX _)) (bc_in1 (mn_w (hX _)) bc_in0)) (List.forall_mem_cons.mpr ⟨hX _, (List.forall_mem_cons.mpr ⟨hX _, (fun _ h => nomatch h)⟩)⟩) (by omega) (by omega) ?_
  intro u1 la1 K1 R1 M1 hu1 hb1 hM1
  obtain ⟨y1, rfl⟩ : ∃ y, u1 = some (gm_vi y) := hu1
  show gm_Wp X LX 280 _ _ 369 924 L [gm_vi y1] (245 + 4 * g) K1 R1 M1 Q
  refine gm_sz (gm_p_stor (pc := 924) (i := .istore 5) (sr := 0) (j := 5) (by decide +kernel) rfl (by show 5 + 0 < L.length; have := hL.1; omega) rfl) ?_
  have hL5 := mn_L_s (y := y1) hL (j := 5) (Or.inl rfl)
  have l55 := mn_l5 (y := y1) hL
  generalize gm_lst L 5 (gm_vi y1) = L5 at hL5 l55 ⊢
  refine gm_sz (gm_p_load (pc := 926) (i := .aload_n 2) (sr := 2) (j := 2) (by decide +kernel) rfl hL5.2.2.2.1 rfl) ?_
  refine mn_arg (pc := 927) (j := 1) (by decide +kernel) (by decide +kernel) (by decide +kernel) (by decide +kernel) (by decide +kernel) hL5 hi (by decide) hLX ?_
  refine mn_arg (pc := 933) (j := 2) (by decide +kernel) (by decide +kernel) (by decide +kernel) (by decide +kernel) (by decide +kernel) hL5 hi (by decide) hLX ?_
  refine rq_m (pc := 939) (ix := 207) (mj := 327) (xs := [X (i + 1), X (i + 2)]) (st := []) (ds := [(-2147483648, 2147483647), (-2147483648, 2147483647)]) (r := true) hb1 (by omega) hM1 (by decide +kernel) (by decide +kernel) (by decide +kernel) (by decide +kernel) (show 2 = gm_na 327 by decide +kernel) (show 3 ≤ gm_ml 327 by decide +kernel) (Nat.le_of_ble_eq_true rfl) am_hut_s am_hut_c am_hut_v (bc_in1 (mn_w (hX _)) (bc_in1 (mn_w (hX _)) bc_in0)) (List.forall_mem_cons.mpr ⟨hX _, (List.forall_mem_cons.mpr ⟨hX _, (fun _ h => nomatch h)⟩)⟩) (by omega) (by omega) ?_
  intro u2 la2 K2 R2 M2 hu2 hb2 hM2
  obtain ⟨y2, rfl⟩ : ∃ y, u2 = some (gm_vi y) := hu2
  show gm_Wp X LX 280 _ _ 369 942 L5 [gm_vi y2] (245 + 4 * g) K2 R2 M2 Q
  refine gm_sz (gm_p_stor (pc := 942) (i := .istore 6) (sr := 0) (j := 6) (by decide +kernel) rfl (by show 6 + 0 < L5.length; have := hL5.1; omega) rfl) ?_
  have hL6 := mn_L_s (y := y2) hL5 (j := 6) (Or.inr rfl)
  have l66 := mn_l6 (y := y2) hL5
  have l65 := mn_l65 (y := y2) l55
  generalize gm_lst L5 6 (gm_vi y2) = L6 at hL6 l66 l65 ⊢
  refine gm_sz (gm_p_goto (pc := 944) (off := 1021) (by decide +kernel) (by decide)) ?_
  exact gm_Wp_wk (Nat.le_refl _) (by omega) (by omega) (rest g _ _ _ _ L6 hb2 (by omega) ⟨_, _, _, _, _, _, _, hM2⟩ hL6)
theorem mc_19 (hb : bg g la K R M) (hg : g < 9990) (hM : RELW la K M) (hL : mn_L i L) (hi : 0 ≤ i ∧ i + 6 ≤ (LX : Int)) (hLX : LX ≤ 3072) (hX : ∀ j, gm_ir (X j)) (hbc : 12 ≤ bc) (hbs : 1200 ≤ bs) (rest : mn_R X LX bc bs i g Q) : gm_Wp X LX 280 bc bs 369 947 L [] (245 + 4 * g) K R M Q := by
  obtain ⟨N, lw, A, im, t, w, f, hM⟩ := hM
  refine gm_sz (gm_p_load (pc := 947) (i := .aload_n 1) (sr := 2) (j := 1) (by decide +kernel) rfl hL.2.2.1 rfl) ?_
  refine mn_arg (pc := 948) (j := 1) (by decide +kernel) (by decide +kernel) (by decide +kernel) (by decide +kernel) (by decide +kernel) hL hi (by decide) hLX ?_
  refine mn_arg (pc := 954) (j := 2) (by decide +kernel) (by decide +kernel) (by decide +kernel) (by decide +kernel) (by decide +kernel) hL hi (by decide) hLX ?_
  refine gm_sz (gm_p_load (pc := 960) (i := .aload_n 3) (sr := 2) (j := 3) (by decide +kernel) rfl hL.2.2.2.2.1 rfl) ?_
  refine rq_x (pc := 961) (ix := 208) (mj := 173) (xs := [X (i + 1), X (i + 2)]) (st := []) (ds := [(-2147483648, 2147483647), (-2147483648, 2147483647)]) (r := true) hb (by omega) hM (by decide +kernel) (by decide +kernel) (by decide +kernel) (by decide +kernel) (show 4 = gm_na 173 by decide +kernel) (show 4 ≤ gm_ml 173 by decide +kernel) (Nat.le_of_ble_eq_true rfl) ax_without_s al_without_s ax_without_c al_without_c ax_without_v al_without_v (bc_in1 (mn_w (hX _)) (bc_in1 (mn_w (hX _)) bc_in0)) (List.forall_mem_cons.mpr ⟨hX _, (List.forall_mem_cons.mpr ⟨hX _, (fun _ h => nomatch h)⟩)⟩) (by omega) (by omega) ?_
  intro u1 la1 K1 R1 M1 hu1 hb1 hM1
  obtain ⟨y1, rfl⟩ : ∃ y, u1 = some (gm_vi y) := hu1
  show gm_Wp X LX 280 _ _ 369 964 L [gm_vi y1] (245 + 4 * g) K1 R1 M1 Q
  refine gm_sz (gm_p_stor (pc := 964) (i := .istore 5) (sr := 0) (j := 5) (by decide +kernel) rfl (by show 5 + 0 < L.length; have := hL.1; omega) rfl) ?_
  have hL5 := mn_L_s (y := y1) hL (j := 5) (Or.inl rfl)
  have l55 := mn_l5 (y := y1) hL
  generalize gm_lst L 5 (gm_vi y1) = L5 at hL5 l55 ⊢
  refine gm_sz (gm_p_load (pc := 966) (i := .aload_n 2) (sr := 2) (j := 2) (by decide +kernel) rfl hL5.2.2.2.1 rfl) ?_
  refine mn_arg (pc := 967) (j := 1) (by decide +kernel) (by decide +kernel) (by decide +kernel) (by decide +kernel) (by decide +kernel) hL5 hi (by decide) hLX ?_
  refine mn_arg (pc := 973) (j := 2) (by decide +kernel) (by decide +kernel) (by decide +kernel) (by decide +kernel) (by decide +kernel) hL5 hi (by decide) hLX ?_
  refine rq_m (pc := 979) (ix := 210) (mj := 328) (xs := [X (i + 1), X (i + 2)]) (st := []) (ds := [(-2147483648, 2147483647), (-2147483648, 2147483647)]) (r := true) hb1 (by omega) hM1 (by decide +kernel) (by decide +kernel) (by decide +kernel) (by decide +kernel) (show 2 = gm_na 328 by decide +kernel) (show 3 ≤ gm_ml 328 by decide +kernel) (Nat.le_of_ble_eq_true rfl) am_without_s am_without_c am_without_v (bc_in1 (mn_w (hX _)) (bc_in1 (mn_w (hX _)) bc_in0)) (List.forall_mem_cons.mpr ⟨hX _, (List.forall_mem_cons.mpr ⟨hX _, (fun _ h => nomatch h)⟩)⟩) (by omega) (by omega) ?_
  intro u2 la2 K2 R2 M2 hu2 hb2 hM2
  obtain ⟨y2, rfl⟩ : ∃ y, u2 = some (gm_vi y) := hu2
  show gm_Wp X LX 280 _ _ 369 982 L5 [gm_vi y2] (245 + 4 * g) K2 R2 M2 Q
  refine gm_sz (gm_p_stor (pc := 982) (i := .istore 6) (sr := 0) (j := 6) (by decide +kernel) rfl (by show 6 + 0 < L5.length; have := hL5.1; omega) rfl) ?_
  have hL6 := mn_L_s (y := y2) hL5 (j := 6) (Or.inr rfl)
  have l66 := mn_l6 (y := y2) hL5
  have l65 := mn_l65 (y := y2) l55
  generalize gm_lst L5 6 (gm_vi y2) = L6 at hL6 l66 l65 ⊢
  refine gm_sz (gm_p_goto (pc := 984) (off := 981) (by decide +kernel) (by decide)) ?_
  exact gm_Wp_wk (Nat.le_refl _) (by omega) (by omega) (rest g _ _ _ _ L6 hb2 (by omega) ⟨_, _, _, _, _, _, _, hM2⟩ hL6)
theorem mc_20 (hb : bg g la K R M) (hg : g < 9990) (hM : RELW la K M) (hL : mn_L i L) (hi : 0 ≤ i ∧ i + 6 ≤ (LX : Int)) (hLX : LX ≤ 3072) (hX : ∀ j, gm_ir (X j)) (hbc : 12 ≤ bc) (hbs : 1200 ≤ bs) (rest : mn_R X LX bc bs i g Q) : gm_Wp X LX 280 bc bs 369 987 L [] (245 + 4 * g) K R M Q := by
  obtain ⟨N, lw, A, im, t, w, f, hM⟩ := hM
  refine gm_sz (gm_p_load (pc := 987) (i := .aload_n 1) (sr := 2) (j := 1) (by decide +kernel) rfl hL.2.2.1 rfl) ?_
  refine mn_arg (pc := 988) (j := 1) (by decide +kernel) (by decide +kernel) (by decide +kernel) (by decide +kernel) (by decide +kernel) hL hi (by decide) hLX ?_
  refine gm_sz (gm_p_load (pc := 994) (i := .aload_n 3) (sr := 2) (j := 3) (by decide +kernel) rfl hL.2.2.2.2.1 rfl) ?_
  refine rq_x (pc := 995) (ix := 211) (mj := 176) (xs := [X (i + 1)]) (st := []) (ds := [(-2147483648, 2147483647)]) (r := true) hb (by omega) hM (by decide +kernel) (by decide +kernel) (by decide +kernel) (by decide +kernel) (show 3 = gm_na 176 by decide +kernel) (show 3 ≤ gm_ml 176 by decide +kernel) (Nat.le_of_ble_eq_true rfl) ax_moved_s al_moved_s ax_moved_c al_moved_c ax_moved_v al_moved_v (bc_in1 (mn_w (hX _)) bc_in0) (List.forall_mem_cons.mpr ⟨hX _, (fun _ h => nomatch h)⟩) (by omega) (by omega) ?_
  intro u1 la1 K1 R1 M1 hu1 hb1 hM1
  obtain ⟨y1, rfl⟩ : ∃ y, u1 = some (gm_vi y) := hu1
  show gm_Wp X LX 280 _ _ 369 998 L [gm_vi y1] (245 + 4 * g) K1 R1 M1 Q
  refine gm_sz (gm_p_stor (pc := 998) (i := .istore 5) (sr := 0) (j := 5) (by decide +kernel) rfl (by show 5 + 0 < L.length; have := hL.1; omega) rfl) ?_
  have hL5 := mn_L_s (y := y1) hL (j := 5) (Or.inl rfl)
  have l55 := mn_l5 (y := y1) hL
  generalize gm_lst L 5 (gm_vi y1) = L5 at hL5 l55 ⊢
  refine gm_sz (gm_p_load (pc := 1000) (i := .aload_n 2) (sr := 2) (j := 2) (by decide +kernel) rfl hL5.2.2.2.1 rfl) ?_
  refine mn_arg (pc := 1001) (j := 1) (by decide +kernel) (by decide +kernel) (by decide +kernel) (by decide +kernel) (by decide +kernel) hL5 hi (by decide) hLX ?_
  refine rq_m (pc := 1007) (ix := 213) (mj := 329) (xs := [X (i + 1)]) (st := []) (ds := [(-2147483648, 2147483647)]) (r := true) hb1 (by omega) hM1 (by decide +kernel) (by decide +kernel) (by decide +kernel) (by decide +kernel) (show 1 = gm_na 329 by decide +kernel) (show 2 ≤ gm_ml 329 by decide +kernel) (Nat.le_of_ble_eq_true rfl) am_moved_s am_moved_c am_moved_v (bc_in1 (mn_w (hX _)) bc_in0) (List.forall_mem_cons.mpr ⟨hX _, (fun _ h => nomatch h)⟩) (by omega) (by omega) ?_
  intro u2 la2 K2 R2 M2 hu2 hb2 hM2
  obtain ⟨y2, rfl⟩ : ∃ y, u2 = some (gm_vi y) := hu2
  show gm_Wp X LX 280 _ _ 369 1010 L5 [gm_vi y2] (245 + 4 * g) K2 R2 M2 Q
  refine gm_sz (gm_p_stor (pc := 1010) (i := .istore 6) (sr := 0) (j := 6) (by decide +kernel) rfl (by show 6 + 0 < L5.length; have := hL5.1; omega) rfl) ?_
  have hL6 := mn_L_s (y := y2) hL5 (j := 6) (Or.inr rfl)
  have l66 := mn_l6 (y := y2) hL5
  have l65 := mn_l65 (y := y2) l55
  generalize gm_lst L5 6 (gm_vi y2) = L6 at hL6 l66 l65 ⊢
  refine gm_sz (gm_p_goto (pc := 1012) (off := 953) (by decide +kernel) (by decide)) ?_
  exact gm_Wp_wk (Nat.le_refl _) (by omega) (by omega) (rest g _ _ _ _ L6 hb2 (by omega) ⟨_, _, _, _, _, _, _, hM2⟩ hL6)
theorem mc_21 (hb : bg g la K R M) (hg : g < 9990) (hM : RELW la K M) (hL : mn_L i L) (hi : 0 ≤ i ∧ i + 6 ≤ (LX : Int)) (hLX : LX ≤ 3072) (hX : ∀ j, gm_ir (X j)) (hbc : 12 ≤ bc) (hbs : 1200 ≤ bs) (rest : mn_R X LX bc bs i g Q) : gm_Wp X LX 280 bc bs 369 1015 L [] (245 + 4 * g) K R M Q := by
  obtain ⟨N, lw, A, im, t, w, f, hM⟩ := hM
  refine gm_sz (gm_p_load (pc := 1015) (i := .aload_n 1) (sr := 2) (j := 1) (by decide +kernel) rfl hL.2.2.1 rfl) ?_
  refine rq_d (pc := 1016) (ix := 214) (mj := 23) (xs := []) (st := []) (ds := []) (r := true) hb (by omega) hM (by decide +kernel) (by decide +kernel) (by decide +kernel) (by decide +kernel) (show 0 = gm_na 23 by decide +kernel) (show 1 ≤ gm_ml 23 by decide +kernel) (Nat.le_of_ble_eq_true rfl) ax_lost_s al_lost_s ax_lost_c al_lost_c ax_lost_v al_lost_v bc_in0 (fun _ h => nomatch h) (by omega) (by omega) ?_
  intro u1 la1 K1 R1 M1 hu1 hb1 hM1
  obtain ⟨y1, rfl⟩ : ∃ y, u1 = some (gm_vi y) := hu1
  show gm_Wp X LX 280 _ _ 369 1019 L [gm_vi y1] (245 + 4 * g) K1 R1 M1 Q
  refine gm_sz (gm_p_pop (pc := 1019) (by decide +kernel) (by simp [gm_sort])) ?_
  refine gm_sz (gm_p_load (pc := 1020) (i := .aload_n 2) (sr := 2) (j := 2) (by decide +kernel) rfl hL.2.2.2.1 rfl) ?_
  refine rq_m (pc := 1021) (ix := 217) (mj := 330) (xs := []) (st := []) (ds := []) (r := true) hb1 (by omega) hM1 (by decide +kernel) (by decide +kernel) (by decide +kernel) (by decide +kernel) (show 0 = gm_na 330 by decide +kernel) (show 1 ≤ gm_ml 330 by decide +kernel) (Nat.le_of_ble_eq_true rfl) am_lost_s am_lost_c am_lost_v bc_in0 (fun _ h => nomatch h) (by omega) (by omega) ?_
  intro u2 la2 K2 R2 M2 hu2 hb2 hM2
  obtain ⟨y2, rfl⟩ : ∃ y, u2 = some (gm_vi y) := hu2
  show gm_Wp X LX 280 _ _ 369 1024 L [gm_vi y2] (245 + 4 * g) K2 R2 M2 Q
  refine gm_sz (gm_p_pop (pc := 1024) (by decide +kernel) (by simp [gm_sort])) ?_
  refine gm_sz (gm_p_goto (pc := 1025) (off := 940) (by decide +kernel) (by decide)) ?_
  exact gm_Wp_wk (Nat.le_refl _) (by omega) (by omega) (rest g _ _ _ _ L hb2 (by omega) ⟨_, _, _, _, _, _, _, hM2⟩ hL)
theorem mc_22 (hb : bg g la K R M) (hg : g < 9990) (hM : RELW la K M) (hL : mn_L i L) (hi : 0 ≤ i ∧ i + 6 ≤ (LX : Int)) (hLX : LX ≤ 3072) (hX : ∀ j, gm_ir (X j)) (hbc : 12 ≤ bc) (hbs : 1200 ≤ bs) (rest : mn_R X LX bc bs i g Q) : gm_Wp X LX 280 bc bs 369 1028 L [] (245 + 4 * g) K R M Q := by
  obtain ⟨N, lw, A, im, t, w, f, hM⟩ := hM
  refine gm_sz (gm_p_load (pc := 1028) (i := .aload_n 1) (sr := 2) (j := 1) (by decide +kernel) rfl hL.2.2.1 rfl) ?_
  refine mn_arg (pc := 1029) (j := 1) (by decide +kernel) (by decide +kernel) (by decide +kernel) (by decide +kernel) (by decide +kernel) hL hi (by decide) hLX ?_
  refine mn_bool (pc := 1035) (by decide +kernel) (by decide +kernel) (by decide +kernel) (by decide +kernel) ?_
  refine rq_d (pc := 1043) (ix := 218) (mj := 46) (xs := [bz (X (i + 1))]) (st := []) (ds := [(0, 1)]) (r := true) hb (by omega) hM (by decide +kernel) (by decide +kernel) (by decide +kernel) (by decide +kernel) (show 1 = gm_na 46 by decide +kernel) (show 2 ≤ gm_ml 46 by decide +kernel) (Nat.le_of_ble_eq_true rfl) ax_market_s al_market_s ax_market_c al_market_c ax_market_v al_market_v (bc_in1 ⟨bz_0, bz_1⟩ bc_in0) (List.forall_mem_cons.mpr ⟨⟨Int.le_trans (by decide) bz_0, Int.lt_of_le_of_lt bz_1 (by decide)⟩, (fun _ h => nomatch h)⟩) (by omega) (by omega) ?_
  intro u1 la1 K1 R1 M1 hu1 hb1 hM1
  obtain ⟨y1, rfl⟩ : ∃ y, u1 = some (gm_vi y) := hu1
  show gm_Wp X LX 280 _ _ 369 1046 L [gm_vi y1] (245 + 4 * g) K1 R1 M1 Q
  refine gm_sz (gm_p_pop (pc := 1046) (by decide +kernel) (by simp [gm_sort])) ?_
  refine gm_sz (gm_p_load (pc := 1047) (i := .aload_n 2) (sr := 2) (j := 2) (by decide +kernel) rfl hL.2.2.2.1 rfl) ?_
  refine mn_arg (pc := 1048) (j := 1) (by decide +kernel) (by decide +kernel) (by decide +kernel) (by decide +kernel) (by decide +kernel) hL hi (by decide) hLX ?_
  refine mn_bool (pc := 1054) (by decide +kernel) (by decide +kernel) (by decide +kernel) (by decide +kernel) ?_
  refine rq_m (pc := 1062) (ix := 222) (mj := 331) (xs := [bz (X (i + 1))]) (st := []) (ds := [(0, 1)]) (r := true) hb1 (by omega) hM1 (by decide +kernel) (by decide +kernel) (by decide +kernel) (by decide +kernel) (show 1 = gm_na 331 by decide +kernel) (show 2 ≤ gm_ml 331 by decide +kernel) (Nat.le_of_ble_eq_true rfl) am_market_s am_market_c am_market_v (bc_in1 ⟨bz_0, bz_1⟩ bc_in0) (List.forall_mem_cons.mpr ⟨⟨Int.le_trans (by decide) bz_0, Int.lt_of_le_of_lt bz_1 (by decide)⟩, (fun _ h => nomatch h)⟩) (by omega) (by omega) ?_
  intro u2 la2 K2 R2 M2 hu2 hb2 hM2
  obtain ⟨y2, rfl⟩ : ∃ y, u2 = some (gm_vi y) := hu2
  show gm_Wp X LX 280 _ _ 369 1065 L [gm_vi y2] (245 + 4 * g) K2 R2 M2 Q
  refine gm_sz (gm_p_pop (pc := 1065) (by decide +kernel) (by simp [gm_sort])) ?_
  refine gm_sz (gm_p_goto (pc := 1066) (off := 899) (by decide +kernel) (by decide)) ?_
  exact gm_Wp_wk (Nat.le_refl _) (by omega) (by omega) (rest g _ _ _ _ L hb2 (by omega) ⟨_, _, _, _, _, _, _, hM2⟩ hL)
theorem mc_23 (hb : bg g la K R M) (hg : g < 9990) (hM : RELW la K M) (hL : mn_L i L) (hi : 0 ≤ i ∧ i + 6 ≤ (LX : Int)) (hLX : LX ≤ 3072) (hX : ∀ j, gm_ir (X j)) (hbc : 12 ≤ bc) (hbs : 1200 ≤ bs) (rest : mn_R X LX bc bs i g Q) : gm_Wp X LX 280 bc bs 369 1069 L [] (245 + 4 * g) K R M Q := by
  obtain ⟨N, lw, A, im, t, w, f, hM⟩ := hM
  refine gm_sz (gm_p_load (pc := 1069) (i := .aload_n 1) (sr := 2) (j := 1) (by decide +kernel) rfl hL.2.2.1 rfl) ?_
  refine mn_arg (pc := 1070) (j := 1) (by decide +kernel) (by decide +kernel) (by decide +kernel) (by decide +kernel) (by decide +kernel) hL hi (by decide) hLX ?_
  refine gm_sz (gm_p_load (pc := 1076) (i := .aload_n 3) (sr := 2) (j := 3) (by decide +kernel) rfl hL.2.2.2.2.1 rfl) ?_
  refine rq_x (pc := 1077) (ix := 223) (mj := 178) (xs := [X (i + 1)]) (st := []) (ds := [(-2147483648, 2147483647)]) (r := true) hb (by omega) hM (by decide +kernel) (by decide +kernel) (by decide +kernel) (by decide +kernel) (show 3 = gm_na 178 by decide +kernel) (show 3 ≤ gm_ml 178 by decide +kernel) (Nat.le_of_ble_eq_true rfl) ax_passes_s al_passes_s ax_passes_c al_passes_c ax_passes_v al_passes_v (bc_in1 (mn_w (hX _)) bc_in0) (List.forall_mem_cons.mpr ⟨hX _, (fun _ h => nomatch h)⟩) (by omega) (by omega) ?_
  intro u1 la1 K1 R1 M1 hu1 hb1 hM1
  obtain ⟨y1, rfl⟩ : ∃ y, u1 = some (gm_vi y) := hu1
  show gm_Wp X LX 280 _ _ 369 1080 L [gm_vi y1] (245 + 4 * g) K1 R1 M1 Q
  refine gm_sz (gm_p_stor (pc := 1080) (i := .istore 5) (sr := 0) (j := 5) (by decide +kernel) rfl (by show 5 + 0 < L.length; have := hL.1; omega) rfl) ?_
  have hL5 := mn_L_s (y := y1) hL (j := 5) (Or.inl rfl)
  have l55 := mn_l5 (y := y1) hL
  generalize gm_lst L 5 (gm_vi y1) = L5 at hL5 l55 ⊢
  refine gm_sz (gm_p_load (pc := 1082) (i := .aload_n 2) (sr := 2) (j := 2) (by decide +kernel) rfl hL5.2.2.2.1 rfl) ?_
  refine mn_arg (pc := 1083) (j := 1) (by decide +kernel) (by decide +kernel) (by decide +kernel) (by decide +kernel) (by decide +kernel) hL5 hi (by decide) hLX ?_
  refine rq_m (pc := 1089) (ix := 225) (mj := 334) (xs := [X (i + 1)]) (st := []) (ds := [(-2147483648, 2147483647)]) (r := true) hb1 (by omega) hM1 (by decide +kernel) (by decide +kernel) (by decide +kernel) (by decide +kernel) (show 1 = gm_na 334 by decide +kernel) (show 2 ≤ gm_ml 334 by decide +kernel) (Nat.le_of_ble_eq_true rfl) am_passes_s am_passes_c am_passes_v (bc_in1 (mn_w (hX _)) bc_in0) (List.forall_mem_cons.mpr ⟨hX _, (fun _ h => nomatch h)⟩) (by omega) (by omega) ?_
  intro u2 la2 K2 R2 M2 hu2 hb2 hM2
  obtain ⟨y2, rfl⟩ : ∃ y, u2 = some (gm_vi y) := hu2
  show gm_Wp X LX 280 _ _ 369 1092 L5 [gm_vi y2] (245 + 4 * g) K2 R2 M2 Q
  refine gm_sz (gm_p_stor (pc := 1092) (i := .istore 6) (sr := 0) (j := 6) (by decide +kernel) rfl (by show 6 + 0 < L5.length; have := hL5.1; omega) rfl) ?_
  have hL6 := mn_L_s (y := y2) hL5 (j := 6) (Or.inr rfl)
  have l66 := mn_l6 (y := y2) hL5
  have l65 := mn_l65 (y := y2) l55
  generalize gm_lst L5 6 (gm_vi y2) = L6 at hL6 l66 l65 ⊢
  refine gm_sz (gm_p_goto (pc := 1094) (off := 871) (by decide +kernel) (by decide)) ?_
  exact gm_Wp_wk (Nat.le_refl _) (by omega) (by omega) (rest g _ _ _ _ L6 hb2 (by omega) ⟨_, _, _, _, _, _, _, hM2⟩ hL6)
theorem mc_24 (hb : bg g la K R M) (hg : g < 9990) (hM : RELW la K M) (hL : mn_L i L) (hi : 0 ≤ i ∧ i + 6 ≤ (LX : Int)) (hLX : LX ≤ 3072) (hX : ∀ j, gm_ir (X j)) (hbc : 12 ≤ bc) (hbs : 1200 ≤ bs) (rest : mn_R X LX bc bs i g Q) : gm_Wp X LX 280 bc bs 369 1097 L [] (245 + 4 * g) K R M Q := by
  obtain ⟨N, lw, A, im, t, w, f, hM⟩ := hM
  refine gm_sz (gm_p_load (pc := 1097) (i := .aload_n 1) (sr := 2) (j := 1) (by decide +kernel) rfl hL.2.2.1 rfl) ?_
  refine mn_arg (pc := 1098) (j := 1) (by decide +kernel) (by decide +kernel) (by decide +kernel) (by decide +kernel) (by decide +kernel) hL hi (by decide) hLX ?_
  refine mn_arg (pc := 1104) (j := 2) (by decide +kernel) (by decide +kernel) (by decide +kernel) (by decide +kernel) (by decide +kernel) hL hi (by decide) hLX ?_
  refine mn_arg (pc := 1110) (j := 3) (by decide +kernel) (by decide +kernel) (by decide +kernel) (by decide +kernel) (by decide +kernel) hL hi (by decide) hLX ?_
  refine gm_sz (gm_p_load (pc := 1116) (i := .aload_n 3) (sr := 2) (j := 3) (by decide +kernel) rfl hL.2.2.2.2.1 rfl) ?_
  refine rq_x (pc := 1117) (ix := 226) (mj := 185) (xs := [X (i + 1), X (i + 2), X (i + 3)]) (st := []) (ds := [(-2147483648, 2147483647), (-2147483648, 2147483647), (-2147483648, 2147483647)]) (r := true) hb (by omega) hM (by decide +kernel) (by decide +kernel) (by decide +kernel) (by decide +kernel) (show 5 = gm_na 185 by decide +kernel) (show 5 ≤ gm_ml 185 by decide +kernel) (Nat.le_of_ble_eq_true rfl) ax_writers_s al_writers_s ax_writers_c al_writers_c ax_writers_v al_writers_v (bc_in1 (mn_w (hX _)) (bc_in1 (mn_w (hX _)) (bc_in1 (mn_w (hX _)) bc_in0))) (List.forall_mem_cons.mpr ⟨hX _, (List.forall_mem_cons.mpr ⟨hX _, (List.forall_mem_cons.mpr ⟨hX _, (fun _ h => nomatch h)⟩)⟩)⟩) (by omega) (by omega) ?_
  intro u1 la1 K1 R1 M1 hu1 hb1 hM1
  obtain ⟨y1, rfl⟩ : ∃ y, u1 = some (gm_vi y) := hu1
  show gm_Wp X LX 280 _ _ 369 1120 L [gm_vi y1] (245 + 4 * g) K1 R1 M1 Q
  refine gm_sz (gm_p_stor (pc := 1120) (i := .istore 5) (sr := 0) (j := 5) (by decide +kernel) rfl (by show 5 + 0 < L.length; have := hL.1; omega) rfl) ?_
  have hL5 := mn_L_s (y := y1) hL (j := 5) (Or.inl rfl)
  have l55 := mn_l5 (y := y1) hL
  generalize gm_lst L 5 (gm_vi y1) = L5 at hL5 l55 ⊢
  refine gm_sz (gm_p_load (pc := 1122) (i := .aload_n 2) (sr := 2) (j := 2) (by decide +kernel) rfl hL5.2.2.2.1 rfl) ?_
  refine mn_arg (pc := 1123) (j := 1) (by decide +kernel) (by decide +kernel) (by decide +kernel) (by decide +kernel) (by decide +kernel) hL5 hi (by decide) hLX ?_
  refine mn_arg (pc := 1129) (j := 2) (by decide +kernel) (by decide +kernel) (by decide +kernel) (by decide +kernel) (by decide +kernel) hL5 hi (by decide) hLX ?_
  refine mn_arg (pc := 1135) (j := 3) (by decide +kernel) (by decide +kernel) (by decide +kernel) (by decide +kernel) (by decide +kernel) hL5 hi (by decide) hLX ?_
  refine rq_m (pc := 1141) (ix := 228) (mj := 338) (xs := [X (i + 1), X (i + 2), X (i + 3)]) (st := []) (ds := [(-2147483648, 2147483647), (-2147483648, 2147483647), (-2147483648, 2147483647)]) (r := true) hb1 (by omega) hM1 (by decide +kernel) (by decide +kernel) (by decide +kernel) (by decide +kernel) (show 3 = gm_na 338 by decide +kernel) (show 4 ≤ gm_ml 338 by decide +kernel) (Nat.le_of_ble_eq_true rfl) am_writers_s am_writers_c am_writers_v (bc_in1 (mn_w (hX _)) (bc_in1 (mn_w (hX _)) (bc_in1 (mn_w (hX _)) bc_in0))) (List.forall_mem_cons.mpr ⟨hX _, (List.forall_mem_cons.mpr ⟨hX _, (List.forall_mem_cons.mpr ⟨hX _, (fun _ h => nomatch h)⟩)⟩)⟩) (by omega) (by omega) ?_
  intro u2 la2 K2 R2 M2 hu2 hb2 hM2
  obtain ⟨y2, rfl⟩ : ∃ y, u2 = some (gm_vi y) := hu2
  show gm_Wp X LX 280 _ _ 369 1144 L5 [gm_vi y2] (245 + 4 * g) K2 R2 M2 Q
  refine gm_sz (gm_p_stor (pc := 1144) (i := .istore 6) (sr := 0) (j := 6) (by decide +kernel) rfl (by show 6 + 0 < L5.length; have := hL5.1; omega) rfl) ?_
  have hL6 := mn_L_s (y := y2) hL5 (j := 6) (Or.inr rfl)
  have l66 := mn_l6 (y := y2) hL5
  have l65 := mn_l65 (y := y2) l55
  generalize gm_lst L5 6 (gm_vi y2) = L6 at hL6 l66 l65 ⊢
  refine gm_sz (gm_p_goto (pc := 1146) (off := 819) (by decide +kernel) (by decide)) ?_
  exact gm_Wp_wk (Nat.le_refl _) (by omega) (by omega) (rest g _ _ _ _ L6 hb2 (by omega) ⟨_, _, _, _, _, _, _, hM2⟩ hL6)
theorem mc_25 (hb : bg g la K R M) (hg : g < 9990) (hM : RELW la K M) (hL : mn_L i L) (hi : 0 ≤ i ∧ i + 6 ≤ (LX : Int)) (hLX : LX ≤ 3072) (hX : ∀ j, gm_ir (X j)) (hbc : 12 ≤ bc) (hbs : 1200 ≤ bs) (rest : mn_R X LX bc bs i g Q) : gm_Wp X LX 280 bc bs 369 1149 L [] (245 + 4 * g) K R M Q := by
  obtain ⟨N, lw, A, im, t, w, f, hM⟩ := hM
  refine gm_sz (gm_p_load (pc := 1149) (i := .aload_n 1) (sr := 2) (j := 1) (by decide +kernel) rfl hL.2.2.1 rfl) ?_
  refine mn_arg (pc := 1150) (j := 1) (by decide +kernel) (by decide +kernel) (by decide +kernel) (by decide +kernel) (by decide +kernel) hL hi (by decide) hLX ?_
  refine mn_arg (pc := 1156) (j := 2) (by decide +kernel) (by decide +kernel) (by decide +kernel) (by decide +kernel) (by decide +kernel) hL hi (by decide) hLX ?_
  refine mn_arg (pc := 1162) (j := 3) (by decide +kernel) (by decide +kernel) (by decide +kernel) (by decide +kernel) (by decide +kernel) hL hi (by decide) hLX ?_
  refine mn_arg (pc := 1168) (j := 4) (by decide +kernel) (by decide +kernel) (by decide +kernel) (by decide +kernel) (by decide +kernel) hL hi (by decide) hLX ?_
  refine gm_sz (gm_p_load (pc := 1174) (i := .aload_n 3) (sr := 2) (j := 3) (by decide +kernel) rfl hL.2.2.2.2.1 rfl) ?_
  refine rq_x (pc := 1175) (ix := 229) (mj := 189) (xs := [X (i + 1), X (i + 2), X (i + 3), X (i + 4)]) (st := []) (ds := [(-2147483648, 2147483647), (-2147483648, 2147483647), (-2147483648, 2147483647), (-2147483648, 2147483647)]) (r := true) hb (by omega) hM (by decide +kernel) (by decide +kernel) (by decide +kernel) (by decide +kernel) (show 6 = gm_na 189 by decide +kernel) (show 6 ≤ gm_ml 189 by decide +kernel) (Nat.le_of_ble_eq_true rfl) ax_wrote_s al_wrote_s ax_wrote_c al_wrote_c ax_wrote_v al_wrote_v (bc_in1 (mn_w (hX _)) (bc_in1 (mn_w (hX _)) (bc_in1 (mn_w (hX _)) (bc_in1 (mn_w (hX _)) bc_in0)))) (List.forall_mem_cons.mpr ⟨hX _, (List.forall_mem_cons.mpr ⟨hX _, (List.forall_mem_cons.mpr ⟨hX _, (List.forall_mem_cons.mpr ⟨hX _, (fun _ h => nomatch h)⟩)⟩)⟩)⟩) (by omega) (by omega) ?_
  intro u1 la1 K1 R1 M1 hu1 hb1 hM1
  obtain ⟨y1, rfl⟩ : ∃ y, u1 = some (gm_vi y) := hu1
  show gm_Wp X LX 280 _ _ 369 1178 L [gm_vi y1] (245 + 4 * g) K1 R1 M1 Q
  refine gm_sz (gm_p_stor (pc := 1178) (i := .istore 5) (sr := 0) (j := 5) (by decide +kernel) rfl (by show 5 + 0 < L.length; have := hL.1; omega) rfl) ?_
  have hL5 := mn_L_s (y := y1) hL (j := 5) (Or.inl rfl)
  have l55 := mn_l5 (y := y1) hL
  generalize gm_lst L 5 (gm_vi y1) = L5 at hL5 l55 ⊢
  refine gm_sz (gm_p_load (pc := 1180) (i := .aload_n 2) (sr := 2) (j := 2) (by decide +kernel) rfl hL5.2.2.2.1 rfl) ?_
  refine mn_arg (pc := 1181) (j := 1) (by decide +kernel) (by decide +kernel) (by decide +kernel) (by decide +kernel) (by decide +kernel) hL5 hi (by decide) hLX ?_
  refine mn_arg (pc := 1187) (j := 2) (by decide +kernel) (by decide +kernel) (by decide +kernel) (by decide +kernel) (by decide +kernel) hL5 hi (by decide) hLX ?_
  refine mn_arg (pc := 1193) (j := 3) (by decide +kernel) (by decide +kernel) (by decide +kernel) (by decide +kernel) (by decide +kernel) hL5 hi (by decide) hLX ?_
  refine mn_arg (pc := 1199) (j := 4) (by decide +kernel) (by decide +kernel) (by decide +kernel) (by decide +kernel) (by decide +kernel) hL5 hi (by decide) hLX ?_
  refine rq_m (pc := 1205) (ix := 231) (mj := 340) (xs := [X (i + 1), X (i + 2), X (i + 3), X (i + 4)]) (st := []) (ds := [(-2147483648, 2147483647), (-2147483648, 2147483647), (-2147483648, 2147483647), (-2147483648, 2147483647)]) (r := true) hb1 (by omega) hM1 (by decide +kernel) (by decide +kernel) (by decide +kernel) (by decide +kernel) (show 4 = gm_na 340 by decide +kernel) (show 5 ≤ gm_ml 340 by decide +kernel) (Nat.le_of_ble_eq_true rfl) am_wrote_s am_wrote_c am_wrote_v (bc_in1 (mn_w (hX _)) (bc_in1 (mn_w (hX _)) (bc_in1 (mn_w (hX _)) (bc_in1 (mn_w (hX _)) bc_in0)))) (List.forall_mem_cons.mpr ⟨hX _, (List.forall_mem_cons.mpr ⟨hX _, (List.forall_mem_cons.mpr ⟨hX _, (List.forall_mem_cons.mpr ⟨hX _, (fun _ h => nomatch h)⟩)⟩)⟩)⟩) (by omega) (by omega) ?_
  intro u2 la2 K2 R2 M2 hu2 hb2 hM2
  obtain ⟨y2, rfl⟩ : ∃ y, u2 = some (gm_vi y) := hu2
  show gm_Wp X LX 280 _ _ 369 1208 L5 [gm_vi y2] (245 + 4 * g) K2 R2 M2 Q
  refine gm_sz (gm_p_stor (pc := 1208) (i := .istore 6) (sr := 0) (j := 6) (by decide +kernel) rfl (by show 6 + 0 < L5.length; have := hL5.1; omega) rfl) ?_
  have hL6 := mn_L_s (y := y2) hL5 (j := 6) (Or.inr rfl)
  have l66 := mn_l6 (y := y2) hL5
  have l65 := mn_l65 (y := y2) l55
  generalize gm_lst L5 6 (gm_vi y2) = L6 at hL6 l66 l65 ⊢
  refine gm_sz (gm_p_goto (pc := 1210) (off := 755) (by decide +kernel) (by decide)) ?_
  exact gm_Wp_wk (Nat.le_refl _) (by omega) (by omega) (rest g _ _ _ _ L6 hb2 (by omega) ⟨_, _, _, _, _, _, _, hM2⟩ hL6)
theorem mc_26 (hb : bg g la K R M) (hg : g < 9990) (hM : RELW la K M) (hL : mn_L i L) (hi : 0 ≤ i ∧ i + 6 ≤ (LX : Int)) (hLX : LX ≤ 3072) (hX : ∀ j, gm_ir (X j)) (hbc : 12 ≤ bc) (hbs : 1200 ≤ bs) (rest : mn_R X LX bc bs i g Q) : gm_Wp X LX 280 bc bs 369 1213 L [] (245 + 4 * g) K R M Q := by
  obtain ⟨N, lw, A, im, t, w, f, hM⟩ := hM
  refine gm_sz (gm_p_load (pc := 1213) (i := .aload_n 1) (sr := 2) (j := 1) (by decide +kernel) rfl hL.2.2.1 rfl) ?_
  refine mn_arg (pc := 1214) (j := 1) (by decide +kernel) (by decide +kernel) (by decide +kernel) (by decide +kernel) (by decide +kernel) hL hi (by decide) hLX ?_
  refine mn_arg (pc := 1220) (j := 2) (by decide +kernel) (by decide +kernel) (by decide +kernel) (by decide +kernel) (by decide +kernel) hL hi (by decide) hLX ?_
  refine gm_sz (gm_p_load (pc := 1226) (i := .aload_n 3) (sr := 2) (j := 3) (by decide +kernel) rfl hL.2.2.2.2.1 rfl) ?_
  refine rq_x (pc := 1227) (ix := 232) (mj := 191) (xs := [X (i + 1), X (i + 2)]) (st := []) (ds := [(-2147483648, 2147483647), (-2147483648, 2147483647)]) (r := true) hb (by omega) hM (by decide +kernel) (by decide +kernel) (by decide +kernel) (by decide +kernel) (show 4 = gm_na 191 by decide +kernel) (show 4 ≤ gm_ml 191 by decide +kernel) (Nat.le_of_ble_eq_true rfl) ax_table_s al_table_s ax_table_c al_table_c ax_table_v al_table_v (bc_in1 (mn_w (hX _)) (bc_in1 (mn_w (hX _)) bc_in0)) (List.forall_mem_cons.mpr ⟨hX _, (List.forall_mem_cons.mpr ⟨hX _, (fun _ h => nomatch h)⟩)⟩) (by omega) (by omega) ?_
  intro u1 la1 K1 R1 M1 hu1 hb1 hM1
  obtain ⟨y1, rfl⟩ : ∃ y, u1 = some (gm_vi y) := hu1
  show gm_Wp X LX 280 _ _ 369 1230 L [gm_vi y1] (245 + 4 * g) K1 R1 M1 Q
  refine gm_sz (gm_p_stor (pc := 1230) (i := .istore 5) (sr := 0) (j := 5) (by decide +kernel) rfl (by show 5 + 0 < L.length; have := hL.1; omega) rfl) ?_
  have hL5 := mn_L_s (y := y1) hL (j := 5) (Or.inl rfl)
  have l55 := mn_l5 (y := y1) hL
  generalize gm_lst L 5 (gm_vi y1) = L5 at hL5 l55 ⊢
  refine gm_sz (gm_p_load (pc := 1232) (i := .aload_n 2) (sr := 2) (j := 2) (by decide +kernel) rfl hL5.2.2.2.1 rfl) ?_
  refine mn_arg (pc := 1233) (j := 1) (by decide +kernel) (by decide +kernel) (by decide +kernel) (by decide +kernel) (by decide +kernel) hL5 hi (by decide) hLX ?_
  refine mn_arg (pc := 1239) (j := 2) (by decide +kernel) (by decide +kernel) (by decide +kernel) (by decide +kernel) (by decide +kernel) hL5 hi (by decide) hLX ?_
  refine rq_m (pc := 1245) (ix := 234) (mj := 341) (xs := [X (i + 1), X (i + 2)]) (st := []) (ds := [(-2147483648, 2147483647), (-2147483648, 2147483647)]) (r := true) hb1 (by omega) hM1 (by decide +kernel) (by decide +kernel) (by decide +kernel) (by decide +kernel) (show 2 = gm_na 341 by decide +kernel) (show 3 ≤ gm_ml 341 by decide +kernel) (Nat.le_of_ble_eq_true rfl) am_table_s am_table_c am_table_v (bc_in1 (mn_w (hX _)) (bc_in1 (mn_w (hX _)) bc_in0)) (List.forall_mem_cons.mpr ⟨hX _, (List.forall_mem_cons.mpr ⟨hX _, (fun _ h => nomatch h)⟩)⟩) (by omega) (by omega) ?_
  intro u2 la2 K2 R2 M2 hu2 hb2 hM2
  obtain ⟨y2, rfl⟩ : ∃ y, u2 = some (gm_vi y) := hu2
  show gm_Wp X LX 280 _ _ 369 1248 L5 [gm_vi y2] (245 + 4 * g) K2 R2 M2 Q
  refine gm_sz (gm_p_stor (pc := 1248) (i := .istore 6) (sr := 0) (j := 6) (by decide +kernel) rfl (by show 6 + 0 < L5.length; have := hL5.1; omega) rfl) ?_
  have hL6 := mn_L_s (y := y2) hL5 (j := 6) (Or.inr rfl)
  have l66 := mn_l6 (y := y2) hL5
  have l65 := mn_l65 (y := y2) l55
  generalize gm_lst L5 6 (gm_vi y2) = L6 at hL6 l66 l65 ⊢
  refine gm_sz (gm_p_goto (pc := 1250) (off := 715) (by decide +kernel) (by decide)) ?_
  exact gm_Wp_wk (Nat.le_refl _) (by omega) (by omega) (rest g _ _ _ _ L6 hb2 (by omega) ⟨_, _, _, _, _, _, _, hM2⟩ hL6)
theorem mc_27 (hb : bg g la K R M) (hg : g < 9990) (hM : RELW la K M) (hL : mn_L i L) (hi : 0 ≤ i ∧ i + 6 ≤ (LX : Int)) (hLX : LX ≤ 3072) (hX : ∀ j, gm_ir (X j)) (hbc : 12 ≤ bc) (hbs : 1200 ≤ bs) (rest : mn_R X LX bc bs i g Q) : gm_Wp X LX 280 bc bs 369 1253 L [] (245 + 4 * g) K R M Q := by
  obtain ⟨N, lw, A, im, t, w, f, hM⟩ := hM
  refine gm_sz (gm_p_load (pc := 1253) (i := .aload_n 1) (sr := 2) (j := 1) (by decide +kernel) rfl hL.2.2.1 rfl) ?_
  refine mn_arg (pc := 1254) (j := 1) (by decide +kernel) (by decide +kernel) (by decide +kernel) (by decide +kernel) (by decide +kernel) hL hi (by decide) hLX ?_
  refine mn_arg (pc := 1260) (j := 2) (by decide +kernel) (by decide +kernel) (by decide +kernel) (by decide +kernel) (by decide +kernel) hL hi (by decide) hLX ?_
  refine mn_arg (pc := 1266) (j := 3) (by decide +kernel) (by decide +kernel) (by decide +kernel) (by decide +kernel) (by decide +kernel) hL hi (by decide) hLX ?_
  refine gm_sz (gm_p_load (pc := 1272) (i := .aload_n 3) (sr := 2) (j := 3) (by decide +kernel) rfl hL.2.2.2.2.1 rfl) ?_
  refine rq_x (pc := 1273) (ix := 235) (mj := 194) (xs := [X (i + 1), X (i + 2), X (i + 3)]) (st := []) (ds := [(-2147483648, 2147483647), (-2147483648, 2147483647), (-2147483648, 2147483647)]) (r := true) hb (by omega) hM (by decide +kernel) (by decide +kernel) (by decide +kernel) (by decide +kernel) (show 5 = gm_na 194 by decide +kernel) (show 5 ≤ gm_ml 194 by decide +kernel) (Nat.le_of_ble_eq_true rfl) ax_apart_s al_apart_s ax_apart_c al_apart_c ax_apart_v al_apart_v (bc_in1 (mn_w (hX _)) (bc_in1 (mn_w (hX _)) (bc_in1 (mn_w (hX _)) bc_in0))) (List.forall_mem_cons.mpr ⟨hX _, (List.forall_mem_cons.mpr ⟨hX _, (List.forall_mem_cons.mpr ⟨hX _, (fun _ h => nomatch h)⟩)⟩)⟩) (by omega) (by omega) ?_
  intro u1 la1 K1 R1 M1 hu1 hb1 hM1
  obtain ⟨y1, rfl⟩ : ∃ y, u1 = some (gm_vi y) := hu1
  show gm_Wp X LX 280 _ _ 369 1276 L [gm_vi y1] (245 + 4 * g) K1 R1 M1 Q
  refine gm_sz (gm_p_stor (pc := 1276) (i := .istore 5) (sr := 0) (j := 5) (by decide +kernel) rfl (by show 5 + 0 < L.length; have := hL.1; omega) rfl) ?_
  have hL5 := mn_L_s (y := y1) hL (j := 5) (Or.inl rfl)
  have l55 := mn_l5 (y := y1) hL
  generalize gm_lst L 5 (gm_vi y1) = L5 at hL5 l55 ⊢
  refine gm_sz (gm_p_load (pc := 1278) (i := .aload_n 2) (sr := 2) (j := 2) (by decide +kernel) rfl hL5.2.2.2.1 rfl) ?_
  refine mn_arg (pc := 1279) (j := 1) (by decide +kernel) (by decide +kernel) (by decide +kernel) (by decide +kernel) (by decide +kernel) hL5 hi (by decide) hLX ?_
  refine mn_arg (pc := 1285) (j := 2) (by decide +kernel) (by decide +kernel) (by decide +kernel) (by decide +kernel) (by decide +kernel) hL5 hi (by decide) hLX ?_
  refine mn_arg (pc := 1291) (j := 3) (by decide +kernel) (by decide +kernel) (by decide +kernel) (by decide +kernel) (by decide +kernel) hL5 hi (by decide) hLX ?_
  refine rq_m (pc := 1297) (ix := 237) (mj := 344) (xs := [X (i + 1), X (i + 2), X (i + 3)]) (st := []) (ds := [(-2147483648, 2147483647), (-2147483648, 2147483647), (-2147483648, 2147483647)]) (r := true) hb1 (by omega) hM1 (by decide +kernel) (by decide +kernel) (by decide +kernel) (by decide +kernel) (show 3 = gm_na 344 by decide +kernel) (show 4 ≤ gm_ml 344 by decide +kernel) (Nat.le_of_ble_eq_true rfl) am_apart_s am_apart_c am_apart_v (bc_in1 (mn_w (hX _)) (bc_in1 (mn_w (hX _)) (bc_in1 (mn_w (hX _)) bc_in0))) (List.forall_mem_cons.mpr ⟨hX _, (List.forall_mem_cons.mpr ⟨hX _, (List.forall_mem_cons.mpr ⟨hX _, (fun _ h => nomatch h)⟩)⟩)⟩) (by omega) (by omega) ?_
  intro u2 la2 K2 R2 M2 hu2 hb2 hM2
  obtain ⟨y2, rfl⟩ : ∃ y, u2 = some (gm_vi y) := hu2
  show gm_Wp X LX 280 _ _ 369 1300 L5 [gm_vi y2] (245 + 4 * g) K2 R2 M2 Q
  refine gm_sz (gm_p_stor (pc := 1300) (i := .istore 6) (sr := 0) (j := 6) (by decide +kernel) rfl (by show 6 + 0 < L5.length; have := hL5.1; omega) rfl) ?_
  have hL6 := mn_L_s (y := y2) hL5 (j := 6) (Or.inr rfl)
  have l66 := mn_l6 (y := y2) hL5
  have l65 := mn_l65 (y := y2) l55
  generalize gm_lst L5 6 (gm_vi y2) = L6 at hL6 l66 l65 ⊢
  refine gm_sz (gm_p_goto (pc := 1302) (off := 663) (by decide +kernel) (by decide)) ?_
  exact gm_Wp_wk (Nat.le_refl _) (by omega) (by omega) (rest g _ _ _ _ L6 hb2 (by omega) ⟨_, _, _, _, _, _, _, hM2⟩ hL6)
theorem mc_28 (hb : bg g la K R M) (hg : g < 9990) (hM : RELW la K M) (hL : mn_L i L) (hi : 0 ≤ i ∧ i + 6 ≤ (LX : Int)) (hLX : LX ≤ 3072) (hX : ∀ j, gm_ir (X j)) (hbc : 12 ≤ bc) (hbs : 1200 ≤ bs) (rest : mn_R X LX bc bs i g Q) : gm_Wp X LX 280 bc bs 369 1305 L [] (245 + 4 * g) K R M Q := by
  obtain ⟨N, lw, A, im, t, w, f, hM⟩ := hM
  refine gm_sz (gm_p_load (pc := 1305) (i := .aload_n 1) (sr := 2) (j := 1) (by decide +kernel) rfl hL.2.2.1 rfl) ?_
  refine rq_d (pc := 1306) (ix := 238) (mj := 48) (xs := []) (st := []) (ds := []) (r := true) hb (by omega) hM (by decide +kernel) (by decide +kernel) (by decide +kernel) (by decide +kernel) (show 0 = gm_na 48 by decide +kernel) (show 1 ≤ gm_ml 48 by decide +kernel) (Nat.le_of_ble_eq_true rfl) ax_poles_s al_poles_s ax_poles_c al_poles_c ax_poles_v al_poles_v bc_in0 (fun _ h => nomatch h) (by omega) (by omega) ?_
  intro u1 la1 K1 R1 M1 hu1 hb1 hM1
  obtain ⟨y1, rfl⟩ : ∃ y, u1 = some (gm_vi y) := hu1
  show gm_Wp X LX 280 _ _ 369 1309 L [gm_vi y1] (245 + 4 * g) K1 R1 M1 Q
  refine gm_sz (gm_p_pop (pc := 1309) (by decide +kernel) (by simp [gm_sort])) ?_
  refine gm_sz (gm_p_load (pc := 1310) (i := .aload_n 2) (sr := 2) (j := 2) (by decide +kernel) rfl hL.2.2.2.1 rfl) ?_
  refine rq_m (pc := 1311) (ix := 241) (mj := 347) (xs := []) (st := []) (ds := []) (r := true) hb1 (by omega) hM1 (by decide +kernel) (by decide +kernel) (by decide +kernel) (by decide +kernel) (show 0 = gm_na 347 by decide +kernel) (show 1 ≤ gm_ml 347 by decide +kernel) (Nat.le_of_ble_eq_true rfl) am_poles_s am_poles_c am_poles_v bc_in0 (fun _ h => nomatch h) (by omega) (by omega) ?_
  intro u2 la2 K2 R2 M2 hu2 hb2 hM2
  obtain ⟨y2, rfl⟩ : ∃ y, u2 = some (gm_vi y) := hu2
  show gm_Wp X LX 280 _ _ 369 1314 L [gm_vi y2] (245 + 4 * g) K2 R2 M2 Q
  refine gm_sz (gm_p_pop (pc := 1314) (by decide +kernel) (by simp [gm_sort])) ?_
  refine gm_sz (gm_p_goto (pc := 1315) (off := 650) (by decide +kernel) (by decide)) ?_
  exact gm_Wp_wk (Nat.le_refl _) (by omega) (by omega) (rest g _ _ _ _ L hb2 (by omega) ⟨_, _, _, _, _, _, _, hM2⟩ hL)
theorem mc_29 (hb : bg g la K R M) (hg : g < 9990) (hM : RELW la K M) (hL : mn_L i L) (hi : 0 ≤ i ∧ i + 6 ≤ (LX : Int)) (hLX : LX ≤ 3072) (hX : ∀ j, gm_ir (X j)) (hbc : 12 ≤ bc) (hbs : 1200 ≤ bs) (rest : mn_R X LX bc bs i g Q) : gm_Wp X LX 280 bc bs 369 1318 L [] (245 + 4 * g) K R M Q := by
  obtain ⟨N, lw, A, im, t, w, f, hM⟩ := hM
  refine gm_sz (gm_p_load (pc := 1318) (i := .aload_n 1) (sr := 2) (j := 1) (by decide +kernel) rfl hL.2.2.1 rfl) ?_
  refine gm_sz (gm_p_load (pc := 1319) (i := .aload_n 3) (sr := 2) (j := 3) (by decide +kernel) rfl hL.2.2.2.2.1 rfl) ?_
  refine ft_x (pc := 1320) (ix := 242) (mj := 196) (xs := []) (st := []) (ds := []) (r := true) hb (by omega) hM (by decide +kernel) (by decide +kernel) (by decide +kernel) (by decide +kernel) (show 2 = gm_na 196 by decide +kernel) (show 2 ≤ gm_ml 196 by decide +kernel) (Nat.le_of_ble_eq_true rfl) ax_fit_s al_fit_s ax_fit_c al_fit_c ax_fit_v al_fit_v bc_in0 (fun _ h => nomatch h) (by omega) (by omega) ?_
  intro u1 la1 K1 R1 M1 hu1 hb1 hM1
  obtain ⟨y1, rfl⟩ : ∃ y, u1 = some (gm_vi y) := hu1
  show gm_Wp X LX 280 _ _ 369 1323 L [gm_vi y1] (245 + 4 * g) K1 R1 M1 Q
  refine gm_sz (gm_p_stor (pc := 1323) (i := .istore 5) (sr := 0) (j := 5) (by decide +kernel) rfl (by show 5 + 0 < L.length; have := hL.1; omega) rfl) ?_
  have hL5 := mn_L_s (y := y1) hL (j := 5) (Or.inl rfl)
  have l55 := mn_l5 (y := y1) hL
  generalize gm_lst L 5 (gm_vi y1) = L5 at hL5 l55 ⊢
  refine gm_sz (gm_p_load (pc := 1325) (i := .aload_n 2) (sr := 2) (j := 2) (by decide +kernel) rfl hL5.2.2.2.1 rfl) ?_
  refine ft_m (pc := 1326) (ix := 244) (mj := 348) (xs := []) (st := []) (ds := []) (r := true) hb1 (by omega) hM1 (by decide +kernel) (by decide +kernel) (by decide +kernel) (by decide +kernel) (show 0 = gm_na 348 by decide +kernel) (show 1 ≤ gm_ml 348 by decide +kernel) (Nat.le_of_ble_eq_true rfl) am_fit_s am_fit_c am_fit_v bc_in0 (fun _ h => nomatch h) (by omega) (by omega) ?_
  intro u2 la2 K2 R2 M2 hu2 hb2 hM2
  obtain ⟨y2, rfl⟩ : ∃ y, u2 = some (gm_vi y) := hu2
  show gm_Wp X LX 280 _ _ 369 1329 L5 [gm_vi y2] (245 + 4 * g) K2 R2 M2 Q
  refine gm_sz (gm_p_stor (pc := 1329) (i := .istore 6) (sr := 0) (j := 6) (by decide +kernel) rfl (by show 6 + 0 < L5.length; have := hL5.1; omega) rfl) ?_
  have hL6 := mn_L_s (y := y2) hL5 (j := 6) (Or.inr rfl)
  have l66 := mn_l6 (y := y2) hL5
  have l65 := mn_l65 (y := y2) l55
  generalize gm_lst L5 6 (gm_vi y2) = L6 at hL6 l66 l65 ⊢
  refine gm_sz (gm_p_goto (pc := 1331) (off := 634) (by decide +kernel) (by decide)) ?_
  exact gm_Wp_wk (Nat.le_refl _) (by omega) (by omega) (rest g _ _ _ _ L6 hb2 (by omega) ⟨_, _, _, _, _, _, _, hM2⟩ hL6)
theorem mc_30 (hb : bg g la K R M) (hg : g < 9990) (hM : RELW la K M) (hL : mn_L i L) (hi : 0 ≤ i ∧ i + 6 ≤ (LX : Int)) (hLX : LX ≤ 3072) (hX : ∀ j, gm_ir (X j)) (hbc : 12 ≤ bc) (hbs : 1200 ≤ bs) (rest : mn_R X LX bc bs i g Q) : gm_Wp X LX 280 bc bs 369 1334 L [] (245 + 4 * g) K R M Q := by
  obtain ⟨N, lw, A, im, t, w, f, hM⟩ := hM
  refine gm_sz (gm_p_load (pc := 1334) (i := .aload_n 1) (sr := 2) (j := 1) (by decide +kernel) rfl hL.2.2.1 rfl) ?_
  refine mn_arg (pc := 1335) (j := 1) (by decide +kernel) (by decide +kernel) (by decide +kernel) (by decide +kernel) (by decide +kernel) hL hi (by decide) hLX ?_
  refine mn_arg (pc := 1341) (j := 2) (by decide +kernel) (by decide +kernel) (by decide +kernel) (by decide +kernel) (by decide +kernel) hL hi (by decide) hLX ?_
  refine mn_arg (pc := 1347) (j := 3) (by decide +kernel) (by decide +kernel) (by decide +kernel) (by decide +kernel) (by decide +kernel) hL hi (by decide) hLX ?_
  refine mn_bool (pc := 1353) (by decide +kernel) (by decide +kernel) (by decide +kernel) (by decide +kernel) ?_
  refine gm_sz (gm_p_load (pc := 1361) (i := .aload_n 3) (sr := 2) (j := 3) (by decide +kernel) rfl hL.2.2.2.2.1 rfl) ?_
  refine rq_x (pc := 1362) (ix := 245) (mj := 200) (xs := [X (i + 1), X (i + 2), bz (X (i + 3))]) (st := []) (ds := [(-2147483648, 2147483647), (-2147483648, 2147483647), (0, 1)]) (r := true) hb (by omega) hM (by decide +kernel) (by decide +kernel) (by decide +kernel) (by decide +kernel) (show 5 = gm_na 200 by decide +kernel) (show 5 ≤ gm_ml 200 by decide +kernel) (Nat.le_of_ble_eq_true rfl) ax_soonest_s al_soonest_s ax_soonest_c al_soonest_c ax_soonest_v al_soonest_v (bc_in1 (mn_w (hX _)) (bc_in1 (mn_w (hX _)) (bc_in1 ⟨bz_0, bz_1⟩ bc_in0))) (List.forall_mem_cons.mpr ⟨hX _, (List.forall_mem_cons.mpr ⟨hX _, (List.forall_mem_cons.mpr ⟨⟨Int.le_trans (by decide) bz_0, Int.lt_of_le_of_lt bz_1 (by decide)⟩, (fun _ h => nomatch h)⟩)⟩)⟩) (by omega) (by omega) ?_
  intro u1 la1 K1 R1 M1 hu1 hb1 hM1
  obtain ⟨y1, rfl⟩ : ∃ y, u1 = some (gm_vi y) := hu1
  show gm_Wp X LX 280 _ _ 369 1365 L [gm_vi y1] (245 + 4 * g) K1 R1 M1 Q
  refine gm_sz (gm_p_stor (pc := 1365) (i := .istore 5) (sr := 0) (j := 5) (by decide +kernel) rfl (by show 5 + 0 < L.length; have := hL.1; omega) rfl) ?_
  have hL5 := mn_L_s (y := y1) hL (j := 5) (Or.inl rfl)
  have l55 := mn_l5 (y := y1) hL
  generalize gm_lst L 5 (gm_vi y1) = L5 at hL5 l55 ⊢
  refine gm_sz (gm_p_load (pc := 1367) (i := .aload_n 2) (sr := 2) (j := 2) (by decide +kernel) rfl hL5.2.2.2.1 rfl) ?_
  refine mn_arg (pc := 1368) (j := 1) (by decide +kernel) (by decide +kernel) (by decide +kernel) (by decide +kernel) (by decide +kernel) hL5 hi (by decide) hLX ?_
  refine mn_arg (pc := 1374) (j := 2) (by decide +kernel) (by decide +kernel) (by decide +kernel) (by decide +kernel) (by decide +kernel) hL5 hi (by decide) hLX ?_
  refine mn_arg (pc := 1380) (j := 3) (by decide +kernel) (by decide +kernel) (by decide +kernel) (by decide +kernel) (by decide +kernel) hL5 hi (by decide) hLX ?_
  refine mn_bool (pc := 1386) (by decide +kernel) (by decide +kernel) (by decide +kernel) (by decide +kernel) ?_
  refine rq_m (pc := 1394) (ix := 248) (mj := 349) (xs := [X (i + 1), X (i + 2), bz (X (i + 3))]) (st := []) (ds := [(-2147483648, 2147483647), (-2147483648, 2147483647), (0, 1)]) (r := true) hb1 (by omega) hM1 (by decide +kernel) (by decide +kernel) (by decide +kernel) (by decide +kernel) (show 3 = gm_na 349 by decide +kernel) (show 4 ≤ gm_ml 349 by decide +kernel) (Nat.le_of_ble_eq_true rfl) am_soonest_s am_soonest_c am_soonest_v (bc_in1 (mn_w (hX _)) (bc_in1 (mn_w (hX _)) (bc_in1 ⟨bz_0, bz_1⟩ bc_in0))) (List.forall_mem_cons.mpr ⟨hX _, (List.forall_mem_cons.mpr ⟨hX _, (List.forall_mem_cons.mpr ⟨⟨Int.le_trans (by decide) bz_0, Int.lt_of_le_of_lt bz_1 (by decide)⟩, (fun _ h => nomatch h)⟩)⟩)⟩) (by omega) (by omega) ?_
  intro u2 la2 K2 R2 M2 hu2 hb2 hM2
  obtain ⟨y2, rfl⟩ : ∃ y, u2 = some (gm_vi y) := hu2
  show gm_Wp X LX 280 _ _ 369 1397 L5 [gm_vi y2] (245 + 4 * g) K2 R2 M2 Q
  refine gm_sz (gm_p_stor (pc := 1397) (i := .istore 6) (sr := 0) (j := 6) (by decide +kernel) rfl (by show 6 + 0 < L5.length; have := hL5.1; omega) rfl) ?_
  have hL6 := mn_L_s (y := y2) hL5 (j := 6) (Or.inr rfl)
  have l66 := mn_l6 (y := y2) hL5
  have l65 := mn_l65 (y := y2) l55
  generalize gm_lst L5 6 (gm_vi y2) = L6 at hL6 l66 l65 ⊢
  refine gm_sz (gm_p_goto (pc := 1399) (off := 566) (by decide +kernel) (by decide)) ?_
  exact gm_Wp_wk (Nat.le_refl _) (by omega) (by omega) (rest g _ _ _ _ L6 hb2 (by omega) ⟨_, _, _, _, _, _, _, hM2⟩ hL6)
theorem mc_31 (hb : bg g la K R M) (hg : g < 9990) (hM : RELW la K M) (hL : mn_L i L) (hi : 0 ≤ i ∧ i + 6 ≤ (LX : Int)) (hLX : LX ≤ 3072) (hX : ∀ j, gm_ir (X j)) (hbc : 12 ≤ bc) (hbs : 1200 ≤ bs) (rest : mn_R X LX bc bs i g Q) : gm_Wp X LX 280 bc bs 369 1402 L [] (245 + 4 * g) K R M Q := by
  obtain ⟨N, lw, A, im, t, w, f, hM⟩ := hM
  refine gm_sz (gm_p_load (pc := 1402) (i := .aload_n 1) (sr := 2) (j := 1) (by decide +kernel) rfl hL.2.2.1 rfl) ?_
  refine mn_arg (pc := 1403) (j := 1) (by decide +kernel) (by decide +kernel) (by decide +kernel) (by decide +kernel) (by decide +kernel) hL hi (by decide) hLX ?_
  refine mn_arg (pc := 1409) (j := 2) (by decide +kernel) (by decide +kernel) (by decide +kernel) (by decide +kernel) (by decide +kernel) hL hi (by decide) hLX ?_
  refine mn_arg (pc := 1415) (j := 3) (by decide +kernel) (by decide +kernel) (by decide +kernel) (by decide +kernel) (by decide +kernel) hL hi (by decide) hLX ?_
  refine gm_sz (gm_p_load (pc := 1421) (i := .aload_n 3) (sr := 2) (j := 3) (by decide +kernel) rfl hL.2.2.2.2.1 rfl) ?_
  refine rq_x (pc := 1422) (ix := 249) (mj := 206) (xs := [X (i + 1), X (i + 2), X (i + 3)]) (st := []) (ds := [(-2147483648, 2147483647), (-2147483648, 2147483647), (-2147483648, 2147483647)]) (r := true) hb (by omega) hM (by decide +kernel) (by decide +kernel) (by decide +kernel) (by decide +kernel) (show 5 = gm_na 206 by decide +kernel) (show 5 ≤ gm_ml 206 by decide +kernel) (Nat.le_of_ble_eq_true rfl) ax_chain_s al_chain_s ax_chain_c al_chain_c ax_chain_v al_chain_v (bc_in1 (mn_w (hX _)) (bc_in1 (mn_w (hX _)) (bc_in1 (mn_w (hX _)) bc_in0))) (List.forall_mem_cons.mpr ⟨hX _, (List.forall_mem_cons.mpr ⟨hX _, (List.forall_mem_cons.mpr ⟨hX _, (fun _ h => nomatch h)⟩)⟩)⟩) (by omega) (by omega) ?_
  intro u1 la1 K1 R1 M1 hu1 hb1 hM1
  obtain ⟨y1, rfl⟩ : ∃ y, u1 = some (gm_vi y) := hu1
  show gm_Wp X LX 280 _ _ 369 1425 L [gm_vi y1] (245 + 4 * g) K1 R1 M1 Q
  refine gm_sz (gm_p_stor (pc := 1425) (i := .istore 5) (sr := 0) (j := 5) (by decide +kernel) rfl (by show 5 + 0 < L.length; have := hL.1; omega) rfl) ?_
  have hL5 := mn_L_s (y := y1) hL (j := 5) (Or.inl rfl)
  have l55 := mn_l5 (y := y1) hL
  generalize gm_lst L 5 (gm_vi y1) = L5 at hL5 l55 ⊢
  refine gm_sz (gm_p_load (pc := 1427) (i := .aload_n 2) (sr := 2) (j := 2) (by decide +kernel) rfl hL5.2.2.2.1 rfl) ?_
  refine mn_arg (pc := 1428) (j := 1) (by decide +kernel) (by decide +kernel) (by decide +kernel) (by decide +kernel) (by decide +kernel) hL5 hi (by decide) hLX ?_
  refine mn_arg (pc := 1434) (j := 2) (by decide +kernel) (by decide +kernel) (by decide +kernel) (by decide +kernel) (by decide +kernel) hL5 hi (by decide) hLX ?_
  refine mn_arg (pc := 1440) (j := 3) (by decide +kernel) (by decide +kernel) (by decide +kernel) (by decide +kernel) (by decide +kernel) hL5 hi (by decide) hLX ?_
  refine rq_m (pc := 1446) (ix := 251) (mj := 354) (xs := [X (i + 1), X (i + 2), X (i + 3)]) (st := []) (ds := [(-2147483648, 2147483647), (-2147483648, 2147483647), (-2147483648, 2147483647)]) (r := true) hb1 (by omega) hM1 (by decide +kernel) (by decide +kernel) (by decide +kernel) (by decide +kernel) (show 3 = gm_na 354 by decide +kernel) (show 4 ≤ gm_ml 354 by decide +kernel) (Nat.le_of_ble_eq_true rfl) am_chain_s am_chain_c am_chain_v (bc_in1 (mn_w (hX _)) (bc_in1 (mn_w (hX _)) (bc_in1 (mn_w (hX _)) bc_in0))) (List.forall_mem_cons.mpr ⟨hX _, (List.forall_mem_cons.mpr ⟨hX _, (List.forall_mem_cons.mpr ⟨hX _, (fun _ h => nomatch h)⟩)⟩)⟩) (by omega) (by omega) ?_
  intro u2 la2 K2 R2 M2 hu2 hb2 hM2
  obtain ⟨y2, rfl⟩ : ∃ y, u2 = some (gm_vi y) := hu2
  show gm_Wp X LX 280 _ _ 369 1449 L5 [gm_vi y2] (245 + 4 * g) K2 R2 M2 Q
  refine gm_sz (gm_p_stor (pc := 1449) (i := .istore 6) (sr := 0) (j := 6) (by decide +kernel) rfl (by show 6 + 0 < L5.length; have := hL5.1; omega) rfl) ?_
  have hL6 := mn_L_s (y := y2) hL5 (j := 6) (Or.inr rfl)
  have l66 := mn_l6 (y := y2) hL5
  have l65 := mn_l65 (y := y2) l55
  generalize gm_lst L5 6 (gm_vi y2) = L6 at hL6 l66 l65 ⊢
  refine gm_sz (gm_p_goto (pc := 1451) (off := 514) (by decide +kernel) (by decide)) ?_
  exact gm_Wp_wk (Nat.le_refl _) (by omega) (by omega) (rest g _ _ _ _ L6 hb2 (by omega) ⟨_, _, _, _, _, _, _, hM2⟩ hL6)
end MCC
end
/-! 7d03.mc -/
section
/-! THE LAW'S CASES, on. -/
section MCC
variable {X : Int → Int} {LX g bc bs : Nat} {i : Int} {la : Nat → Nat} {K : gm_K} {R : gm_R} {M : gm_M} {Q : gm_Q} {L : gm_L}
theorem mc_32 (hb : bg g la K R M) (hg : g < 9990) (hM : RELW la K M) (hL : mn_L i L) (hi : 0 ≤ i ∧ i + 6 ≤ (LX : Int)) (hLX : LX ≤ 3072) (hX : ∀ j, gm_ir (X j)) (hbc : 12 ≤ bc) (hbs : 1200 ≤ bs) (rest : mn_R X LX bc bs i g Q) : gm_Wp X LX 280 bc bs 369 1454 L [] (245 + 4 * g) K R M Q := by
  obtain ⟨N, lw, A, im, t, w, f, hM⟩ := hM
  refine gm_sz (gm_p_load (pc := 1454) (i := .aload_n 1) (sr := 2) (j := 1) (by decide +kernel) rfl hL.2.2.1 rfl) ?_
  refine mn_arg (pc := 1455) (j := 1) (by decide +kernel) (by decide +kernel) (by decide +kernel) (by decide +kernel) (by decide +kernel) hL hi (by decide) hLX ?_
  refine mn_arg (pc := 1461) (j := 2) (by decide +kernel) (by decide +kernel) (by decide +kernel) (by decide +kernel) (by decide +kernel) hL hi (by decide) hLX ?_
  refine gm_sz (gm_p_load (pc := 1467) (i := .aload_n 3) (sr := 2) (j := 3) (by decide +kernel) rfl hL.2.2.2.2.1 rfl) ?_
  refine rq_x (pc := 1468) (ix := 252) (mj := 210) (xs := [X (i + 1), X (i + 2)]) (st := []) (ds := [(-2147483648, 2147483647), (-2147483648, 2147483647)]) (r := true) hb (by omega) hM (by decide +kernel) (by decide +kernel) (by decide +kernel) (by decide +kernel) (show 4 = gm_na 210 by decide +kernel) (show 4 ≤ gm_ml 210 by decide +kernel) (Nat.le_of_ble_eq_true rfl) ax_reached_s al_reached_s ax_reached_c al_reached_c ax_reached_v al_reached_v (bc_in1 (mn_w (hX _)) (bc_in1 (mn_w (hX _)) bc_in0)) (List.forall_mem_cons.mpr ⟨hX _, (List.forall_mem_cons.mpr ⟨hX _, (fun _ h => nomatch h)⟩)⟩) (by omega) (by omega) ?_
  intro u1 la1 K1 R1 M1 hu1 hb1 hM1
  obtain ⟨y1, rfl⟩ : ∃ y, u1 = some (gm_vi y) := hu1
  show gm_Wp X LX 280 _ _ 369 1471 L [gm_vi y1] (245 + 4 * g) K1 R1 M1 Q
  refine gm_sz (gm_p_stor (pc := 1471) (i := .istore 5) (sr := 0) (j := 5) (by decide +kernel) rfl (by show 5 + 0 < L.length; have := hL.1; omega) rfl) ?_
  have hL5 := mn_L_s (y := y1) hL (j := 5) (Or.inl rfl)
  have l55 := mn_l5 (y := y1) hL
  generalize gm_lst L 5 (gm_vi y1) = L5 at hL5 l55 ⊢
  refine gm_sz (gm_p_load (pc := 1473) (i := .aload_n 2) (sr := 2) (j := 2) (by decide +kernel) rfl hL5.2.2.2.1 rfl) ?_
  refine mn_arg (pc := 1474) (j := 1) (by decide +kernel) (by decide +kernel) (by decide +kernel) (by decide +kernel) (by decide +kernel) hL5 hi (by decide) hLX ?_
  refine mn_arg (pc := 1480) (j := 2) (by decide +kernel) (by decide +kernel) (by decide +kernel) (by decide +kernel) (by decide +kernel) hL5 hi (by decide) hLX ?_
  refine rq_m (pc := 1486) (ix := 254) (mj := 356) (xs := [X (i + 1), X (i + 2)]) (st := []) (ds := [(-2147483648, 2147483647), (-2147483648, 2147483647)]) (r := true) hb1 (by omega) hM1 (by decide +kernel) (by decide +kernel) (by decide +kernel) (by decide +kernel) (show 2 = gm_na 356 by decide +kernel) (show 3 ≤ gm_ml 356 by decide +kernel) (Nat.le_of_ble_eq_true rfl) am_reached_s am_reached_c am_reached_v (bc_in1 (mn_w (hX _)) (bc_in1 (mn_w (hX _)) bc_in0)) (List.forall_mem_cons.mpr ⟨hX _, (List.forall_mem_cons.mpr ⟨hX _, (fun _ h => nomatch h)⟩)⟩) (by omega) (by omega) ?_
  intro u2 la2 K2 R2 M2 hu2 hb2 hM2
  obtain ⟨y2, rfl⟩ : ∃ y, u2 = some (gm_vi y) := hu2
  show gm_Wp X LX 280 _ _ 369 1489 L5 [gm_vi y2] (245 + 4 * g) K2 R2 M2 Q
  refine gm_sz (gm_p_stor (pc := 1489) (i := .istore 6) (sr := 0) (j := 6) (by decide +kernel) rfl (by show 6 + 0 < L5.length; have := hL5.1; omega) rfl) ?_
  have hL6 := mn_L_s (y := y2) hL5 (j := 6) (Or.inr rfl)
  have l66 := mn_l6 (y := y2) hL5
  have l65 := mn_l65 (y := y2) l55
  generalize gm_lst L5 6 (gm_vi y2) = L6 at hL6 l66 l65 ⊢
  refine gm_sz (gm_p_goto (pc := 1491) (off := 474) (by decide +kernel) (by decide)) ?_
  exact gm_Wp_wk (Nat.le_refl _) (by omega) (by omega) (rest g _ _ _ _ L6 hb2 (by omega) ⟨_, _, _, _, _, _, _, hM2⟩ hL6)
theorem mc_33 (hb : bg g la K R M) (hg : g < 9990) (hM : RELW la K M) (hL : mn_L i L) (hi : 0 ≤ i ∧ i + 6 ≤ (LX : Int)) (hLX : LX ≤ 3072) (hX : ∀ j, gm_ir (X j)) (hbc : 12 ≤ bc) (hbs : 1200 ≤ bs) (rest : mn_R X LX bc bs i g Q) : gm_Wp X LX 280 bc bs 369 1494 L [] (245 + 4 * g) K R M Q := by
  obtain ⟨N, lw, A, im, t, w, f, hM⟩ := hM
  refine gm_sz (gm_p_load (pc := 1494) (i := .aload_n 1) (sr := 2) (j := 1) (by decide +kernel) rfl hL.2.2.1 rfl) ?_
  refine mn_arg (pc := 1495) (j := 1) (by decide +kernel) (by decide +kernel) (by decide +kernel) (by decide +kernel) (by decide +kernel) hL hi (by decide) hLX ?_
  refine mn_arg (pc := 1501) (j := 2) (by decide +kernel) (by decide +kernel) (by decide +kernel) (by decide +kernel) (by decide +kernel) hL hi (by decide) hLX ?_
  refine mn_bool (pc := 1507) (by decide +kernel) (by decide +kernel) (by decide +kernel) (by decide +kernel) ?_
  refine gm_sz (gm_p_load (pc := 1515) (i := .aload_n 3) (sr := 2) (j := 3) (by decide +kernel) rfl hL.2.2.2.2.1 rfl) ?_
  refine rq_x (pc := 1516) (ix := 255) (mj := 212) (xs := [X (i + 1), bz (X (i + 2))]) (st := []) (ds := [(-2147483648, 2147483647), (0, 1)]) (r := true) hb (by omega) hM (by decide +kernel) (by decide +kernel) (by decide +kernel) (by decide +kernel) (show 4 = gm_na 212 by decide +kernel) (show 4 ≤ gm_ml 212 by decide +kernel) (Nat.le_of_ble_eq_true rfl) ax_thieves_s al_thieves_s ax_thieves_c al_thieves_c ax_thieves_v al_thieves_v (bc_in1 (mn_w (hX _)) (bc_in1 ⟨bz_0, bz_1⟩ bc_in0)) (List.forall_mem_cons.mpr ⟨hX _, (List.forall_mem_cons.mpr ⟨⟨Int.le_trans (by decide) bz_0, Int.lt_of_le_of_lt bz_1 (by decide)⟩, (fun _ h => nomatch h)⟩)⟩) (by omega) (by omega) ?_
  intro u1 la1 K1 R1 M1 hu1 hb1 hM1
  obtain ⟨y1, rfl⟩ : ∃ y, u1 = some (gm_vi y) := hu1
  show gm_Wp X LX 280 _ _ 369 1519 L [gm_vi y1] (245 + 4 * g) K1 R1 M1 Q
  refine gm_sz (gm_p_stor (pc := 1519) (i := .istore 5) (sr := 0) (j := 5) (by decide +kernel) rfl (by show 5 + 0 < L.length; have := hL.1; omega) rfl) ?_
  have hL5 := mn_L_s (y := y1) hL (j := 5) (Or.inl rfl)
  have l55 := mn_l5 (y := y1) hL
  generalize gm_lst L 5 (gm_vi y1) = L5 at hL5 l55 ⊢
  refine gm_sz (gm_p_load (pc := 1521) (i := .aload_n 2) (sr := 2) (j := 2) (by decide +kernel) rfl hL5.2.2.2.1 rfl) ?_
  refine mn_arg (pc := 1522) (j := 1) (by decide +kernel) (by decide +kernel) (by decide +kernel) (by decide +kernel) (by decide +kernel) hL5 hi (by decide) hLX ?_
  refine mn_arg (pc := 1528) (j := 2) (by decide +kernel) (by decide +kernel) (by decide +kernel) (by decide +kernel) (by decide +kernel) hL5 hi (by decide) hLX ?_
  refine mn_bool (pc := 1534) (by decide +kernel) (by decide +kernel) (by decide +kernel) (by decide +kernel) ?_
  refine rq_m (pc := 1542) (ix := 258) (mj := 357) (xs := [X (i + 1), bz (X (i + 2))]) (st := []) (ds := [(-2147483648, 2147483647), (0, 1)]) (r := true) hb1 (by omega) hM1 (by decide +kernel) (by decide +kernel) (by decide +kernel) (by decide +kernel) (show 2 = gm_na 357 by decide +kernel) (show 3 ≤ gm_ml 357 by decide +kernel) (Nat.le_of_ble_eq_true rfl) am_thieves_s am_thieves_c am_thieves_v (bc_in1 (mn_w (hX _)) (bc_in1 ⟨bz_0, bz_1⟩ bc_in0)) (List.forall_mem_cons.mpr ⟨hX _, (List.forall_mem_cons.mpr ⟨⟨Int.le_trans (by decide) bz_0, Int.lt_of_le_of_lt bz_1 (by decide)⟩, (fun _ h => nomatch h)⟩)⟩) (by omega) (by omega) ?_
  intro u2 la2 K2 R2 M2 hu2 hb2 hM2
  obtain ⟨y2, rfl⟩ : ∃ y, u2 = some (gm_vi y) := hu2
  show gm_Wp X LX 280 _ _ 369 1545 L5 [gm_vi y2] (245 + 4 * g) K2 R2 M2 Q
  refine gm_sz (gm_p_stor (pc := 1545) (i := .istore 6) (sr := 0) (j := 6) (by decide +kernel) rfl (by show 6 + 0 < L5.length; have := hL5.1; omega) rfl) ?_
  have hL6 := mn_L_s (y := y2) hL5 (j := 6) (Or.inr rfl)
  have l66 := mn_l6 (y := y2) hL5
  have l65 := mn_l65 (y := y2) l55
  generalize gm_lst L5 6 (gm_vi y2) = L6 at hL6 l66 l65 ⊢
  refine gm_sz (gm_p_goto (pc := 1547) (off := 418) (by decide +kernel) (by decide)) ?_
  exact gm_Wp_wk (Nat.le_refl _) (by omega) (by omega) (rest g _ _ _ _ L6 hb2 (by omega) ⟨_, _, _, _, _, _, _, hM2⟩ hL6)
theorem mc_34 (hb : bg g la K R M) (hg : g < 9990) (hM : RELW la K M) (hL : mn_L i L) (hi : 0 ≤ i ∧ i + 6 ≤ (LX : Int)) (hLX : LX ≤ 3072) (hX : ∀ j, gm_ir (X j)) (hbc : 12 ≤ bc) (hbs : 1200 ≤ bs) (rest : mn_R X LX bc bs i g Q) : gm_Wp X LX 280 bc bs 369 1550 L [] (245 + 4 * g) K R M Q := by
  obtain ⟨N, lw, A, im, t, w, f, hM⟩ := hM
  refine gm_sz (gm_p_load (pc := 1550) (i := .aload_n 1) (sr := 2) (j := 1) (by decide +kernel) rfl hL.2.2.1 rfl) ?_
  refine mn_arg (pc := 1551) (j := 1) (by decide +kernel) (by decide +kernel) (by decide +kernel) (by decide +kernel) (by decide +kernel) hL hi (by decide) hLX ?_
  refine mn_arg (pc := 1557) (j := 2) (by decide +kernel) (by decide +kernel) (by decide +kernel) (by decide +kernel) (by decide +kernel) hL hi (by decide) hLX ?_
  refine mn_bool (pc := 1563) (by decide +kernel) (by decide +kernel) (by decide +kernel) (by decide +kernel) ?_
  refine gm_sz (gm_p_load (pc := 1571) (i := .aload_n 3) (sr := 2) (j := 3) (by decide +kernel) rfl hL.2.2.2.2.1 rfl) ?_
  refine rq_x (pc := 1572) (ix := 259) (mj := 217) (xs := [X (i + 1), bz (X (i + 2))]) (st := []) (ds := [(-2147483648, 2147483647), (0, 1)]) (r := true) hb (by omega) hM (by decide +kernel) (by decide +kernel) (by decide +kernel) (by decide +kernel) (show 4 = gm_na 217 by decide +kernel) (show 4 ≤ gm_ml 217 by decide +kernel) (Nat.le_of_ble_eq_true rfl) ax_watchman_s al_watchman_s ax_watchman_c al_watchman_c ax_watchman_v al_watchman_v (bc_in1 (mn_w (hX _)) (bc_in1 ⟨bz_0, bz_1⟩ bc_in0)) (List.forall_mem_cons.mpr ⟨hX _, (List.forall_mem_cons.mpr ⟨⟨Int.le_trans (by decide) bz_0, Int.lt_of_le_of_lt bz_1 (by decide)⟩, (fun _ h => nomatch h)⟩)⟩) (by omega) (by omega) ?_
  intro u1 la1 K1 R1 M1 hu1 hb1 hM1
  obtain ⟨y1, rfl⟩ : ∃ y, u1 = some (gm_vi y) := hu1
  show gm_Wp X LX 280 _ _ 369 1575 L [gm_vi y1] (245 + 4 * g) K1 R1 M1 Q
  refine gm_sz (gm_p_stor (pc := 1575) (i := .istore 5) (sr := 0) (j := 5) (by decide +kernel) rfl (by show 5 + 0 < L.length; have := hL.1; omega) rfl) ?_
  have hL5 := mn_L_s (y := y1) hL (j := 5) (Or.inl rfl)
  have l55 := mn_l5 (y := y1) hL
  generalize gm_lst L 5 (gm_vi y1) = L5 at hL5 l55 ⊢
  refine gm_sz (gm_p_load (pc := 1577) (i := .aload_n 2) (sr := 2) (j := 2) (by decide +kernel) rfl hL5.2.2.2.1 rfl) ?_
  refine mn_arg (pc := 1578) (j := 1) (by decide +kernel) (by decide +kernel) (by decide +kernel) (by decide +kernel) (by decide +kernel) hL5 hi (by decide) hLX ?_
  refine mn_arg (pc := 1584) (j := 2) (by decide +kernel) (by decide +kernel) (by decide +kernel) (by decide +kernel) (by decide +kernel) hL5 hi (by decide) hLX ?_
  refine mn_bool (pc := 1590) (by decide +kernel) (by decide +kernel) (by decide +kernel) (by decide +kernel) ?_
  refine rq_m (pc := 1598) (ix := 261) (mj := 359) (xs := [X (i + 1), bz (X (i + 2))]) (st := []) (ds := [(-2147483648, 2147483647), (0, 1)]) (r := true) hb1 (by omega) hM1 (by decide +kernel) (by decide +kernel) (by decide +kernel) (by decide +kernel) (show 2 = gm_na 359 by decide +kernel) (show 3 ≤ gm_ml 359 by decide +kernel) (Nat.le_of_ble_eq_true rfl) am_watchman_s am_watchman_c am_watchman_v (bc_in1 (mn_w (hX _)) (bc_in1 ⟨bz_0, bz_1⟩ bc_in0)) (List.forall_mem_cons.mpr ⟨hX _, (List.forall_mem_cons.mpr ⟨⟨Int.le_trans (by decide) bz_0, Int.lt_of_le_of_lt bz_1 (by decide)⟩, (fun _ h => nomatch h)⟩)⟩) (by omega) (by omega) ?_
  intro u2 la2 K2 R2 M2 hu2 hb2 hM2
  obtain ⟨y2, rfl⟩ : ∃ y, u2 = some (gm_vi y) := hu2
  show gm_Wp X LX 280 _ _ 369 1601 L5 [gm_vi y2] (245 + 4 * g) K2 R2 M2 Q
  refine gm_sz (gm_p_stor (pc := 1601) (i := .istore 6) (sr := 0) (j := 6) (by decide +kernel) rfl (by show 6 + 0 < L5.length; have := hL5.1; omega) rfl) ?_
  have hL6 := mn_L_s (y := y2) hL5 (j := 6) (Or.inr rfl)
  have l66 := mn_l6 (y := y2) hL5
  have l65 := mn_l65 (y := y2) l55
  generalize gm_lst L5 6 (gm_vi y2) = L6 at hL6 l66 l65 ⊢
  refine gm_sz (gm_p_goto (pc := 1603) (off := 362) (by decide +kernel) (by decide)) ?_
  exact gm_Wp_wk (Nat.le_refl _) (by omega) (by omega) (rest g _ _ _ _ L6 hb2 (by omega) ⟨_, _, _, _, _, _, _, hM2⟩ hL6)
theorem mc_35 (hb : bg g la K R M) (hg : g < 9990) (hM : RELW la K M) (hL : mn_L i L) (hi : 0 ≤ i ∧ i + 6 ≤ (LX : Int)) (hLX : LX ≤ 3072) (hX : ∀ j, gm_ir (X j)) (hbc : 12 ≤ bc) (hbs : 1200 ≤ bs) (rest : mn_R X LX bc bs i g Q) : gm_Wp X LX 280 bc bs 369 1606 L [] (245 + 4 * g) K R M Q := by
  obtain ⟨N, lw, A, im, t, w, f, hM⟩ := hM
  refine gm_sz (gm_p_load (pc := 1606) (i := .aload_n 1) (sr := 2) (j := 1) (by decide +kernel) rfl hL.2.2.1 rfl) ?_
  refine mn_arg (pc := 1607) (j := 1) (by decide +kernel) (by decide +kernel) (by decide +kernel) (by decide +kernel) (by decide +kernel) hL hi (by decide) hLX ?_
  refine mn_arg (pc := 1613) (j := 2) (by decide +kernel) (by decide +kernel) (by decide +kernel) (by decide +kernel) (by decide +kernel) hL hi (by decide) hLX ?_
  refine gm_sz (gm_p_load (pc := 1619) (i := .aload_n 3) (sr := 2) (j := 3) (by decide +kernel) rfl hL.2.2.2.2.1 rfl) ?_
  refine rq_x (pc := 1620) (ix := 262) (mj := 220) (xs := [X (i + 1), X (i + 2)]) (st := []) (ds := [(-2147483648, 2147483647), (-2147483648, 2147483647)]) (r := true) hb (by omega) hM (by decide +kernel) (by decide +kernel) (by decide +kernel) (by decide +kernel) (show 4 = gm_na 220 by decide +kernel) (show 4 ≤ gm_ml 220 by decide +kernel) (Nat.le_of_ble_eq_true rfl) ax_meeting_s al_meeting_s ax_meeting_c al_meeting_c ax_meeting_v al_meeting_v (bc_in1 (mn_w (hX _)) (bc_in1 (mn_w (hX _)) bc_in0)) (List.forall_mem_cons.mpr ⟨hX _, (List.forall_mem_cons.mpr ⟨hX _, (fun _ h => nomatch h)⟩)⟩) (by omega) (by omega) ?_
  intro u1 la1 K1 R1 M1 hu1 hb1 hM1
  obtain ⟨y1, rfl⟩ : ∃ y, u1 = some (gm_vi y) := hu1
  show gm_Wp X LX 280 _ _ 369 1623 L [gm_vi y1] (245 + 4 * g) K1 R1 M1 Q
  refine gm_sz (gm_p_stor (pc := 1623) (i := .istore 5) (sr := 0) (j := 5) (by decide +kernel) rfl (by show 5 + 0 < L.length; have := hL.1; omega) rfl) ?_
  have hL5 := mn_L_s (y := y1) hL (j := 5) (Or.inl rfl)
  have l55 := mn_l5 (y := y1) hL
  generalize gm_lst L 5 (gm_vi y1) = L5 at hL5 l55 ⊢
  refine gm_sz (gm_p_load (pc := 1625) (i := .aload_n 2) (sr := 2) (j := 2) (by decide +kernel) rfl hL5.2.2.2.1 rfl) ?_
  refine mn_arg (pc := 1626) (j := 1) (by decide +kernel) (by decide +kernel) (by decide +kernel) (by decide +kernel) (by decide +kernel) hL5 hi (by decide) hLX ?_
  refine mn_arg (pc := 1632) (j := 2) (by decide +kernel) (by decide +kernel) (by decide +kernel) (by decide +kernel) (by decide +kernel) hL5 hi (by decide) hLX ?_
  refine rq_m (pc := 1638) (ix := 264) (mj := 360) (xs := [X (i + 1), X (i + 2)]) (st := []) (ds := [(-2147483648, 2147483647), (-2147483648, 2147483647)]) (r := true) hb1 (by omega) hM1 (by decide +kernel) (by decide +kernel) (by decide +kernel) (by decide +kernel) (show 2 = gm_na 360 by decide +kernel) (show 3 ≤ gm_ml 360 by decide +kernel) (Nat.le_of_ble_eq_true rfl) am_meeting_s am_meeting_c am_meeting_v (bc_in1 (mn_w (hX _)) (bc_in1 (mn_w (hX _)) bc_in0)) (List.forall_mem_cons.mpr ⟨hX _, (List.forall_mem_cons.mpr ⟨hX _, (fun _ h => nomatch h)⟩)⟩) (by omega) (by omega) ?_
  intro u2 la2 K2 R2 M2 hu2 hb2 hM2
  obtain ⟨y2, rfl⟩ : ∃ y, u2 = some (gm_vi y) := hu2
  show gm_Wp X LX 280 _ _ 369 1641 L5 [gm_vi y2] (245 + 4 * g) K2 R2 M2 Q
  refine gm_sz (gm_p_stor (pc := 1641) (i := .istore 6) (sr := 0) (j := 6) (by decide +kernel) rfl (by show 6 + 0 < L5.length; have := hL5.1; omega) rfl) ?_
  have hL6 := mn_L_s (y := y2) hL5 (j := 6) (Or.inr rfl)
  have l66 := mn_l6 (y := y2) hL5
  have l65 := mn_l65 (y := y2) l55
  generalize gm_lst L5 6 (gm_vi y2) = L6 at hL6 l66 l65 ⊢
  refine gm_sz (gm_p_goto (pc := 1643) (off := 322) (by decide +kernel) (by decide)) ?_
  exact gm_Wp_wk (Nat.le_refl _) (by omega) (by omega) (rest g _ _ _ _ L6 hb2 (by omega) ⟨_, _, _, _, _, _, _, hM2⟩ hL6)
theorem mc_36 (hb : bg g la K R M) (hg : g < 9990) (hM : RELW la K M) (hL : mn_L i L) (hi : 0 ≤ i ∧ i + 6 ≤ (LX : Int)) (hLX : LX ≤ 3072) (hX : ∀ j, gm_ir (X j)) (hbc : 12 ≤ bc) (hbs : 1200 ≤ bs) (rest : mn_R X LX bc bs i g Q) : gm_Wp X LX 280 bc bs 369 1646 L [] (245 + 4 * g) K R M Q := by
  obtain ⟨N, lw, A, im, t, w, f, hM⟩ := hM
  refine gm_sz (gm_p_load (pc := 1646) (i := .aload_n 1) (sr := 2) (j := 1) (by decide +kernel) rfl hL.2.2.1 rfl) ?_
  refine mn_arg (pc := 1647) (j := 1) (by decide +kernel) (by decide +kernel) (by decide +kernel) (by decide +kernel) (by decide +kernel) hL hi (by decide) hLX ?_
  refine gm_sz (gm_p_load (pc := 1653) (i := .aload_n 3) (sr := 2) (j := 3) (by decide +kernel) rfl hL.2.2.2.2.1 rfl) ?_
  refine rq_x (pc := 1654) (ix := 265) (mj := 222) (xs := [X (i + 1)]) (st := []) (ds := [(-2147483648, 2147483647)]) (r := true) hb (by omega) hM (by decide +kernel) (by decide +kernel) (by decide +kernel) (by decide +kernel) (show 3 = gm_na 222 by decide +kernel) (show 3 ≤ gm_ml 222 by decide +kernel) (Nat.le_of_ble_eq_true rfl) ax_outs_s al_outs_s ax_outs_c al_outs_c ax_outs_v al_outs_v (bc_in1 (mn_w (hX _)) bc_in0) (List.forall_mem_cons.mpr ⟨hX _, (fun _ h => nomatch h)⟩) (by omega) (by omega) ?_
  intro u1 la1 K1 R1 M1 hu1 hb1 hM1
  obtain ⟨y1, rfl⟩ : ∃ y, u1 = some (gm_vi y) := hu1
  show gm_Wp X LX 280 _ _ 369 1657 L [gm_vi y1] (245 + 4 * g) K1 R1 M1 Q
  refine gm_sz (gm_p_stor (pc := 1657) (i := .istore 5) (sr := 0) (j := 5) (by decide +kernel) rfl (by show 5 + 0 < L.length; have := hL.1; omega) rfl) ?_
  have hL5 := mn_L_s (y := y1) hL (j := 5) (Or.inl rfl)
  have l55 := mn_l5 (y := y1) hL
  generalize gm_lst L 5 (gm_vi y1) = L5 at hL5 l55 ⊢
  refine gm_sz (gm_p_load (pc := 1659) (i := .aload_n 2) (sr := 2) (j := 2) (by decide +kernel) rfl hL5.2.2.2.1 rfl) ?_
  refine mn_arg (pc := 1660) (j := 1) (by decide +kernel) (by decide +kernel) (by decide +kernel) (by decide +kernel) (by decide +kernel) hL5 hi (by decide) hLX ?_
  refine rq_m (pc := 1666) (ix := 267) (mj := 361) (xs := [X (i + 1)]) (st := []) (ds := [(-2147483648, 2147483647)]) (r := true) hb1 (by omega) hM1 (by decide +kernel) (by decide +kernel) (by decide +kernel) (by decide +kernel) (show 1 = gm_na 361 by decide +kernel) (show 2 ≤ gm_ml 361 by decide +kernel) (Nat.le_of_ble_eq_true rfl) am_outs_s am_outs_c am_outs_v (bc_in1 (mn_w (hX _)) bc_in0) (List.forall_mem_cons.mpr ⟨hX _, (fun _ h => nomatch h)⟩) (by omega) (by omega) ?_
  intro u2 la2 K2 R2 M2 hu2 hb2 hM2
  obtain ⟨y2, rfl⟩ : ∃ y, u2 = some (gm_vi y) := hu2
  show gm_Wp X LX 280 _ _ 369 1669 L5 [gm_vi y2] (245 + 4 * g) K2 R2 M2 Q
  refine gm_sz (gm_p_stor (pc := 1669) (i := .istore 6) (sr := 0) (j := 6) (by decide +kernel) rfl (by show 6 + 0 < L5.length; have := hL5.1; omega) rfl) ?_
  have hL6 := mn_L_s (y := y2) hL5 (j := 6) (Or.inr rfl)
  have l66 := mn_l6 (y := y2) hL5
  have l65 := mn_l65 (y := y2) l55
  generalize gm_lst L5 6 (gm_vi y2) = L6 at hL6 l66 l65 ⊢
  refine gm_sz (gm_p_goto (pc := 1671) (off := 294) (by decide +kernel) (by decide)) ?_
  exact gm_Wp_wk (Nat.le_refl _) (by omega) (by omega) (rest g _ _ _ _ L6 hb2 (by omega) ⟨_, _, _, _, _, _, _, hM2⟩ hL6)
theorem mc_37 (hb : bg g la K R M) (hg : g < 9990) (hM : RELW la K M) (hL : mn_L i L) (hi : 0 ≤ i ∧ i + 6 ≤ (LX : Int)) (hLX : LX ≤ 3072) (hX : ∀ j, gm_ir (X j)) (hbc : 12 ≤ bc) (hbs : 1200 ≤ bs) (rest : mn_R X LX bc bs i g Q) : gm_Wp X LX 280 bc bs 369 1674 L [] (245 + 4 * g) K R M Q := by
  obtain ⟨N, lw, A, im, t, w, f, hM⟩ := hM
  refine gm_sz (gm_p_load (pc := 1674) (i := .aload_n 1) (sr := 2) (j := 1) (by decide +kernel) rfl hL.2.2.1 rfl) ?_
  refine mn_arg (pc := 1675) (j := 1) (by decide +kernel) (by decide +kernel) (by decide +kernel) (by decide +kernel) (by decide +kernel) hL hi (by decide) hLX ?_
  refine rq_d (pc := 1681) (ix := 268) (mj := 52) (xs := [X (i + 1)]) (st := []) (ds := [(-2147483648, 2147483647)]) (r := true) hb (by omega) hM (by decide +kernel) (by decide +kernel) (by decide +kernel) (by decide +kernel) (show 1 = gm_na 52 by decide +kernel) (show 2 ≤ gm_ml 52 by decide +kernel) (Nat.le_of_ble_eq_true rfl) ax_order_s al_order_s ax_order_c al_order_c ax_order_v al_order_v (bc_in1 (mn_w (hX _)) bc_in0) (List.forall_mem_cons.mpr ⟨hX _, (fun _ h => nomatch h)⟩) (by omega) (by omega) ?_
  intro u1 la1 K1 R1 M1 hu1 hb1 hM1
  obtain ⟨y1, rfl⟩ : ∃ y, u1 = some (gm_vi y) := hu1
  show gm_Wp X LX 280 _ _ 369 1684 L [gm_vi y1] (245 + 4 * g) K1 R1 M1 Q
  refine gm_sz (gm_p_pop (pc := 1684) (by decide +kernel) (by simp [gm_sort])) ?_
  refine gm_sz (gm_p_load (pc := 1685) (i := .aload_n 2) (sr := 2) (j := 2) (by decide +kernel) rfl hL.2.2.2.1 rfl) ?_
  refine mn_arg (pc := 1686) (j := 1) (by decide +kernel) (by decide +kernel) (by decide +kernel) (by decide +kernel) (by decide +kernel) hL hi (by decide) hLX ?_
  refine rq_m (pc := 1692) (ix := 271) (mj := 362) (xs := [X (i + 1)]) (st := []) (ds := [(-2147483648, 2147483647)]) (r := true) hb1 (by omega) hM1 (by decide +kernel) (by decide +kernel) (by decide +kernel) (by decide +kernel) (show 1 = gm_na 362 by decide +kernel) (show 2 ≤ gm_ml 362 by decide +kernel) (Nat.le_of_ble_eq_true rfl) am_order_s am_order_c am_order_v (bc_in1 (mn_w (hX _)) bc_in0) (List.forall_mem_cons.mpr ⟨hX _, (fun _ h => nomatch h)⟩) (by omega) (by omega) ?_
  intro u2 la2 K2 R2 M2 hu2 hb2 hM2
  obtain ⟨y2, rfl⟩ : ∃ y, u2 = some (gm_vi y) := hu2
  show gm_Wp X LX 280 _ _ 369 1695 L [gm_vi y2] (245 + 4 * g) K2 R2 M2 Q
  refine gm_sz (gm_p_pop (pc := 1695) (by decide +kernel) (by simp [gm_sort])) ?_
  refine gm_sz (gm_p_goto (pc := 1696) (off := 269) (by decide +kernel) (by decide)) ?_
  exact gm_Wp_wk (Nat.le_refl _) (by omega) (by omega) (rest g _ _ _ _ L hb2 (by omega) ⟨_, _, _, _, _, _, _, hM2⟩ hL)
theorem mc_38 (hb : bg g la K R M) (hg : g < 9990) (hM : RELW la K M) (hL : mn_L i L) (hi : 0 ≤ i ∧ i + 6 ≤ (LX : Int)) (hLX : LX ≤ 3072) (hX : ∀ j, gm_ir (X j)) (hbc : 12 ≤ bc) (hbs : 1200 ≤ bs) (rest : mn_R X LX bc bs i g Q) : gm_Wp X LX 280 bc bs 369 1699 L [] (245 + 4 * g) K R M Q := by
  obtain ⟨N, lw, A, im, t, w, f, hM⟩ := hM
  refine gm_sz (gm_p_load (pc := 1699) (i := .aload_n 1) (sr := 2) (j := 1) (by decide +kernel) rfl hL.2.2.1 rfl) ?_
  refine mn_arg (pc := 1700) (j := 1) (by decide +kernel) (by decide +kernel) (by decide +kernel) (by decide +kernel) (by decide +kernel) hL hi (by decide) hLX ?_
  refine mn_arg (pc := 1706) (j := 2) (by decide +kernel) (by decide +kernel) (by decide +kernel) (by decide +kernel) (by decide +kernel) hL hi (by decide) hLX ?_
  refine mn_bool (pc := 1712) (by decide +kernel) (by decide +kernel) (by decide +kernel) (by decide +kernel) ?_
  refine gm_sz (gm_p_load (pc := 1720) (i := .aload_n 3) (sr := 2) (j := 3) (by decide +kernel) rfl hL.2.2.2.2.1 rfl) ?_
  refine rq_x (pc := 1721) (ix := 272) (mj := 224) (xs := [X (i + 1), bz (X (i + 2))]) (st := []) (ds := [(-2147483648, 2147483647), (0, 1)]) (r := true) hb (by omega) hM (by decide +kernel) (by decide +kernel) (by decide +kernel) (by decide +kernel) (show 4 = gm_na 224 by decide +kernel) (show 4 ≤ gm_ml 224 by decide +kernel) (Nat.le_of_ble_eq_true rfl) ax_streams_s al_streams_s ax_streams_c al_streams_c ax_streams_v al_streams_v (bc_in1 (mn_w (hX _)) (bc_in1 ⟨bz_0, bz_1⟩ bc_in0)) (List.forall_mem_cons.mpr ⟨hX _, (List.forall_mem_cons.mpr ⟨⟨Int.le_trans (by decide) bz_0, Int.lt_of_le_of_lt bz_1 (by decide)⟩, (fun _ h => nomatch h)⟩)⟩) (by omega) (by omega) ?_
  intro u1 la1 K1 R1 M1 hu1 hb1 hM1
  obtain ⟨y1, rfl⟩ : ∃ y, u1 = some (gm_vi y) := hu1
  show gm_Wp X LX 280 _ _ 369 1724 L [gm_vi y1] (245 + 4 * g) K1 R1 M1 Q
  refine gm_sz (gm_p_stor (pc := 1724) (i := .istore 5) (sr := 0) (j := 5) (by decide +kernel) rfl (by show 5 + 0 < L.length; have := hL.1; omega) rfl) ?_
  have hL5 := mn_L_s (y := y1) hL (j := 5) (Or.inl rfl)
  have l55 := mn_l5 (y := y1) hL
  generalize gm_lst L 5 (gm_vi y1) = L5 at hL5 l55 ⊢
  refine gm_sz (gm_p_load (pc := 1726) (i := .aload_n 2) (sr := 2) (j := 2) (by decide +kernel) rfl hL5.2.2.2.1 rfl) ?_
  refine mn_arg (pc := 1727) (j := 1) (by decide +kernel) (by decide +kernel) (by decide +kernel) (by decide +kernel) (by decide +kernel) hL5 hi (by decide) hLX ?_
  refine mn_arg (pc := 1733) (j := 2) (by decide +kernel) (by decide +kernel) (by decide +kernel) (by decide +kernel) (by decide +kernel) hL5 hi (by decide) hLX ?_
  refine mn_bool (pc := 1739) (by decide +kernel) (by decide +kernel) (by decide +kernel) (by decide +kernel) ?_
  refine rq_m (pc := 1747) (ix := 274) (mj := 363) (xs := [X (i + 1), bz (X (i + 2))]) (st := []) (ds := [(-2147483648, 2147483647), (0, 1)]) (r := true) hb1 (by omega) hM1 (by decide +kernel) (by decide +kernel) (by decide +kernel) (by decide +kernel) (show 2 = gm_na 363 by decide +kernel) (show 3 ≤ gm_ml 363 by decide +kernel) (Nat.le_of_ble_eq_true rfl) am_streams_s am_streams_c am_streams_v (bc_in1 (mn_w (hX _)) (bc_in1 ⟨bz_0, bz_1⟩ bc_in0)) (List.forall_mem_cons.mpr ⟨hX _, (List.forall_mem_cons.mpr ⟨⟨Int.le_trans (by decide) bz_0, Int.lt_of_le_of_lt bz_1 (by decide)⟩, (fun _ h => nomatch h)⟩)⟩) (by omega) (by omega) ?_
  intro u2 la2 K2 R2 M2 hu2 hb2 hM2
  obtain ⟨y2, rfl⟩ : ∃ y, u2 = some (gm_vi y) := hu2
  show gm_Wp X LX 280 _ _ 369 1750 L5 [gm_vi y2] (245 + 4 * g) K2 R2 M2 Q
  refine gm_sz (gm_p_stor (pc := 1750) (i := .istore 6) (sr := 0) (j := 6) (by decide +kernel) rfl (by show 6 + 0 < L5.length; have := hL5.1; omega) rfl) ?_
  have hL6 := mn_L_s (y := y2) hL5 (j := 6) (Or.inr rfl)
  have l66 := mn_l6 (y := y2) hL5
  have l65 := mn_l65 (y := y2) l55
  generalize gm_lst L5 6 (gm_vi y2) = L6 at hL6 l66 l65 ⊢
  refine gm_sz (gm_p_goto (pc := 1752) (off := 213) (by decide +kernel) (by decide)) ?_
  exact gm_Wp_wk (Nat.le_refl _) (by omega) (by omega) (rest g _ _ _ _ L6 hb2 (by omega) ⟨_, _, _, _, _, _, _, hM2⟩ hL6)
theorem mc_39 (hb : bg g la K R M) (hg : g < 9990) (hM : RELW la K M) (hL : mn_L i L) (hi : 0 ≤ i ∧ i + 6 ≤ (LX : Int)) (hLX : LX ≤ 3072) (hX : ∀ j, gm_ir (X j)) (hbc : 12 ≤ bc) (hbs : 1200 ≤ bs) (rest : mn_R X LX bc bs i g Q) : gm_Wp X LX 280 bc bs 369 1755 L [] (245 + 4 * g) K R M Q := by
  obtain ⟨N, lw, A, im, t, w, f, hM⟩ := hM
  refine gm_sz (gm_p_load (pc := 1755) (i := .aload_n 1) (sr := 2) (j := 1) (by decide +kernel) rfl hL.2.2.1 rfl) ?_
  refine mn_arg (pc := 1756) (j := 1) (by decide +kernel) (by decide +kernel) (by decide +kernel) (by decide +kernel) (by decide +kernel) hL hi (by decide) hLX ?_
  refine mn_arg (pc := 1762) (j := 2) (by decide +kernel) (by decide +kernel) (by decide +kernel) (by decide +kernel) (by decide +kernel) hL hi (by decide) hLX ?_
  refine gm_sz (gm_p_load (pc := 1768) (i := .aload_n 3) (sr := 2) (j := 3) (by decide +kernel) rfl hL.2.2.2.2.1 rfl) ?_
  refine rq_x (pc := 1769) (ix := 275) (mj := 226) (xs := [X (i + 1), X (i + 2)]) (st := []) (ds := [(-2147483648, 2147483647), (-2147483648, 2147483647)]) (r := true) hb (by omega) hM (by decide +kernel) (by decide +kernel) (by decide +kernel) (by decide +kernel) (show 4 = gm_na 226 by decide +kernel) (show 4 ≤ gm_ml 226 by decide +kernel) (Nat.le_of_ble_eq_true rfl) ax_range_s al_range_s ax_range_c al_range_c ax_range_v al_range_v (bc_in1 (mn_w (hX _)) (bc_in1 (mn_w (hX _)) bc_in0)) (List.forall_mem_cons.mpr ⟨hX _, (List.forall_mem_cons.mpr ⟨hX _, (fun _ h => nomatch h)⟩)⟩) (by omega) (by omega) ?_
  intro u1 la1 K1 R1 M1 hu1 hb1 hM1
  obtain ⟨y1, rfl⟩ : ∃ y, u1 = some (gm_vi y) := hu1
  show gm_Wp X LX 280 _ _ 369 1772 L [gm_vi y1] (245 + 4 * g) K1 R1 M1 Q
  refine gm_sz (gm_p_stor (pc := 1772) (i := .istore 5) (sr := 0) (j := 5) (by decide +kernel) rfl (by show 5 + 0 < L.length; have := hL.1; omega) rfl) ?_
  have hL5 := mn_L_s (y := y1) hL (j := 5) (Or.inl rfl)
  have l55 := mn_l5 (y := y1) hL
  generalize gm_lst L 5 (gm_vi y1) = L5 at hL5 l55 ⊢
  refine gm_sz (gm_p_load (pc := 1774) (i := .aload_n 2) (sr := 2) (j := 2) (by decide +kernel) rfl hL5.2.2.2.1 rfl) ?_
  refine mn_arg (pc := 1775) (j := 1) (by decide +kernel) (by decide +kernel) (by decide +kernel) (by decide +kernel) (by decide +kernel) hL5 hi (by decide) hLX ?_
  refine mn_arg (pc := 1781) (j := 2) (by decide +kernel) (by decide +kernel) (by decide +kernel) (by decide +kernel) (by decide +kernel) hL5 hi (by decide) hLX ?_
  refine rq_m (pc := 1787) (ix := 277) (mj := 364) (xs := [X (i + 1), X (i + 2)]) (st := []) (ds := [(-2147483648, 2147483647), (-2147483648, 2147483647)]) (r := true) hb1 (by omega) hM1 (by decide +kernel) (by decide +kernel) (by decide +kernel) (by decide +kernel) (show 2 = gm_na 364 by decide +kernel) (show 3 ≤ gm_ml 364 by decide +kernel) (Nat.le_of_ble_eq_true rfl) am_range_s am_range_c am_range_v (bc_in1 (mn_w (hX _)) (bc_in1 (mn_w (hX _)) bc_in0)) (List.forall_mem_cons.mpr ⟨hX _, (List.forall_mem_cons.mpr ⟨hX _, (fun _ h => nomatch h)⟩)⟩) (by omega) (by omega) ?_
  intro u2 la2 K2 R2 M2 hu2 hb2 hM2
  obtain ⟨y2, rfl⟩ : ∃ y, u2 = some (gm_vi y) := hu2
  show gm_Wp X LX 280 _ _ 369 1790 L5 [gm_vi y2] (245 + 4 * g) K2 R2 M2 Q
  refine gm_sz (gm_p_stor (pc := 1790) (i := .istore 6) (sr := 0) (j := 6) (by decide +kernel) rfl (by show 6 + 0 < L5.length; have := hL5.1; omega) rfl) ?_
  have hL6 := mn_L_s (y := y2) hL5 (j := 6) (Or.inr rfl)
  have l66 := mn_l6 (y := y2) hL5
  have l65 := mn_l65 (y := y2) l55
  generalize gm_lst L5 6 (gm_vi y2) = L6 at hL6 l66 l65 ⊢
  refine gm_sz (gm_p_goto (pc := 1792) (off := 173) (by decide +kernel) (by decide)) ?_
  exact gm_Wp_wk (Nat.le_refl _) (by omega) (by omega) (rest g _ _ _ _ L6 hb2 (by omega) ⟨_, _, _, _, _, _, _, hM2⟩ hL6)
theorem mc_40 (hb : bg g la K R M) (hg : g < 9990) (hM : RELW la K M) (hL : mn_L i L) (hi : 0 ≤ i ∧ i + 6 ≤ (LX : Int)) (hLX : LX ≤ 3072) (hX : ∀ j, gm_ir (X j)) (hbc : 12 ≤ bc) (hbs : 1200 ≤ bs) (rest : mn_R X LX bc bs i g Q) : gm_Wp X LX 280 bc bs 369 1795 L [] (245 + 4 * g) K R M Q := by
  obtain ⟨N, lw, A, im, t, w, f, hM⟩ := hM
  refine gm_sz (gm_p_load (pc := 1795) (i := .aload_n 1) (sr := 2) (j := 1) (by decide +kernel) rfl hL.2.2.1 rfl) ?_
  refine mn_arg (pc := 1796) (j := 1) (by decide +kernel) (by decide +kernel) (by decide +kernel) (by decide +kernel) (by decide +kernel) hL hi (by decide) hLX ?_
  refine mn_arg (pc := 1802) (j := 2) (by decide +kernel) (by decide +kernel) (by decide +kernel) (by decide +kernel) (by decide +kernel) hL hi (by decide) hLX ?_
  refine gm_sz (gm_p_load (pc := 1808) (i := .aload_n 3) (sr := 2) (j := 3) (by decide +kernel) rfl hL.2.2.2.2.1 rfl) ?_
  refine rq_x (pc := 1809) (ix := 278) (mj := 228) (xs := [X (i + 1), X (i + 2)]) (st := []) (ds := [(-2147483648, 2147483647), (-2147483648, 2147483647)]) (r := true) hb (by omega) hM (by decide +kernel) (by decide +kernel) (by decide +kernel) (by decide +kernel) (show 4 = gm_na 228 by decide +kernel) (show 4 ≤ gm_ml 228 by decide +kernel) (Nat.le_of_ble_eq_true rfl) ax_swiftest_s al_swiftest_s ax_swiftest_c al_swiftest_c ax_swiftest_v al_swiftest_v (bc_in1 (mn_w (hX _)) (bc_in1 (mn_w (hX _)) bc_in0)) (List.forall_mem_cons.mpr ⟨hX _, (List.forall_mem_cons.mpr ⟨hX _, (fun _ h => nomatch h)⟩)⟩) (by omega) (by omega) ?_
  intro u1 la1 K1 R1 M1 hu1 hb1 hM1
  obtain ⟨y1, rfl⟩ : ∃ y, u1 = some (gm_vi y) := hu1
  show gm_Wp X LX 280 _ _ 369 1812 L [gm_vi y1] (245 + 4 * g) K1 R1 M1 Q
  refine gm_sz (gm_p_stor (pc := 1812) (i := .istore 5) (sr := 0) (j := 5) (by decide +kernel) rfl (by show 5 + 0 < L.length; have := hL.1; omega) rfl) ?_
  have hL5 := mn_L_s (y := y1) hL (j := 5) (Or.inl rfl)
  have l55 := mn_l5 (y := y1) hL
  generalize gm_lst L 5 (gm_vi y1) = L5 at hL5 l55 ⊢
  refine gm_sz (gm_p_load (pc := 1814) (i := .aload_n 2) (sr := 2) (j := 2) (by decide +kernel) rfl hL5.2.2.2.1 rfl) ?_
  refine mn_arg (pc := 1815) (j := 1) (by decide +kernel) (by decide +kernel) (by decide +kernel) (by decide +kernel) (by decide +kernel) hL5 hi (by decide) hLX ?_
  refine mn_arg (pc := 1821) (j := 2) (by decide +kernel) (by decide +kernel) (by decide +kernel) (by decide +kernel) (by decide +kernel) hL5 hi (by decide) hLX ?_
  refine rq_m (pc := 1827) (ix := 280) (mj := 365) (xs := [X (i + 1), X (i + 2)]) (st := []) (ds := [(-2147483648, 2147483647), (-2147483648, 2147483647)]) (r := true) hb1 (by omega) hM1 (by decide +kernel) (by decide +kernel) (by decide +kernel) (by decide +kernel) (show 2 = gm_na 365 by decide +kernel) (show 3 ≤ gm_ml 365 by decide +kernel) (Nat.le_of_ble_eq_true rfl) am_swiftest_s am_swiftest_c am_swiftest_v (bc_in1 (mn_w (hX _)) (bc_in1 (mn_w (hX _)) bc_in0)) (List.forall_mem_cons.mpr ⟨hX _, (List.forall_mem_cons.mpr ⟨hX _, (fun _ h => nomatch h)⟩)⟩) (by omega) (by omega) ?_
  intro u2 la2 K2 R2 M2 hu2 hb2 hM2
  obtain ⟨y2, rfl⟩ : ∃ y, u2 = some (gm_vi y) := hu2
  show gm_Wp X LX 280 _ _ 369 1830 L5 [gm_vi y2] (245 + 4 * g) K2 R2 M2 Q
  refine gm_sz (gm_p_stor (pc := 1830) (i := .istore 6) (sr := 0) (j := 6) (by decide +kernel) rfl (by show 6 + 0 < L5.length; have := hL5.1; omega) rfl) ?_
  have hL6 := mn_L_s (y := y2) hL5 (j := 6) (Or.inr rfl)
  have l66 := mn_l6 (y := y2) hL5
  have l65 := mn_l65 (y := y2) l55
  generalize gm_lst L5 6 (gm_vi y2) = L6 at hL6 l66 l65 ⊢
  refine gm_sz (gm_p_goto (pc := 1832) (off := 133) (by decide +kernel) (by decide)) ?_
  exact gm_Wp_wk (Nat.le_refl _) (by omega) (by omega) (rest g _ _ _ _ L6 hb2 (by omega) ⟨_, _, _, _, _, _, _, hM2⟩ hL6)
theorem mc_41 (hb : bg g la K R M) (hg : g < 9990) (hM : RELW la K M) (hL : mn_L i L) (hi : 0 ≤ i ∧ i + 6 ≤ (LX : Int)) (hLX : LX ≤ 3072) (hX : ∀ j, gm_ir (X j)) (hbc : 12 ≤ bc) (hbs : 1200 ≤ bs) (rest : mn_R X LX bc bs i g Q) : gm_Wp X LX 280 bc bs 369 1835 L [] (245 + 4 * g) K R M Q := by
  obtain ⟨N, lw, A, im, t, w, f, hM⟩ := hM
  refine gm_sz (gm_p_load (pc := 1835) (i := .aload_n 1) (sr := 2) (j := 1) (by decide +kernel) rfl hL.2.2.1 rfl) ?_
  refine mn_arg (pc := 1836) (j := 1) (by decide +kernel) (by decide +kernel) (by decide +kernel) (by decide +kernel) (by decide +kernel) hL hi (by decide) hLX ?_
  refine gm_sz (gm_p_load (pc := 1842) (i := .aload_n 3) (sr := 2) (j := 3) (by decide +kernel) rfl hL.2.2.2.2.1 rfl) ?_
  refine rq_x (pc := 1843) (ix := 281) (mj := 230) (xs := [X (i + 1)]) (st := []) (ds := [(-2147483648, 2147483647)]) (r := true) hb (by omega) hM (by decide +kernel) (by decide +kernel) (by decide +kernel) (by decide +kernel) (show 3 = gm_na 230 by decide +kernel) (show 3 ≤ gm_ml 230 by decide +kernel) (Nat.le_of_ble_eq_true rfl) ax_bare_s al_bare_s ax_bare_c al_bare_c ax_bare_v al_bare_v (bc_in1 (mn_w (hX _)) bc_in0) (List.forall_mem_cons.mpr ⟨hX _, (fun _ h => nomatch h)⟩) (by omega) (by omega) ?_
  intro u1 la1 K1 R1 M1 hu1 hb1 hM1
  obtain ⟨y1, rfl⟩ : ∃ y, u1 = some (gm_vi y) := hu1
  show gm_Wp X LX 280 _ _ 369 1846 L [gm_vi y1] (245 + 4 * g) K1 R1 M1 Q
  refine gm_sz (gm_p_stor (pc := 1846) (i := .istore 5) (sr := 0) (j := 5) (by decide +kernel) rfl (by show 5 + 0 < L.length; have := hL.1; omega) rfl) ?_
  have hL5 := mn_L_s (y := y1) hL (j := 5) (Or.inl rfl)
  have l55 := mn_l5 (y := y1) hL
  generalize gm_lst L 5 (gm_vi y1) = L5 at hL5 l55 ⊢
  refine gm_sz (gm_p_load (pc := 1848) (i := .aload_n 2) (sr := 2) (j := 2) (by decide +kernel) rfl hL5.2.2.2.1 rfl) ?_
  refine mn_arg (pc := 1849) (j := 1) (by decide +kernel) (by decide +kernel) (by decide +kernel) (by decide +kernel) (by decide +kernel) hL5 hi (by decide) hLX ?_
  refine rq_m (pc := 1855) (ix := 283) (mj := 366) (xs := [X (i + 1)]) (st := []) (ds := [(-2147483648, 2147483647)]) (r := true) hb1 (by omega) hM1 (by decide +kernel) (by decide +kernel) (by decide +kernel) (by decide +kernel) (show 1 = gm_na 366 by decide +kernel) (show 2 ≤ gm_ml 366 by decide +kernel) (Nat.le_of_ble_eq_true rfl) am_bare_s am_bare_c am_bare_v (bc_in1 (mn_w (hX _)) bc_in0) (List.forall_mem_cons.mpr ⟨hX _, (fun _ h => nomatch h)⟩) (by omega) (by omega) ?_
  intro u2 la2 K2 R2 M2 hu2 hb2 hM2
  obtain ⟨y2, rfl⟩ : ∃ y, u2 = some (gm_vi y) := hu2
  show gm_Wp X LX 280 _ _ 369 1858 L5 [gm_vi y2] (245 + 4 * g) K2 R2 M2 Q
  refine gm_sz (gm_p_stor (pc := 1858) (i := .istore 6) (sr := 0) (j := 6) (by decide +kernel) rfl (by show 6 + 0 < L5.length; have := hL5.1; omega) rfl) ?_
  have hL6 := mn_L_s (y := y2) hL5 (j := 6) (Or.inr rfl)
  have l66 := mn_l6 (y := y2) hL5
  have l65 := mn_l65 (y := y2) l55
  generalize gm_lst L5 6 (gm_vi y2) = L6 at hL6 l66 l65 ⊢
  refine gm_sz (gm_p_goto (pc := 1860) (off := 105) (by decide +kernel) (by decide)) ?_
  exact gm_Wp_wk (Nat.le_refl _) (by omega) (by omega) (rest g _ _ _ _ L6 hb2 (by omega) ⟨_, _, _, _, _, _, _, hM2⟩ hL6)
theorem mc_42 (hb : bg g la K R M) (hg : g < 9990) (hM : RELW la K M) (hL : mn_L i L) (hi : 0 ≤ i ∧ i + 6 ≤ (LX : Int)) (hLX : LX ≤ 3072) (hX : ∀ j, gm_ir (X j)) (hbc : 12 ≤ bc) (hbs : 1200 ≤ bs) (rest : mn_R X LX bc bs i g Q) : gm_Wp X LX 280 bc bs 369 1863 L [] (245 + 4 * g) K R M Q := by
  obtain ⟨N, lw, A, im, t, w, f, hM⟩ := hM
  refine gm_sz (gm_p_load (pc := 1863) (i := .aload_n 1) (sr := 2) (j := 1) (by decide +kernel) rfl hL.2.2.1 rfl) ?_
  refine mn_arg (pc := 1864) (j := 1) (by decide +kernel) (by decide +kernel) (by decide +kernel) (by decide +kernel) (by decide +kernel) hL hi (by decide) hLX ?_
  refine mn_arg (pc := 1870) (j := 2) (by decide +kernel) (by decide +kernel) (by decide +kernel) (by decide +kernel) (by decide +kernel) hL hi (by decide) hLX ?_
  refine gm_sz (gm_p_load (pc := 1876) (i := .aload_n 3) (sr := 2) (j := 3) (by decide +kernel) rfl hL.2.2.2.2.1 rfl) ?_
  refine rq_x (pc := 1877) (ix := 284) (mj := 232) (xs := [X (i + 1), X (i + 2)]) (st := []) (ds := [(-2147483648, 2147483647), (-2147483648, 2147483647)]) (r := true) hb (by omega) hM (by decide +kernel) (by decide +kernel) (by decide +kernel) (by decide +kernel) (show 4 = gm_na 232 by decide +kernel) (show 4 ≤ gm_ml 232 by decide +kernel) (Nat.le_of_ble_eq_true rfl) ax_log_s al_log_s ax_log_c al_log_c ax_log_v al_log_v (bc_in1 (mn_w (hX _)) (bc_in1 (mn_w (hX _)) bc_in0)) (List.forall_mem_cons.mpr ⟨hX _, (List.forall_mem_cons.mpr ⟨hX _, (fun _ h => nomatch h)⟩)⟩) (by omega) (by omega) ?_
  intro u1 la1 K1 R1 M1 hu1 hb1 hM1
  obtain ⟨y1, rfl⟩ : ∃ y, u1 = some (gm_vi y) := hu1
  show gm_Wp X LX 280 _ _ 369 1880 L [gm_vi y1] (245 + 4 * g) K1 R1 M1 Q
  refine gm_sz (gm_p_stor (pc := 1880) (i := .istore 5) (sr := 0) (j := 5) (by decide +kernel) rfl (by show 5 + 0 < L.length; have := hL.1; omega) rfl) ?_
  have hL5 := mn_L_s (y := y1) hL (j := 5) (Or.inl rfl)
  have l55 := mn_l5 (y := y1) hL
  generalize gm_lst L 5 (gm_vi y1) = L5 at hL5 l55 ⊢
  refine gm_sz (gm_p_load (pc := 1882) (i := .aload_n 2) (sr := 2) (j := 2) (by decide +kernel) rfl hL5.2.2.2.1 rfl) ?_
  refine mn_arg (pc := 1883) (j := 1) (by decide +kernel) (by decide +kernel) (by decide +kernel) (by decide +kernel) (by decide +kernel) hL5 hi (by decide) hLX ?_
  refine mn_arg (pc := 1889) (j := 2) (by decide +kernel) (by decide +kernel) (by decide +kernel) (by decide +kernel) (by decide +kernel) hL5 hi (by decide) hLX ?_
  refine rq_m (pc := 1895) (ix := 286) (mj := 367) (xs := [X (i + 1), X (i + 2)]) (st := []) (ds := [(-2147483648, 2147483647), (-2147483648, 2147483647)]) (r := true) hb1 (by omega) hM1 (by decide +kernel) (by decide +kernel) (by decide +kernel) (by decide +kernel) (show 2 = gm_na 367 by decide +kernel) (show 3 ≤ gm_ml 367 by decide +kernel) (Nat.le_of_ble_eq_true rfl) am_log_s am_log_c am_log_v (bc_in1 (mn_w (hX _)) (bc_in1 (mn_w (hX _)) bc_in0)) (List.forall_mem_cons.mpr ⟨hX _, (List.forall_mem_cons.mpr ⟨hX _, (fun _ h => nomatch h)⟩)⟩) (by omega) (by omega) ?_
  intro u2 la2 K2 R2 M2 hu2 hb2 hM2
  obtain ⟨y2, rfl⟩ : ∃ y, u2 = some (gm_vi y) := hu2
  show gm_Wp X LX 280 _ _ 369 1898 L5 [gm_vi y2] (245 + 4 * g) K2 R2 M2 Q
  refine gm_sz (gm_p_stor (pc := 1898) (i := .istore 6) (sr := 0) (j := 6) (by decide +kernel) rfl (by show 6 + 0 < L5.length; have := hL5.1; omega) rfl) ?_
  have hL6 := mn_L_s (y := y2) hL5 (j := 6) (Or.inr rfl)
  have l66 := mn_l6 (y := y2) hL5
  have l65 := mn_l65 (y := y2) l55
  generalize gm_lst L5 6 (gm_vi y2) = L6 at hL6 l66 l65 ⊢
  refine gm_sz (gm_p_goto (pc := 1900) (off := 65) (by decide +kernel) (by decide)) ?_
  exact gm_Wp_wk (Nat.le_refl _) (by omega) (by omega) (rest g _ _ _ _ L6 hb2 (by omega) ⟨_, _, _, _, _, _, _, hM2⟩ hL6)
theorem mc_43 (hb : bg g la K R M) (hg : g < 9990) (hM : RELW la K M) (hL : mn_L i L) (hi : 0 ≤ i ∧ i + 6 ≤ (LX : Int)) (hLX : LX ≤ 3072) (hX : ∀ j, gm_ir (X j)) (hbc : 12 ≤ bc) (hbs : 1200 ≤ bs) (rest : mn_R X LX bc bs i g Q) : gm_Wp X LX 280 bc bs 369 1903 L [] (245 + 4 * g) K R M Q := by
  obtain ⟨N, lw, A, im, t, w, f, hM⟩ := hM
  refine gm_sz (gm_p_load (pc := 1903) (i := .aload_n 1) (sr := 2) (j := 1) (by decide +kernel) rfl hL.2.2.1 rfl) ?_
  refine ow_undo (pc := 1904) (ix := 287) (st := []) hb (by omega) hM (by decide +kernel) (by decide +kernel) (Nat.le_of_ble_eq_true rfl) ax_undo_s al_undo_s ax_undo_c al_undo_c ax_undo_v al_undo_v bc_in0 (by omega) (by omega) ?_
  intro la1 K1 R1 M1 hb1 hM1 hv1
  show gm_Wp X LX 280 _ _ 369 1907 L [gm_vi ((ap_undo N A).1)] (245 + 4 * g) K1 R1 M1 Q
  refine gm_sz (gm_p_load (pc := 1907) (i := .aload_n 2) (sr := 2) (j := 2) (by decide +kernel) rfl hL.2.2.2.1 rfl) ?_
  refine om_undo (pc := 1908) (ix := 291) (st := [gm_vi ((ap_undo N A).1)]) hb1 (by omega) hM1 (by decide +kernel) (by decide +kernel) (Nat.le_of_ble_eq_true rfl) am_undo_s am_undo_c am_undo_v bc_in0 (by omega) (by omega) ?_
  intro u2 la2 K2 R2 M2 hu2 hb2 hM2 h245 hth2
  have hu2 : u2 = some (gm_vi (ap_undo N A).1) := hu2
  subst hu2
  show gm_Wp X LX 280 _ _ 369 1911 L [gm_vi ((ap_undo N A).1), gm_vi ((ap_undo N A).1)] (245 + 4 * g) K2 R2 M2 Q
  refine gm_b_ic (cc := .eq) (pc := 1911) (off := 54) (by decide +kernel) (by decide) (fun _ => ?_) (fun hp => absurd (show gm_w ((ap_undo N A).1) = gm_w ((ap_undo N A).1) from rfl) hp)
  show gm_Wp X LX 280 _ _ 369 1965 L [] (245 + 4 * g) _ _ _ Q
  exact gm_Wp_wk (Nat.le_refl _) (by omega) (by omega) (rest g _ _ _ _ L hb2 (by omega) ⟨_, _, _, _, _, _, _, hM2⟩ hL)
theorem mc_44 (hb : bg g la K R M) (hg : g < 9990) (hM : RELW la K M) (hL : mn_L i L) (hi : 0 ≤ i ∧ i + 6 ≤ (LX : Int)) (hLX : LX ≤ 3072) (hX : ∀ j, gm_ir (X j)) (hbc : 12 ≤ bc) (hbs : 1200 ≤ bs) (rest : mn_R X LX bc bs i g Q) : gm_Wp X LX 280 bc bs 369 1916 L [] (245 + 4 * g) K R M Q := by
  obtain ⟨N, lw, A, im, t, w, f, hM⟩ := hM
  refine gm_sz (gm_p_load (pc := 1916) (i := .aload_n 1) (sr := 2) (j := 1) (by decide +kernel) rfl hL.2.2.1 rfl) ?_
  refine ow_image (pc := 1917) (ix := 292) (st := []) hb (by omega) hM (by decide +kernel) (by decide +kernel) (Nat.le_of_ble_eq_true rfl) ax_image_s al_image_s ax_image_c al_image_c ax_image_v al_image_v bc_in0 (by omega) (by omega) ?_
  intro la1 K1 R1 M1 hb1 hM1 hv1
  show gm_Wp X LX 280 _ _ 369 1920 L [] (245 + 4 * g) K1 R1 M1 Q
  refine gm_sz (gm_p_load (pc := 1920) (i := .aload_n 2) (sr := 2) (j := 2) (by decide +kernel) rfl hL.2.2.2.1 rfl) ?_
  refine om_image (pc := 1921) (ix := 295) (st := []) hb1 (by omega) hM1 (by decide +kernel) (by decide +kernel) (Nat.le_of_ble_eq_true rfl) am_image_s am_image_c am_image_v bc_in0 (by omega) (by omega) ?_
  intro u2 la2 K2 R2 M2 hu2 hb2 hM2 h245 hth2
  have hu2 : u2 = none := hu2
  subst hu2
  show gm_Wp X LX 280 _ _ 369 1924 L [] (245 + 4 * g) K2 R2 M2 Q
  refine gm_sz (gm_p_goto (pc := 1924) (off := 41) (by decide +kernel) (by decide)) ?_
  exact gm_Wp_wk (Nat.le_refl _) (by omega) (by omega) (rest g _ _ _ _ L hb2 (by omega) ⟨_, _, _, _, _, _, _, hM2⟩ hL)
theorem mc_45 (hb : bg g la K R M) (hg : g < 9990) (hM : RELW la K M) (hL : mn_L i L) (hi : 0 ≤ i ∧ i + 6 ≤ (LX : Int)) (hLX : LX ≤ 3072) (hX : ∀ j, gm_ir (X j)) (hbc : 12 ≤ bc) (hbs : 1200 ≤ bs) (rest : mn_R X LX bc bs i g Q) : gm_Wp X LX 280 bc bs 369 1927 L [] (245 + 4 * g) K R M Q := by
  obtain ⟨N, lw, A, im, t, w, f, hM⟩ := hM
  refine gm_sz (gm_p_load (pc := 1927) (i := .aload_n 1) (sr := 2) (j := 1) (by decide +kernel) rfl hL.2.2.1 rfl) ?_
  refine ow_back (pc := 1928) (ix := 296) (st := []) hb (by omega) hM (by decide +kernel) (by decide +kernel) (Nat.le_of_ble_eq_true rfl) ax_back_s al_back_s ax_back_c al_back_c ax_back_v al_back_v bc_in0 (by omega) (by omega) ?_
  intro la1 K1 R1 M1 hb1 hM1 hv1
  show gm_Wp X LX 280 _ _ 369 1931 L [gm_vi ((ap_back N lw A im).1)] (245 + 4 * g) K1 R1 M1 Q
  refine gm_sz (gm_p_pop (pc := 1931) (by decide +kernel) (by simp [gm_sort])) ?_
  refine gm_sz (gm_p_load (pc := 1932) (i := .aload_n 2) (sr := 2) (j := 2) (by decide +kernel) rfl hL.2.2.2.1 rfl) ?_
  refine om_back (pc := 1933) (ix := 299) (st := []) hb1 (by omega) hM1 (by decide +kernel) (by decide +kernel) (Nat.le_of_ble_eq_true rfl) am_back_s am_back_c am_back_v bc_in0 (by omega) (by omega) ?_
  intro u2 la2 K2 R2 M2 hu2 hb2 hM2 h245 hth2
  have hu2 : u2 = some (gm_vi (ap_back N lw A im).1) := hu2
  subst hu2
  show gm_Wp X LX 280 _ _ 369 1936 L [gm_vi ((ap_back N lw A im).1)] (245 + 4 * g) K2 R2 M2 Q
  refine gm_sz (gm_p_pop (pc := 1936) (by decide +kernel) (by simp [gm_sort])) ?_
  refine gm_sz (gm_p_goto (pc := 1937) (off := 28) (by decide +kernel) (by decide)) ?_
  exact gm_Wp_wk (Nat.le_refl _) (by omega) (by omega) (rest g _ _ _ _ L hb2 (by omega) ⟨_, _, _, _, _, _, _, hM2⟩ hL)
theorem mc_46 (hb : bg g la K R M) (hg : g < 9990) (hM : RELW la K M) (hL : mn_L i L) (hi : 0 ≤ i ∧ i + 6 ≤ (LX : Int)) (hLX : LX ≤ 3072) (hX : ∀ j, gm_ir (X j)) (hbc : 12 ≤ bc) (hbs : 1200 ≤ bs) (rest : mn_R X LX bc bs i g Q) : gm_Wp X LX 280 bc bs 369 1940 L [] (245 + 4 * g) K R M Q := by
  obtain ⟨N, lw, A, im, t, w, f, hM⟩ := hM
  refine gm_sz (gm_p_load (pc := 1940) (i := .aload_n 1) (sr := 2) (j := 1) (by decide +kernel) rfl hL.2.2.1 rfl) ?_
  refine mn_arg (pc := 1941) (j := 1) (by decide +kernel) (by decide +kernel) (by decide +kernel) (by decide +kernel) (by decide +kernel) hL hi (by decide) hLX ?_
  refine rq_d (pc := 1947) (ix := 300) (mj := 63) (xs := [X (i + 1)]) (st := []) (ds := [(-2147483648, 2147483647)]) (r := true) hb (by omega) hM (by decide +kernel) (by decide +kernel) (by decide +kernel) (by decide +kernel) (show 1 = gm_na 63 by decide +kernel) (show 2 ≤ gm_ml 63 by decide +kernel) (Nat.le_of_ble_eq_true rfl) ax_count_s al_count_s ax_count_c al_count_c ax_count_v al_count_v (bc_in1 (mn_w (hX _)) bc_in0) (List.forall_mem_cons.mpr ⟨hX _, (fun _ h => nomatch h)⟩) (by omega) (by omega) ?_
  intro u1 la1 K1 R1 M1 hu1 hb1 hM1
  obtain ⟨y1, rfl⟩ : ∃ y, u1 = some (gm_vi y) := hu1
  show gm_Wp X LX 280 _ _ 369 1950 L [gm_vi y1] (245 + 4 * g) K1 R1 M1 Q
  refine gm_sz (gm_p_pop (pc := 1950) (by decide +kernel) (by simp [gm_sort])) ?_
  refine gm_sz (gm_p_load (pc := 1951) (i := .aload_n 2) (sr := 2) (j := 2) (by decide +kernel) rfl hL.2.2.2.1 rfl) ?_
  refine mn_arg (pc := 1952) (j := 1) (by decide +kernel) (by decide +kernel) (by decide +kernel) (by decide +kernel) (by decide +kernel) hL hi (by decide) hLX ?_
  refine rq_m (pc := 1958) (ix := 303) (mj := 368) (xs := [X (i + 1)]) (st := []) (ds := [(-2147483648, 2147483647)]) (r := true) hb1 (by omega) hM1 (by decide +kernel) (by decide +kernel) (by decide +kernel) (by decide +kernel) (show 1 = gm_na 368 by decide +kernel) (show 2 ≤ gm_ml 368 by decide +kernel) (Nat.le_of_ble_eq_true rfl) am_count_s am_count_c am_count_v (bc_in1 (mn_w (hX _)) bc_in0) (List.forall_mem_cons.mpr ⟨hX _, (fun _ h => nomatch h)⟩) (by omega) (by omega) ?_
  intro u2 la2 K2 R2 M2 hu2 hb2 hM2
  obtain ⟨y2, rfl⟩ : ∃ y, u2 = some (gm_vi y) := hu2
  show gm_Wp X LX 280 _ _ 369 1961 L [gm_vi y2] (245 + 4 * g) K2 R2 M2 Q
  refine gm_sz (gm_p_pop (pc := 1961) (by decide +kernel) (by simp [gm_sort])) ?_
  refine gm_sz (gm_p_goto (pc := 1962) (off := 3) (by decide +kernel) (by decide)) ?_
  exact gm_Wp_wk (Nat.le_refl _) (by omega) (by omega) (rest g _ _ _ _ L hb2 (by omega) ⟨_, _, _, _, _, _, _, hM2⟩ hL)
end MCC
end
