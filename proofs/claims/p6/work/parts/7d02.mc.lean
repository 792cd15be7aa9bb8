/-! THE LAW'S CASES, on. -/
section MCC
variable {X : Int → Int} {LX g bc bs : Nat} {i : Int} {la : Nat → Nat} {K : gm_K} {R : gm_R} {M : gm_M} {Q : gm_Q} {L : gm_L}
theorem mc_16 (hb : bg g la K R M) (hg : g < 9990) (hM : RELW la K M) (hL : mn_L i L) (hi : 0 ≤ i ∧ i + 6 ≤ (LX : Int)) (hLX : LX ≤ 3072) (hX : ∀ j, gm_ir (X j)) (hbc : 12 ≤ bc) (hbs : 1200 ≤ bs) (rest : mn_R X LX bc bs i g Q) : gm_Wp X LX 280 bc bs 369 803 L [] (245 + 4 * g) K R M Q := by
  obtain ⟨N, lw, A, im, t, w, f, hM⟩ := hM
  refine gm_sz (gm_p_load (pc := 803) (i := .aload_n 1) (sr := 2) (j := 1) (by decide +kernel) rfl hL.2.2.1 rfl) ?_
  refine mn_arg (pc := 804) (j := 1) (by decide +kernel) (by decide +kernel) (by decide +kernel) (by decide +kernel) (by decide +kernel) hL hi (by decide) hLX ?_
  refine mn_arg (pc := 810) (j := 2) (by decide +kernel) (by decide +kernel) (by decide +kernel) (by decide +kernel) (by decide +kernel) hL hi (by decide) hLX ?_
  refine mn_arg (pc := 816) (j := 3) (by decide +kernel) (by decide +kernel) (by decide +kernel) (by decide +kernel) (by decide +kernel) hL hi (by decide) hLX ?_
  refine mn_arg (pc := 822) (j := 4) (by decide +kernel) (by decide +kernel) (by decide +kernel) (by decide +kernel) (by decide +kernel) hL hi (by decide) hLX ?_
  refine gm_sz (gm_p_load (pc := 828) (i := .aload_n 3) (sr := 2) (j := 3) (by decide +kernel) rfl hL.2.2.2.2.1 rfl) ?_
  refine rq_x (pc := 829) (ix := 198) (mj := 166) (xs := [X (i + 1), X (i + 2), X (i + 3), X (i + 4)]) (st := []) (ds := [(-2147483648, 2147483647), (-2147483648, 2147483647), (-2147483648, 2147483647), (-2147483648, 2147483647)]) (r := true) hb (by omega) hM (by decide +kernel) (by decide +kernel) (by decide +kernel) (by decide +kernel) (show 6 = gm_na 166 by decide +kernel) (show 6 ≤ gm_ml 166 by decide +kernel) (Nat.le_of_ble_eq_true rfl) ax_throwsFor_s al_throwsFor_s ax_throwsFor_c al_throwsFor_c ax_throwsFor_v al_throwsFor_v (bc_in1 (mn_w (hX _)) (bc_in1 (mn_w (hX _)) (bc_in1 (mn_w (hX _)) (bc_in1 (mn_w (hX _)) bc_in0)))) (List.forall_mem_cons.mpr ⟨hX _, (List.forall_mem_cons.mpr ⟨hX _, (List.forall_mem_cons.mpr ⟨hX _, (List.forall_mem_cons.mpr ⟨hX _, (fun _ h => nomatch h)⟩)⟩)⟩)⟩) (by omega) (by omega) ?_
  intro u1 la1 K1 R1 M1 hu1 hb1 hM1
  obtain ⟨y1, rfl⟩ : ∃ y, u1 = some (gm_vi y) := hu1
  show gm_Wp X LX 280 _ _ 369 832 L [gm_vi y1] (245 + 4 * g) K1 R1 M1 Q
  refine gm_sz (gm_p_stor (pc := 832) (i := .istore 5) (sr := 0) (j := 5) (by decide +kernel) rfl (by show 5 + 0 < L.length; have := hL.1; omega) rfl) ?_
  have hL5 := mn_L_s (y := y1) hL (j := 5) (Or.inl rfl)
  have l55 := mn_l5 (y := y1) hL
  generalize gm_lst L 5 (gm_vi y1) = L5 at hL5 l55 ⊢
  refine gm_sz (gm_p_load (pc := 834) (i := .aload_n 2) (sr := 2) (j := 2) (by decide +kernel) rfl hL5.2.2.2.1 rfl) ?_
  refine mn_arg (pc := 835) (j := 1) (by decide +kernel) (by decide +kernel) (by decide +kernel) (by decide +kernel) (by decide +kernel) hL5 hi (by decide) hLX ?_
  refine mn_arg (pc := 841) (j := 2) (by decide +kernel) (by decide +kernel) (by decide +kernel) (by decide +kernel) (by decide +kernel) hL5 hi (by decide) hLX ?_
  refine mn_arg (pc := 847) (j := 3) (by decide +kernel) (by decide +kernel) (by decide +kernel) (by decide +kernel) (by decide +kernel) hL5 hi (by decide) hLX ?_
  refine mn_arg (pc := 853) (j := 4) (by decide +kernel) (by decide +kernel) (by decide +kernel) (by decide +kernel) (by decide +kernel) hL5 hi (by decide) hLX ?_
  refine rq_m (pc := 859) (ix := 201) (mj := 324) (xs := [X (i + 1), X (i + 2), X (i + 3), X (i + 4)]) (st := []) (ds := [(-2147483648, 2147483647), (-2147483648, 2147483647), (-2147483648, 2147483647), (-2147483648, 2147483647)]) (r := true) hb1 (by omega) hM1 (by decide +kernel) (by decide +kernel) (by decide +kernel) (by decide +kernel) (show 4 = gm_na 324 by decide +kernel) (show 5 ≤ gm_ml 324 by decide +kernel) (Nat.le_of_ble_eq_true rfl) am_throwsFor_s am_throwsFor_c am_throwsFor_v (bc_in1 (mn_w (hX _)) (bc_in1 (mn_w (hX _)) (bc_in1 (mn_w (hX _)) (bc_in1 (mn_w (hX _)) bc_in0)))) (List.forall_mem_cons.mpr ⟨hX _, (List.forall_mem_cons.mpr ⟨hX _, (List.forall_mem_cons.mpr ⟨hX _, (List.forall_mem_cons.mpr ⟨hX _, (fun _ h => nomatch h)⟩)⟩)⟩)⟩) (by omega) (by omega) ?_
  intro u2 la2 K2 R2 M2 hu2 hb2 hM2
  obtain ⟨y2, rfl⟩ : ∃ y, u2 = some (gm_vi y) := hu2
  show gm_Wp X LX 280 _ _ 369 862 L5 [gm_vi y2] (245 + 4 * g) K2 R2 M2 Q
  refine gm_sz (gm_p_stor (pc := 862) (i := .istore 6) (sr := 0) (j := 6) (by decide +kernel) rfl (by show 6 + 0 < L5.length; have := hL5.1; omega) rfl) ?_
  have hL6 := mn_L_s (y := y2) hL5 (j := 6) (Or.inr rfl)
  have l66 := mn_l6 (y := y2) hL5
  have l65 := mn_l65 (y := y2) l55
  generalize gm_lst L5 6 (gm_vi y2) = L6 at hL6 l66 l65 ⊢
  refine gm_sz (gm_p_goto (pc := 864) (off := 1101) (by decide +kernel) (by decide)) ?_
  exact gm_Wp_wk (Nat.le_refl _) (by omega) (by omega) (rest g _ _ _ _ L6 hb2 (by omega) ⟨_, _, _, _, _, _, _, hM2⟩ hL6)
theorem mc_17 (hb : bg g la K R M) (hg : g < 9990) (hM : RELW la K M) (hL : mn_L i L) (hi : 0 ≤ i ∧ i + 6 ≤ (LX : Int)) (hLX : LX ≤ 3072) (hX : ∀ j, gm_ir (X j)) (hbc : 12 ≤ bc) (hbs : 1200 ≤ bs) (rest : mn_R X LX bc bs i g Q) : gm_Wp X LX 280 bc bs 369 867 L [] (245 + 4 * g) K R M Q := by
  obtain ⟨N, lw, A, im, t, w, f, hM⟩ := hM
  refine gm_sz (gm_p_load (pc := 867) (i := .aload_n 1) (sr := 2) (j := 1) (by decide +kernel) rfl hL.2.2.1 rfl) ?_
  refine mn_arg (pc := 868) (j := 1) (by decide +kernel) (by decide +kernel) (by decide +kernel) (by decide +kernel) (by decide +kernel) hL hi (by decide) hLX ?_
  refine mn_arg (pc := 874) (j := 2) (by decide +kernel) (by decide +kernel) (by decide +kernel) (by decide +kernel) (by decide +kernel) hL hi (by decide) hLX ?_
  refine gm_sz (gm_p_load (pc := 880) (i := .aload_n 3) (sr := 2) (j := 3) (by decide +kernel) rfl hL.2.2.2.2.1 rfl) ?_
  refine rq_x (pc := 881) (ix := 202) (mj := 168) (xs := [X (i + 1), X (i + 2)]) (st := []) (ds := [(-2147483648, 2147483647), (-2147483648, 2147483647)]) (r := true) hb (by omega) hM (by decide +kernel) (by decide +kernel) (by decide +kernel) (by decide +kernel) (show 4 = gm_na 168 by decide +kernel) (show 4 ≤ gm_ml 168 by decide +kernel) (Nat.le_of_ble_eq_true rfl) ax_latest_s al_latest_s ax_latest_c al_latest_c ax_latest_v al_latest_v (bc_in1 (mn_w (hX _)) (bc_in1 (mn_w (hX _)) bc_in0)) (List.forall_mem_cons.mpr ⟨hX _, (List.forall_mem_cons.mpr ⟨hX _, (fun _ h => nomatch h)⟩)⟩) (by omega) (by omega) ?_
  intro u1 la1 K1 R1 M1 hu1 hb1 hM1
  obtain ⟨y1, rfl⟩ : ∃ y, u1 = some (gm_vi y) := hu1
  show gm_Wp X LX 280 _ _ 369 884 L [gm_vi y1] (245 + 4 * g) K1 R1 M1 Q
  refine gm_sz (gm_p_stor (pc := 884) (i := .istore 5) (sr := 0) (j := 5) (by decide +kernel) rfl (by show 5 + 0 < L.length; have := hL.1; omega) rfl) ?_
  have hL5 := mn_L_s (y := y1) hL (j := 5) (Or.inl rfl)
  have l55 := mn_l5 (y := y1) hL
  generalize gm_lst L 5 (gm_vi y1) = L5 at hL5 l55 ⊢
  refine gm_sz (gm_p_load (pc := 886) (i := .aload_n 2) (sr := 2) (j := 2) (by decide +kernel) rfl hL5.2.2.2.1 rfl) ?_
  refine mn_arg (pc := 887) (j := 1) (by decide +kernel) (by decide +kernel) (by decide +kernel) (by decide +kernel) (by decide +kernel) hL5 hi (by decide) hLX ?_
  refine mn_arg (pc := 893) (j := 2) (by decide +kernel) (by decide +kernel) (by decide +kernel) (by decide +kernel) (by decide +kernel) hL5 hi (by decide) hLX ?_
  refine rq_m (pc := 899) (ix := 204) (mj := 326) (xs := [X (i + 1), X (i + 2)]) (st := []) (ds := [(-2147483648, 2147483647), (-2147483648, 2147483647)]) (r := true) hb1 (by omega) hM1 (by decide +kernel) (by decide +kernel) (by decide +kernel) (by decide +kernel) (show 2 = gm_na 326 by decide +kernel) (show 3 ≤ gm_ml 326 by decide +kernel) (Nat.le_of_ble_eq_true rfl) am_latest_s am_latest_c am_latest_v (bc_in1 (mn_w (hX _)) (bc_in1 (mn_w (hX _)) bc_in0)) (List.forall_mem_cons.mpr ⟨hX _, (List.forall_mem_cons.mpr ⟨hX _, (fun _ h => nomatch h)⟩)⟩) (by omega) (by omega) ?_
  intro u2 la2 K2 R2 M2 hu2 hb2 hM2
  obtain ⟨y2, rfl⟩ : ∃ y, u2 = some (gm_vi y) := hu2
  show gm_Wp X LX 280 _ _ 369 902 L5 [gm_vi y2] (245 + 4 * g) K2 R2 M2 Q
  refine gm_sz (gm_p_stor (pc := 902) (i := .istore 6) (sr := 0) (j := 6) (by decide +kernel) rfl (by show 6 + 0 < L5.length; have := hL5.1; omega) rfl) ?_
  have hL6 := mn_L_s (y := y2) hL5 (j := 6) (Or.inr rfl)
  have l66 := mn_l6 (y := y2) hL5
  have l65 := mn_l65 (y := y2) l55
  generalize gm_lst L5 6 (gm_vi y2) = L6 at hL6 l66 l65 ⊢
  refine gm_sz (gm_p_goto (pc := 904) (off := 1061) (by decide +kernel) (by decide)) ?_
  exact gm_Wp_wk (Nat.le_refl _) (by omega) (by omega) (rest g _ _ _ _ L6 hb2 (by omega) ⟨_, _, _, _, _, _, _, hM2⟩ hL6)
theorem mc_18 (hb : bg g la K R M) (hg : g < 9990) (hM : RELW la K M) (hL : mn_L i L) (hi : 0 ≤ i ∧ i + 6 ≤ (LX : Int)) (hLX : LX ≤ 3072) (hX : ∀ j, gm_ir (X j)) (hbc : 12 ≤ bc) (hbs : 1200 ≤ bs) (rest : mn_R X LX bc bs i g Q) : gm_Wp X LX 280 bc bs 369 907 L [] (245 + 4 * g) K R M Q := by
  obtain ⟨N, lw, A, im, t, w, f, hM⟩ := hM
  refine gm_sz (gm_p_load (pc := 907) (i := .aload_n 1) (sr := 2) (j := 1) (by decide +kernel) rfl hL.2.2.1 rfl) ?_
  refine mn_arg (pc := 908) (j := 1) (by decide +kernel) (by decide +kernel) (by decide +kernel) (by decide +kernel) (by decide +kernel) hL hi (by decide) hLX ?_
  refine mn_arg (pc := 914) (j := 2) (by decide +kernel) (by decide +kernel) (by decide +kernel) (by decide +kernel) (by decide +kernel) hL hi (by decide) hLX ?_
  refine gm_sz (gm_p_load (pc := 920) (i := .aload_n 3) (sr := 2) (j := 3) (by decide +kernel) rfl hL.2.2.2.2.1 rfl) ?_
  refine rq_x (pc := 921) (ix := 205) (mj := 171) (xs := [X (i + 1), X (i + 2)]) (st := []) (ds := [(-2147483648, 2147483647), (-2147483648, 2147483647)]) (r := true) hb (by omega) hM (by decide +kernel) (by decide +kernel) (by decide +kernel) (by decide +kernel) (show 4 = gm_na 171 by decide +kernel) (show 4 ≤ gm_ml 171 by decide +kernel) (Nat.le_of_ble_eq_true rfl) ax_hut_s al_hut_s ax_hut_c al_hut_c ax_hut_v al_hut_v (bc_in1 (mn_w (hX _)) (bc_in1 (mn_w (hX _)) bc_in0)) (List.forall_mem_cons.mpr ⟨hX _, (List.forall_mem_cons.mpr ⟨hX _, (fun _ h => nomatch h)⟩)⟩) (by omega) (by omega) ?_
  intro u1 la1 K1 R1 M1 hu1 hb1 hM1
  obtain ⟨y1, rfl⟩ : ∃ y, u1 = some (gm_vi y) := hu1
  show gm_Wp X LX 280 _ _ 369 924 L [gm_vi y1] (245 + 4 * g) K1 R1 M1 Q
  refine gm_sz (gm_p_stor (pc := 924) (i := .istore 5) (sr := 0) (j := 5) (by decide +kernel) rfl (by show 5 + 0 < L.length; have := hL.1; omega) rfl) ?_
  have hL5 := mn_L_s (y := y1) hL (j := 5) (Or.inl rfl)
  have l55 := mn_l5 (y := y1) hL
  generalize gm_lst L 5 (gm_vi y1) = L5 at hL5 l55 ⊢
  refine gm_sz (gm_p_load (pc := 926) (i := .aload_n 2) (sr := 2) (j := 2) (by decide +kernel) rfl hL5.2.2.2.1 rfl) ?_
  refine mn_arg (pc := 927) (j := 1) (by decide +kernel) (by decide +kernel) (by decide +kernel) (by decide +kernel) (by decide +kernel) hL5 hi (by decide) hLX ?_
  refine mn_arg (pc := 933) (j := 2) (by decide +kernel) (by decide +kernel) (by decide +kernel) (by decide +kernel) (by decide +kernel) hL5 hi (by decide) hLX ?_
  refine rq_m (pc := 939) (ix := 207) (mj := 327) (xs := [X (i + 1), X (i + 2)]) (st := []) (ds := [(-2147483648, 2147483647), (-2147483648, 2147483647)]) (r := true) hb1 (by omega) hM1 (by decide +kernel) (by decide +kernel) (by decide +kernel) (by decide +kernel) (show 2 = gm_na 327 by decide +kernel) (show 3 ≤ gm_ml 327 by decide +kernel) (Nat.le_of_ble_eq_true rfl) am_hut_s am_hut_c am_hut_v (bc_in1 (mn_w (hX _)) (bc_in1 (mn_w (hX _)) bc_in0)) (List.forall_mem_cons.mpr ⟨hX _, (List.forall_mem_cons.mpr ⟨hX _, (fun _ h => nomatch h)⟩)⟩) (by omega) (by omega) ?_
  intro u2 la2 K2 R2 M2 hu2 hb2 hM2
  obtain ⟨y2, rfl⟩ : ∃ y, u2 = some (gm_vi y) := hu2
  show gm_Wp X LX 280 _ _ 369 942 L5 [gm_vi y2] (245 + 4 * g) K2 R2 M2 Q
  refine gm_sz (gm_p_stor (pc := 942) (i := .istore 6) (sr := 0) (j := 6) (by decide +kernel) rfl (by show 6 + 0 < L5.length; have := hL5.1; omega) rfl) ?_
  have hL6 := mn_L_s (y := y2) hL5 (j := 6) (Or.inr rfl)
  have l66 := mn_l6 (y := y2) hL5
  have l65 := mn_l65 (y := y2) l55
  generalize gm_lst L5 6 (gm_vi y2) = L6 at hL6 l66 l65 ⊢
  refine gm_sz (gm_p_goto (pc := 944) (off := 1021) (by decide +kernel) (by decide)) ?_
  exact gm_Wp_wk (Nat.le_refl _) (by omega) (by omega) (rest g _ _ _ _ L6 hb2 (by omega) ⟨_, _, _, _, _, _, _, hM2⟩ hL6)
theorem mc_19 (hb : bg g la K R M) (hg : g < 9990) (hM : RELW la K M) (hL : mn_L i L) (hi : 0 ≤ i ∧ i + 6 ≤ (LX : Int)) (hLX : LX ≤ 3072) (hX : ∀ j, gm_ir (X j)) (hbc : 12 ≤ bc) (hbs : 1200 ≤ bs) (rest : mn_R X LX bc bs i g Q) : gm_Wp X LX 280 bc bs 369 947 L [] (245 + 4 * g) K R M Q := by
  obtain ⟨N, lw, A, im, t, w, f, hM⟩ := hM
  refine gm_sz (gm_p_load (pc := 947) (i := .aload_n 1) (sr := 2) (j := 1) (by decide +kernel) rfl hL.2.2.1 rfl) ?_
  refine mn_arg (pc := 948) (j := 1) (by decide +kernel) (by decide +kernel) (by decide +kernel) (by decide +kernel) (by decide +kernel) hL hi (by decide) hLX ?_
  refine mn_arg (pc := 954) (j := 2) (by decide +kernel) (by decide +kernel) (by decide +kernel) (by decide +kernel) (by decide +kernel) hL hi (by decide) hLX ?_
  refine gm_sz (gm_p_load (pc := 960) (i := .aload_n 3) (sr := 2) (j := 3) (by decide +kernel) rfl hL.2.2.2.2.1 rfl) ?_
  refine rq_x (pc := 961) (ix := 208) (mj := 173) (xs := [X (i + 1), X (i + 2)]) (st := []) (ds := [(-2147483648, 2147483647), (-2147483648, 2147483647)]) (r := true) hb (by omega) hM (by decide +kernel) (by decide +kernel) (by decide +kernel) (by decide +kernel) (show 4 = gm_na 173 by decide +kernel) (show 4 ≤ gm_ml 173 by decide +kernel) (Nat.le_of_ble_eq_true rfl) ax_without_s al_without_s ax_without_c al_without_c ax_without_v al_without_v (bc_in1 (mn_w (hX _)) (bc_in1 (mn_w (hX _)) bc_in0)) (List.forall_mem_cons.mpr ⟨hX _, (List.forall_mem_cons.mpr ⟨hX _, (fun _ h => nomatch h)⟩)⟩) (by omega) (by omega) ?_
  intro u1 la1 K1 R1 M1 hu1 hb1 hM1
  obtain ⟨y1, rfl⟩ : ∃ y, u1 = some (gm_vi y) := hu1
  show gm_Wp X LX 280 _ _ 369 964 L [gm_vi y1] (245 + 4 * g) K1 R1 M1 Q
  refine gm_sz (gm_p_stor (pc := 964) (i := .istore 5) (sr := 0) (j := 5) (by decide +kernel) rfl (by show 5 + 0 < L.length; have := hL.1; omega) rfl) ?_
  have hL5 := mn_L_s (y := y1) hL (j := 5) (Or.inl rfl)
  have l55 := mn_l5 (y := y1) hL
  generalize gm_lst L 5 (gm_vi y1) = L5 at hL5 l55 ⊢
  refine gm_sz (gm_p_load (pc := 966) (i := .aload_n 2) (sr := 2) (j := 2) (by decide +kernel) rfl hL5.2.2.2.1 rfl) ?_
  refine mn_arg (pc := 967) (j := 1) (by decide +kernel) (by decide +kernel) (by decide +kernel) (by decide +kernel) (by decide +kernel) hL5 hi (by decide) hLX ?_
  refine mn_arg (pc := 973) (j := 2) (by decide +kernel) (by decide +kernel) (by decide +kernel) (by decide +kernel) (by decide +kernel) hL5 hi (by decide) hLX ?_
  refine rq_m (pc := 979) (ix := 210) (mj := 328) (xs := [X (i + 1), X (i + 2)]) (st := []) (ds := [(-2147483648, 2147483647), (-2147483648, 2147483647)]) (r := true) hb1 (by omega) hM1 (by decide +kernel) (by decide +kernel) (by decide +kernel) (by decide +kernel) (show 2 = gm_na 328 by decide +kernel) (show 3 ≤ gm_ml 328 by decide +kernel) (Nat.le_of_ble_eq_true rfl) am_without_s am_without_c am_without_v (bc_in1 (mn_w (hX _)) (bc_in1 (mn_w (hX _)) bc_in0)) (List.forall_mem_cons.mpr ⟨hX _, (List.forall_mem_cons.mpr ⟨hX _, (fun _ h => nomatch h)⟩)⟩) (by omega) (by omega) ?_
  intro u2 la2 K2 R2 M2 hu2 hb2 hM2
  obtain ⟨y2, rfl⟩ : ∃ y, u2 = some (gm_vi y) := hu2
  show gm_Wp X LX 280 _ _ 369 982 L5 [gm_vi y2] (245 + 4 * g) K2 R2 M2 Q
  refine gm_sz (gm_p_stor (pc := 982) (i := .istore 6) (sr := 0) (j := 6) (by decide +kernel) rfl (by show 6 + 0 < L5.length; have := hL5.1; omega) rfl) ?_
  have hL6 := mn_L_s (y := y2) hL5 (j := 6) (Or.inr rfl)
  have l66 := mn_l6 (y := y2) hL5
  have l65 := mn_l65 (y := y2) l55
  generalize gm_lst L5 6 (gm_vi y2) = L6 at hL6 l66 l65 ⊢
  refine gm_sz (gm_p_goto (pc := 984) (off := 981) (by decide +kernel) (by decide)) ?_
  exact gm_Wp_wk (Nat.le_refl _) (by omega) (by omega) (rest g _ _ _ _ L6 hb2 (by omega) ⟨_, _, _, _, _, _, _, hM2⟩ hL6)
theorem mc_20 (hb : bg g la K R M) (hg : g < 9990) (hM : RELW la K M) (hL : mn_L i L) (hi : 0 ≤ i ∧ i + 6 ≤ (LX : Int)) (hLX : LX ≤ 3072) (hX : ∀ j, gm_ir (X j)) (hbc : 12 ≤ bc) (hbs : 1200 ≤ bs) (rest : mn_R X LX bc bs i g Q) : gm_Wp X LX 280 bc bs 369 987 L [] (245 + 4 * g) K R M Q := by
  obtain ⟨N, lw, A, im, t, w, f, hM⟩ := hM
  refine gm_sz (gm_p_load (pc := 987) (i := .aload_n 1) (sr := 2) (j := 1) (by decide +kernel) rfl hL.2.2.1 rfl) ?_
  refine mn_arg (pc := 988) (j := 1) (by decide +kernel) (by decide +kernel) (by decide +kernel) (by decide +kernel) (by decide +kernel) hL hi (by decide) hLX ?_
  refine gm_sz (gm_p_load (pc := 994) (i := .aload_n 3) (sr := 2) (j := 3) (by decide +kernel) rfl hL.2.2.2.2.1 rfl) ?_
  refine rq_x (pc := 995) (ix := 211) (mj := 176) (xs := [X (i + 1)]) (st := []) (ds := [(-2147483648, 2147483647)]) (r := true) hb (by omega) hM (by decide +kernel) (by decide +kernel) (by decide +kernel) (by decide +kernel) (show 3 = gm_na 176 by decide +kernel) (show 3 ≤ gm_ml 176 by decide +kernel) (Nat.le_of_ble_eq_true rfl) ax_moved_s al_moved_s ax_moved_c al_moved_c ax_moved_v al_moved_v (bc_in1 (mn_w (hX _)) bc_in0) (List.forall_mem_cons.mpr ⟨hX _, (fun _ h => nomatch h)⟩) (by omega) (by omega) ?_
  intro u1 la1 K1 R1 M1 hu1 hb1 hM1
  obtain ⟨y1, rfl⟩ : ∃ y, u1 = some (gm_vi y) := hu1
  show gm_Wp X LX 280 _ _ 369 998 L [gm_vi y1] (245 + 4 * g) K1 R1 M1 Q
  refine gm_sz (gm_p_stor (pc := 998) (i := .istore 5) (sr := 0) (j := 5) (by decide +kernel) rfl (by show 5 + 0 < L.length; have := hL.1; omega) rfl) ?_
  have hL5 := mn_L_s (y := y1) hL (j := 5) (Or.inl rfl)
  have l55 := mn_l5 (y := y1) hL
  generalize gm_lst L 5 (gm_vi y1) = L5 at hL5 l55 ⊢
  refine gm_sz (gm_p_load (pc := 1000) (i := .aload_n 2) (sr := 2) (j := 2) (by decide +kernel) rfl hL5.2.2.2.1 rfl) ?_
  refine mn_arg (pc := 1001) (j := 1) (by decide +kernel) (by decide +kernel) (by decide +kernel) (by decide +kernel) (by decide +kernel) hL5 hi (by decide) hLX ?_
  refine rq_m (pc := 1007) (ix := 213) (mj := 329) (xs := [X (i + 1)]) (st := []) (ds := [(-2147483648, 2147483647)]) (r := true) hb1 (by omega) hM1 (by decide +kernel) (by decide +kernel) (by decide +kernel) (by decide +kernel) (show 1 = gm_na 329 by decide +kernel) (show 2 ≤ gm_ml 329 by decide +kernel) (Nat.le_of_ble_eq_true rfl) am_moved_s am_moved_c am_moved_v (bc_in1 (mn_w (hX _)) bc_in0) (List.forall_mem_cons.mpr ⟨hX _, (fun _ h => nomatch h)⟩) (by omega) (by omega) ?_
  intro u2 la2 K2 R2 M2 hu2 hb2 hM2
  obtain ⟨y2, rfl⟩ : ∃ y, u2 = some (gm_vi y) := hu2
  show gm_Wp X LX 280 _ _ 369 1010 L5 [gm_vi y2] (245 + 4 * g) K2 R2 M2 Q
  refine gm_sz (gm_p_stor (pc := 1010) (i := .istore 6) (sr := 0) (j := 6) (by decide +kernel) rfl (by show 6 + 0 < L5.length; have := hL5.1; omega) rfl) ?_
  have hL6 := mn_L_s (y := y2) hL5 (j := 6) (Or.inr rfl)
  have l66 := mn_l6 (y := y2) hL5
  have l65 := mn_l65 (y := y2) l55
  generalize gm_lst L5 6 (gm_vi y2) = L6 at hL6 l66 l65 ⊢
  refine gm_sz (gm_p_goto (pc := 1012) (off := 953) (by decide +kernel) (by decide)) ?_
  exact gm_Wp_wk (Nat.le_refl _) (by omega) (by omega) (rest g _ _ _ _ L6 hb2 (by omega) ⟨_, _, _, _, _, _, _, hM2⟩ hL6)
theorem mc_21 (hb : bg g la K R M) (hg : g < 9990) (hM : RELW la K M) (hL : mn_L i L) (hi : 0 ≤ i ∧ i + 6 ≤ (LX : Int)) (hLX : LX ≤ 3072) (hX : ∀ j, gm_ir (X j)) (hbc : 12 ≤ bc) (hbs : 1200 ≤ bs) (rest : mn_R X LX bc bs i g Q) : gm_Wp X LX 280 bc bs 369 1015 L [] (245 + 4 * g) K R M Q := by
  obtain ⟨N, lw, A, im, t, w, f, hM⟩ := hM
  refine gm_sz (gm_p_load (pc := 1015) (i := .aload_n 1) (sr := 2) (j := 1) (by decide +kernel) rfl hL.2.2.1 rfl) ?_
  refine rq_d (pc := 1016) (ix := 214) (mj := 23) (xs := []) (st := []) (ds := []) (r := true) hb (by omega) hM (by decide +kernel) (by decide +kernel) (by decide +kernel) (by decide +kernel) (show 0 = gm_na 23 by decide +kernel) (show 1 ≤ gm_ml 23 by decide +kernel) (Nat.le_of_ble_eq_true rfl) ax_lost_s al_lost_s ax_lost_c al_lost_c ax_lost_v al_lost_v bc_in0 (fun _ h => nomatch h) (by omega) (by omega) ?_
  intro u1 la1 K1 R1 M1 hu1 hb1 hM1
  obtain ⟨y1, rfl⟩ : ∃ y, u1 = some (gm_vi y) := hu1
  show gm_Wp X LX 280 _ _ 369 1019 L [gm_vi y1] (245 + 4 * g) K1 R1 M1 Q
  refine gm_sz (gm_p_pop (pc := 1019) (by decide +kernel) (by simp [gm_sort])) ?_
  refine gm_sz (gm_p_load (pc := 1020) (i := .aload_n 2) (sr := 2) (j := 2) (by decide +kernel) rfl hL.2.2.2.1 rfl) ?_
  refine rq_m (pc := 1021) (ix := 217) (mj := 330) (xs := []) (st := []) (ds := []) (r := true) hb1 (by omega) hM1 (by decide +kernel) (by decide +kernel) (by decide +kernel) (by decide +kernel) (show 0 = gm_na 330 by decide +kernel) (show 1 ≤ gm_ml 330 by decide +kernel) (Nat.le_of_ble_eq_true rfl) am_lost_s am_lost_c am_lost_v bc_in0 (fun _ h => nomatch h) (by omega) (by omega) ?_
  intro u2 la2 K2 R2 M2 hu2 hb2 hM2
  obtain ⟨y2, rfl⟩ : ∃ y, u2 = some (gm_vi y) := hu2
  show gm_Wp X LX 280 _ _ 369 1024 L [gm_vi y2] (245 + 4 * g) K2 R2 M2 Q
  refine gm_sz (gm_p_pop (pc := 1024) (by decide +kernel) (by simp [gm_sort])) ?_
  refine gm_sz (gm_p_goto (pc := 1025) (off := 940) (by decide +kernel) (by decide)) ?_
  exact gm_Wp_wk (Nat.le_refl _) (by omega) (by omega) (rest g _ _ _ _ L hb2 (by omega) ⟨_, _, _, _, _, _, _, hM2⟩ hL)
theorem mc_22 (hb : bg g la K R M) (hg : g < 9990) (hM : RELW la K M) (hL : mn_L i L) (hi : 0 ≤ i ∧ i + 6 ≤ (LX : Int)) (hLX : LX ≤ 3072) (hX : ∀ j, gm_ir (X j)) (hbc : 12 ≤ bc) (hbs : 1200 ≤ bs) (rest : mn_R X LX bc bs i g Q) : gm_Wp X LX 280 bc bs 369 1028 L [] (245 + 4 * g) K R M Q := by
  obtain ⟨N, lw, A, im, t, w, f, hM⟩ := hM
  refine gm_sz (gm_p_load (pc := 1028) (i := .aload_n 1) (sr := 2) (j := 1) (by decide +kernel) rfl hL.2.2.1 rfl) ?_
  refine mn_arg (pc := 1029) (j := 1) (by decide +kernel) (by decide +kernel) (by decide +kernel) (by decide +kernel) (by decide +kernel) hL hi (by decide) hLX ?_
  refine mn_bool (pc := 1035) (by decide +kernel) (by decide +kernel) (by decide +kernel) (by decide +kernel) ?_
  refine rq_d (pc := 1043) (ix := 218) (mj := 46) (xs := [bz (X (i + 1))]) (st := []) (ds := [(0, 1)]) (r := true) hb (by omega) hM (by decide +kernel) (by decide +kernel) (by decide +kernel) (by decide +kernel) (show 1 = gm_na 46 by decide +kernel) (show 2 ≤ gm_ml 46 by decide +kernel) (Nat.le_of_ble_eq_true rfl) ax_market_s al_market_s ax_market_c al_market_c ax_market_v al_market_v (bc_in1 ⟨bz_0, bz_1⟩ bc_in0) (List.forall_mem_cons.mpr ⟨⟨Int.le_trans (by decide) bz_0, Int.lt_of_le_of_lt bz_1 (by decide)⟩, (fun _ h => nomatch h)⟩) (by omega) (by omega) ?_
  intro u1 la1 K1 R1 M1 hu1 hb1 hM1
  obtain ⟨y1, rfl⟩ : ∃ y, u1 = some (gm_vi y) := hu1
  show gm_Wp X LX 280 _ _ 369 1046 L [gm_vi y1] (245 + 4 * g) K1 R1 M1 Q
  refine gm_sz (gm_p_pop (pc := 1046) (by decide +kernel) (by simp [gm_sort])) ?_
  refine gm_sz (gm_p_load (pc := 1047) (i := .aload_n 2) (sr := 2) (j := 2) (by decide +kernel) rfl hL.2.2.2.1 rfl) ?_
  refine mn_arg (pc := 1048) (j := 1) (by decide +kernel) (by decide +kernel) (by decide +kernel) (by decide +kernel) (by decide +kernel) hL hi (by decide) hLX ?_
  refine mn_bool (pc := 1054) (by decide +kernel) (by decide +kernel) (by decide +kernel) (by decide +kernel) ?_
  refine rq_m (pc := 1062) (ix := 222) (mj := 331) (xs := [bz (X (i + 1))]) (st := []) (ds := [(0, 1)]) (r := true) hb1 (by omega) hM1 (by decide +kernel) (by decide +kernel) (by decide +kernel) (by decide +kernel) (show 1 = gm_na 331 by decide +kernel) (show 2 ≤ gm_ml 331 by decide +kernel) (Nat.le_of_ble_eq_true rfl) am_market_s am_market_c am_market_v (bc_in1 ⟨bz_0, bz_1⟩ bc_in0) (List.forall_mem_cons.mpr ⟨⟨Int.le_trans (by decide) bz_0, Int.lt_of_le_of_lt bz_1 (by decide)⟩, (fun _ h => nomatch h)⟩) (by omega) (by omega) ?_
  intro u2 la2 K2 R2 M2 hu2 hb2 hM2
  obtain ⟨y2, rfl⟩ : ∃ y, u2 = some (gm_vi y) := hu2
  show gm_Wp X LX 280 _ _ 369 1065 L [gm_vi y2] (245 + 4 * g) K2 R2 M2 Q
  refine gm_sz (gm_p_pop (pc := 1065) (by decide +kernel) (by simp [gm_sort])) ?_
  refine gm_sz (gm_p_goto (pc := 1066) (off := 899) (by decide +kernel) (by decide)) ?_
  exact gm_Wp_wk (Nat.le_refl _) (by omega) (by omega) (rest g _ _ _ _ L hb2 (by omega) ⟨_, _, _, _, _, _, _, hM2⟩ hL)
theorem mc_23 (hb : bg g la K R M) (hg : g < 9990) (hM : RELW la K M) (hL : mn_L i L) (hi : 0 ≤ i ∧ i + 6 ≤ (LX : Int)) (hLX : LX ≤ 3072) (hX : ∀ j, gm_ir (X j)) (hbc : 12 ≤ bc) (hbs : 1200 ≤ bs) (rest : mn_R X LX bc bs i g Q) : gm_Wp X LX 280 bc bs 369 1069 L [] (245 + 4 * g) K R M Q := by
  obtain ⟨N, lw, A, im, t, w, f, hM⟩ := hM
  refine gm_sz (gm_p_load (pc := 1069) (i := .aload_n 1) (sr := 2) (j := 1) (by decide +kernel) rfl hL.2.2.1 rfl) ?_
  refine mn_arg (pc := 1070) (j := 1) (by decide +kernel) (by decide +kernel) (by decide +kernel) (by decide +kernel) (by decide +kernel) hL hi (by decide) hLX ?_
  refine gm_sz (gm_p_load (pc := 1076) (i := .aload_n 3) (sr := 2) (j := 3) (by decide +kernel) rfl hL.2.2.2.2.1 rfl) ?_
  refine rq_x (pc := 1077) (ix := 223) (mj := 178) (xs := [X (i + 1)]) (st := []) (ds := [(-2147483648, 2147483647)]) (r := true) hb (by omega) hM (by decide +kernel) (by decide +kernel) (by decide +kernel) (by decide +kernel) (show 3 = gm_na 178 by decide +kernel) (show 3 ≤ gm_ml 178 by decide +kernel) (Nat.le_of_ble_eq_true rfl) ax_passes_s al_passes_s ax_passes_c al_passes_c ax_passes_v al_passes_v (bc_in1 (mn_w (hX _)) bc_in0) (List.forall_mem_cons.mpr ⟨hX _, (fun _ h => nomatch h)⟩) (by omega) (by omega) ?_
  intro u1 la1 K1 R1 M1 hu1 hb1 hM1
  obtain ⟨y1, rfl⟩ : ∃ y, u1 = some (gm_vi y) := hu1
  show gm_Wp X LX 280 _ _ 369 1080 L [gm_vi y1] (245 + 4 * g) K1 R1 M1 Q
  refine gm_sz (gm_p_stor (pc := 1080) (i := .istore 5) (sr := 0) (j := 5) (by decide +kernel) rfl (by show 5 + 0 < L.length; have := hL.1; omega) rfl) ?_
  have hL5 := mn_L_s (y := y1) hL (j := 5) (Or.inl rfl)
  have l55 := mn_l5 (y := y1) hL
  generalize gm_lst L 5 (gm_vi y1) = L5 at hL5 l55 ⊢
  refine gm_sz (gm_p_load (pc := 1082) (i := .aload_n 2) (sr := 2) (j := 2) (by decide +kernel) rfl hL5.2.2.2.1 rfl) ?_
  refine mn_arg (pc := 1083) (j := 1) (by decide +kernel) (by decide +kernel) (by decide +kernel) (by decide +kernel) (by decide +kernel) hL5 hi (by decide) hLX ?_
  refine rq_m (pc := 1089) (ix := 225) (mj := 334) (xs := [X (i + 1)]) (st := []) (ds := [(-2147483648, 2147483647)]) (r := true) hb1 (by omega) hM1 (by decide +kernel) (by decide +kernel) (by decide +kernel) (by decide +kernel) (show 1 = gm_na 334 by decide +kernel) (show 2 ≤ gm_ml 334 by decide +kernel) (Nat.le_of_ble_eq_true rfl) am_passes_s am_passes_c am_passes_v (bc_in1 (mn_w (hX _)) bc_in0) (List.forall_mem_cons.mpr ⟨hX _, (fun _ h => nomatch h)⟩) (by omega) (by omega) ?_
  intro u2 la2 K2 R2 M2 hu2 hb2 hM2
  obtain ⟨y2, rfl⟩ : ∃ y, u2 = some (gm_vi y) := hu2
  show gm_Wp X LX 280 _ _ 369 1092 L5 [gm_vi y2] (245 + 4 * g) K2 R2 M2 Q
  refine gm_sz (gm_p_stor (pc := 1092) (i := .istore 6) (sr := 0) (j := 6) (by decide +kernel) rfl (by show 6 + 0 < L5.length; have := hL5.1; omega) rfl) ?_
  have hL6 := mn_L_s (y := y2) hL5 (j := 6) (Or.inr rfl)
  have l66 := mn_l6 (y := y2) hL5
  have l65 := mn_l65 (y := y2) l55
  generalize gm_lst L5 6 (gm_vi y2) = L6 at hL6 l66 l65 ⊢
  refine gm_sz (gm_p_goto (pc := 1094) (off := 871) (by decide +kernel) (by decide)) ?_
  exact gm_Wp_wk (Nat.le_refl _) (by omega) (by omega) (rest g _ _ _ _ L6 hb2 (by omega) ⟨_, _, _, _, _, _, _, hM2⟩ hL6)
theorem mc_24 (hb : bg g la K R M) (hg : g < 9990) (hM : RELW la K M) (hL : mn_L i L) (hi : 0 ≤ i ∧ i + 6 ≤ (LX : Int)) (hLX : LX ≤ 3072) (hX : ∀ j, gm_ir (X j)) (hbc : 12 ≤ bc) (hbs : 1200 ≤ bs) (rest : mn_R X LX bc bs i g Q) : gm_Wp X LX 280 bc bs 369 1097 L [] (245 + 4 * g) K R M Q := by
  obtain ⟨N, lw, A, im, t, w, f, hM⟩ := hM
  refine gm_sz (gm_p_load (pc := 1097) (i := .aload_n 1) (sr := 2) (j := 1) (by decide +kernel) rfl hL.2.2.1 rfl) ?_
  refine mn_arg (pc := 1098) (j := 1) (by decide +kernel) (by decide +kernel) (by decide +kernel) (by decide +kernel) (by decide +kernel) hL hi (by decide) hLX ?_
  refine mn_arg (pc := 1104) (j := 2) (by decide +kernel) (by decide +kernel) (by decide +kernel) (by decide +kernel) (by decide +kernel) hL hi (by decide) hLX ?_
  refine mn_arg (pc := 1110) (j := 3) (by decide +kernel) (by decide +kernel) (by decide +kernel) (by decide +kernel) (by decide +kernel) hL hi (by decide) hLX ?_
  refine gm_sz (gm_p_load (pc := 1116) (i := .aload_n 3) (sr := 2) (j := 3) (by decide +kernel) rfl hL.2.2.2.2.1 rfl) ?_
  refine rq_x (pc := 1117) (ix := 226) (mj := 185) (xs := [X (i + 1), X (i + 2), X (i + 3)]) (st := []) (ds := [(-2147483648, 2147483647), (-2147483648, 2147483647), (-2147483648, 2147483647)]) (r := true) hb (by omega) hM (by decide +kernel) (by decide +kernel) (by decide +kernel) (by decide +kernel) (show 5 = gm_na 185 by decide +kernel) (show 5 ≤ gm_ml 185 by decide +kernel) (Nat.le_of_ble_eq_true rfl) ax_writers_s al_writers_s ax_writers_c al_writers_c ax_writers_v al_writers_v (bc_in1 (mn_w (hX _)) (bc_in1 (mn_w (hX _)) (bc_in1 (mn_w (hX _)) bc_in0))) (List.forall_mem_cons.mpr ⟨hX _, (List.forall_mem_cons.mpr ⟨hX _, (List.forall_mem_cons.mpr ⟨hX _, (fun _ h => nomatch h)⟩)⟩)⟩) (by omega) (by omega) ?_
  intro u1 la1 K1 R1 M1 hu1 hb1 hM1
  obtain ⟨y1, rfl⟩ : ∃ y, u1 = some (gm_vi y) := hu1
  show gm_Wp X LX 280 _ _ 369 1120 L [gm_vi y1] (245 + 4 * g) K1 R1 M1 Q
  refine gm_sz (gm_p_stor (pc := 1120) (i := .istore 5) (sr := 0) (j := 5) (by decide +kernel) rfl (by show 5 + 0 < L.length; have := hL.1; omega) rfl) ?_
  have hL5 := mn_L_s (y := y1) hL (j := 5) (Or.inl rfl)
  have l55 := mn_l5 (y := y1) hL
  generalize gm_lst L 5 (gm_vi y1) = L5 at hL5 l55 ⊢
  refine gm_sz (gm_p_load (pc := 1122) (i := .aload_n 2) (sr := 2) (j := 2) (by decide +kernel) rfl hL5.2.2.2.1 rfl) ?_
  refine mn_arg (pc := 1123) (j := 1) (by decide +kernel) (by decide +kernel) (by decide +kernel) (by decide +kernel) (by decide +kernel) hL5 hi (by decide) hLX ?_
  refine mn_arg (pc := 1129) (j := 2) (by decide +kernel) (by decide +kernel) (by decide +kernel) (by decide +kernel) (by decide +kernel) hL5 hi (by decide) hLX ?_
  refine mn_arg (pc := 1135) (j := 3) (by decide +kernel) (by decide +kernel) (by decide +kernel) (by decide +kernel) (by decide +kernel) hL5 hi (by decide) hLX ?_
  refine rq_m (pc := 1141) (ix := 228) (mj := 338) (xs := [X (i + 1), X (i + 2), X (i + 3)]) (st := []) (ds := [(-2147483648, 2147483647), (-2147483648, 2147483647), (-2147483648, 2147483647)]) (r := true) hb1 (by omega) hM1 (by decide +kernel) (by decide +kernel) (by decide +kernel) (by decide +kernel) (show 3 = gm_na 338 by decide +kernel) (show 4 ≤ gm_ml 338 by decide +kernel) (Nat.le_of_ble_eq_true rfl) am_writers_s am_writers_c am_writers_v (bc_in1 (mn_w (hX _)) (bc_in1 (mn_w (hX _)) (bc_in1 (mn_w (hX _)) bc_in0))) (List.forall_mem_cons.mpr ⟨hX _, (List.forall_mem_cons.mpr ⟨hX _, (List.forall_mem_cons.mpr ⟨hX _, (fun _ h => nomatch h)⟩)⟩)⟩) (by omega) (by omega) ?_
  intro u2 la2 K2 R2 M2 hu2 hb2 hM2
  obtain ⟨y2, rfl⟩ : ∃ y, u2 = some (gm_vi y) := hu2
  show gm_Wp X LX 280 _ _ 369 1144 L5 [gm_vi y2] (245 + 4 * g) K2 R2 M2 Q
  refine gm_sz (gm_p_stor (pc := 1144) (i := .istore 6) (sr := 0) (j := 6) (by decide +kernel) rfl (by show 6 + 0 < L5.length; have := hL5.1; omega) rfl) ?_
  have hL6 := mn_L_s (y := y2) hL5 (j := 6) (Or.inr rfl)
  have l66 := mn_l6 (y := y2) hL5
  have l65 := mn_l65 (y := y2) l55
  generalize gm_lst L5 6 (gm_vi y2) = L6 at hL6 l66 l65 ⊢
  refine gm_sz (gm_p_goto (pc := 1146) (off := 819) (by decide +kernel) (by decide)) ?_
  exact gm_Wp_wk (Nat.le_refl _) (by omega) (by omega) (rest g _ _ _ _ L6 hb2 (by omega) ⟨_, _, _, _, _, _, _, hM2⟩ hL6)
theorem mc_25 (hb : bg g la K R M) (hg : g < 9990) (hM : RELW la K M) (hL : mn_L i L) (hi : 0 ≤ i ∧ i + 6 ≤ (LX : Int)) (hLX : LX ≤ 3072) (hX : ∀ j, gm_ir (X j)) (hbc : 12 ≤ bc) (hbs : 1200 ≤ bs) (rest : mn_R X LX bc bs i g Q) : gm_Wp X LX 280 bc bs 369 1149 L [] (245 + 4 * g) K R M Q := by
  obtain ⟨N, lw, A, im, t, w, f, hM⟩ := hM
  refine gm_sz (gm_p_load (pc := 1149) (i := .aload_n 1) (sr := 2) (j := 1) (by decide +kernel) rfl hL.2.2.1 rfl) ?_
  refine mn_arg (pc := 1150) (j := 1) (by decide +kernel) (by decide +kernel) (by decide +kernel) (by decide +kernel) (by decide +kernel) hL hi (by decide) hLX ?_
  refine mn_arg (pc := 1156) (j := 2) (by decide +kernel) (by decide +kernel) (by decide +kernel) (by decide +kernel) (by decide +kernel) hL hi (by decide) hLX ?_
  refine mn_arg (pc := 1162) (j := 3) (by decide +kernel) (by decide +kernel) (by decide +kernel) (by decide +kernel) (by decide +kernel) hL hi (by decide) hLX ?_
  refine mn_arg (pc := 1168) (j := 4) (by decide +kernel) (by decide +kernel) (by decide +kernel) (by decide +kernel) (by decide +kernel) hL hi (by decide) hLX ?_
  refine gm_sz (gm_p_load (pc := 1174) (i := .aload_n 3) (sr := 2) (j := 3) (by decide +kernel) rfl hL.2.2.2.2.1 rfl) ?_
  refine rq_x (pc := 1175) (ix := 229) (mj := 189) (xs := [X (i + 1), X (i + 2), X (i + 3), X (i + 4)]) (st := []) (ds := [(-2147483648, 2147483647), (-2147483648, 2147483647), (-2147483648, 2147483647), (-2147483648, 2147483647)]) (r := true) hb (by omega) hM (by decide +kernel) (by decide +kernel) (by decide +kernel) (by decide +kernel) (show 6 = gm_na 189 by decide +kernel) (show 6 ≤ gm_ml 189 by decide +kernel) (Nat.le_of_ble_eq_true rfl) ax_wrote_s al_wrote_s ax_wrote_c al_wrote_c ax_wrote_v al_wrote_v (bc_in1 (mn_w (hX _)) (bc_in1 (mn_w (hX _)) (bc_in1 (mn_w (hX _)) (bc_in1 (mn_w (hX _)) bc_in0)))) (List.forall_mem_cons.mpr ⟨hX _, (List.forall_mem_cons.mpr ⟨hX _, (List.forall_mem_cons.mpr ⟨hX _, (List.forall_mem_cons.mpr ⟨hX _, (fun _ h => nomatch h)⟩)⟩)⟩)⟩) (by omega) (by omega) ?_
  intro u1 la1 K1 R1 M1 hu1 hb1 hM1
  obtain ⟨y1, rfl⟩ : ∃ y, u1 = some (gm_vi y) := hu1
  show gm_Wp X LX 280 _ _ 369 1178 L [gm_vi y1] (245 + 4 * g) K1 R1 M1 Q
  refine gm_sz (gm_p_stor (pc := 1178) (i := .istore 5) (sr := 0) (j := 5) (by decide +kernel) rfl (by show 5 + 0 < L.length; have := hL.1; omega) rfl) ?_
  have hL5 := mn_L_s (y := y1) hL (j := 5) (Or.inl rfl)
  have l55 := mn_l5 (y := y1) hL
  generalize gm_lst L 5 (gm_vi y1) = L5 at hL5 l55 ⊢
  refine gm_sz (gm_p_load (pc := 1180) (i := .aload_n 2) (sr := 2) (j := 2) (by decide +kernel) rfl hL5.2.2.2.1 rfl) ?_
  refine mn_arg (pc := 1181) (j := 1) (by decide +kernel) (by decide +kernel) (by decide +kernel) (by decide +kernel) (by decide +kernel) hL5 hi (by decide) hLX ?_
  refine mn_arg (pc := 1187) (j := 2) (by decide +kernel) (by decide +kernel) (by decide +kernel) (by decide +kernel) (by decide +kernel) hL5 hi (by decide) hLX ?_
  refine mn_arg (pc := 1193) (j := 3) (by decide +kernel) (by decide +kernel) (by decide +kernel) (by decide +kernel) (by decide +kernel) hL5 hi (by decide) hLX ?_
  refine mn_arg (pc := 1199) (j := 4) (by decide +kernel) (by decide +kernel) (by decide +kernel) (by decide +kernel) (by decide +kernel) hL5 hi (by decide) hLX ?_
  refine rq_m (pc := 1205) (ix := 231) (mj := 340) (xs := [X (i + 1), X (i + 2), X (i + 3), X (i + 4)]) (st := []) (ds := [(-2147483648, 2147483647), (-2147483648, 2147483647), (-2147483648, 2147483647), (-2147483648, 2147483647)]) (r := true) hb1 (by omega) hM1 (by decide +kernel) (by decide +kernel) (by decide +kernel) (by decide +kernel) (show 4 = gm_na 340 by decide +kernel) (show 5 ≤ gm_ml 340 by decide +kernel) (Nat.le_of_ble_eq_true rfl) am_wrote_s am_wrote_c am_wrote_v (bc_in1 (mn_w (hX _)) (bc_in1 (mn_w (hX _)) (bc_in1 (mn_w (hX _)) (bc_in1 (mn_w (hX _)) bc_in0)))) (List.forall_mem_cons.mpr ⟨hX _, (List.forall_mem_cons.mpr ⟨hX _, (List.forall_mem_cons.mpr ⟨hX _, (List.forall_mem_cons.mpr ⟨hX _, (fun _ h => nomatch h)⟩)⟩)⟩)⟩) (by omega) (by omega) ?_
  intro u2 la2 K2 R2 M2 hu2 hb2 hM2
  obtain ⟨y2, rfl⟩ : ∃ y, u2 = some (gm_vi y) := hu2
  show gm_Wp X LX 280 _ _ 369 1208 L5 [gm_vi y2] (245 + 4 * g) K2 R2 M2 Q
  refine gm_sz (gm_p_stor (pc := 1208) (i := .istore 6) (sr := 0) (j := 6) (by decide +kernel) rfl (by show 6 + 0 < L5.length; have := hL5.1; omega) rfl) ?_
  have hL6 := mn_L_s (y := y2) hL5 (j := 6) (Or.inr rfl)
  have l66 := mn_l6 (y := y2) hL5
  have l65 := mn_l65 (y := y2) l55
  generalize gm_lst L5 6 (gm_vi y2) = L6 at hL6 l66 l65 ⊢
  refine gm_sz (gm_p_goto (pc := 1210) (off := 755) (by decide +kernel) (by decide)) ?_
  exact gm_Wp_wk (Nat.le_refl _) (by omega) (by omega) (rest g _ _ _ _ L6 hb2 (by omega) ⟨_, _, _, _, _, _, _, hM2⟩ hL6)
theorem mc_26 (hb : bg g la K R M) (hg : g < 9990) (hM : RELW la K M) (hL : mn_L i L) (hi : 0 ≤ i ∧ i + 6 ≤ (LX : Int)) (hLX : LX ≤ 3072) (hX : ∀ j, gm_ir (X j)) (hbc : 12 ≤ bc) (hbs : 1200 ≤ bs) (rest : mn_R X LX bc bs i g Q) : gm_Wp X LX 280 bc bs 369 1213 L [] (245 + 4 * g) K R M Q := by
  obtain ⟨N, lw, A, im, t, w, f, hM⟩ := hM
  refine gm_sz (gm_p_load (pc := 1213) (i := .aload_n 1) (sr := 2) (j := 1) (by decide +kernel) rfl hL.2.2.1 rfl) ?_
  refine mn_arg (pc := 1214) (j := 1) (by decide +kernel) (by decide +kernel) (by decide +kernel) (by decide +kernel) (by decide +kernel) hL hi (by decide) hLX ?_
  refine mn_arg (pc := 1220) (j := 2) (by decide +kernel) (by decide +kernel) (by decide +kernel) (by decide +kernel) (by decide +kernel) hL hi (by decide) hLX ?_
  refine gm_sz (gm_p_load (pc := 1226) (i := .aload_n 3) (sr := 2) (j := 3) (by decide +kernel) rfl hL.2.2.2.2.1 rfl) ?_
  refine rq_x (pc := 1227) (ix := 232) (mj := 191) (xs := [X (i + 1), X (i + 2)]) (st := []) (ds := [(-2147483648, 2147483647), (-2147483648, 2147483647)]) (r := true) hb (by omega) hM (by decide +kernel) (by decide +kernel) (by decide +kernel) (by decide +kernel) (show 4 = gm_na 191 by decide +kernel) (show 4 ≤ gm_ml 191 by decide +kernel) (Nat.le_of_ble_eq_true rfl) ax_table_s al_table_s ax_table_c al_table_c ax_table_v al_table_v (bc_in1 (mn_w (hX _)) (bc_in1 (mn_w (hX _)) bc_in0)) (List.forall_mem_cons.mpr ⟨hX _, (List.forall_mem_cons.mpr ⟨hX _, (fun _ h => nomatch h)⟩)⟩) (by omega) (by omega) ?_
  intro u1 la1 K1 R1 M1 hu1 hb1 hM1
  obtain ⟨y1, rfl⟩ : ∃ y, u1 = some (gm_vi y) := hu1
  show gm_Wp X LX 280 _ _ 369 1230 L [gm_vi y1] (245 + 4 * g) K1 R1 M1 Q
  refine gm_sz (gm_p_stor (pc := 1230) (i := .istore 5) (sr := 0) (j := 5) (by decide +kernel) rfl (by show 5 + 0 < L.length; have := hL.1; omega) rfl) ?_
  have hL5 := mn_L_s (y := y1) hL (j := 5) (Or.inl rfl)
  have l55 := mn_l5 (y := y1) hL
  generalize gm_lst L 5 (gm_vi y1) = L5 at hL5 l55 ⊢
  refine gm_sz (gm_p_load (pc := 1232) (i := .aload_n 2) (sr := 2) (j := 2) (by decide +kernel) rfl hL5.2.2.2.1 rfl) ?_
  refine mn_arg (pc := 1233) (j := 1) (by decide +kernel) (by decide +kernel) (by decide +kernel) (by decide +kernel) (by decide +kernel) hL5 hi (by decide) hLX ?_
  refine mn_arg (pc := 1239) (j := 2) (by decide +kernel) (by decide +kernel) (by decide +kernel) (by decide +kernel) (by decide +kernel) hL5 hi (by decide) hLX ?_
  refine rq_m (pc := 1245) (ix := 234) (mj := 341) (xs := [X (i + 1), X (i + 2)]) (st := []) (ds := [(-2147483648, 2147483647), (-2147483648, 2147483647)]) (r := true) hb1 (by omega) hM1 (by decide +kernel) (by decide +kernel) (by decide +kernel) (by decide +kernel) (show 2 = gm_na 341 by decide +kernel) (show 3 ≤ gm_ml 341 by decide +kernel) (Nat.le_of_ble_eq_true rfl) am_table_s am_table_c am_table_v (bc_in1 (mn_w (hX _)) (bc_in1 (mn_w (hX _)) bc_in0)) (List.forall_mem_cons.mpr ⟨hX _, (List.forall_mem_cons.mpr ⟨hX _, (fun _ h => nomatch h)⟩)⟩) (by omega) (by omega) ?_
  intro u2 la2 K2 R2 M2 hu2 hb2 hM2
  obtain ⟨y2, rfl⟩ : ∃ y, u2 = some (gm_vi y) := hu2
  show gm_Wp X LX 280 _ _ 369 1248 L5 [gm_vi y2] (245 + 4 * g) K2 R2 M2 Q
  refine gm_sz (gm_p_stor (pc := 1248) (i := .istore 6) (sr := 0) (j := 6) (by decide +kernel) rfl (by show 6 + 0 < L5.length; have := hL5.1; omega) rfl) ?_
  have hL6 := mn_L_s (y := y2) hL5 (j := 6) (Or.inr rfl)
  have l66 := mn_l6 (y := y2) hL5
  have l65 := mn_l65 (y := y2) l55
  generalize gm_lst L5 6 (gm_vi y2) = L6 at hL6 l66 l65 ⊢
  refine gm_sz (gm_p_goto (pc := 1250) (off := 715) (by decide +kernel) (by decide)) ?_
  exact gm_Wp_wk (Nat.le_refl _) (by omega) (by omega) (rest g _ _ _ _ L6 hb2 (by omega) ⟨_, _, _, _, _, _, _, hM2⟩ hL6)
theorem mc_27 (hb : bg g la K R M) (hg : g < 9990) (hM : RELW la K M) (hL : mn_L i L) (hi : 0 ≤ i ∧ i + 6 ≤ (LX : Int)) (hLX : LX ≤ 3072) (hX : ∀ j, gm_ir (X j)) (hbc : 12 ≤ bc) (hbs : 1200 ≤ bs) (rest : mn_R X LX bc bs i g Q) : gm_Wp X LX 280 bc bs 369 1253 L [] (245 + 4 * g) K R M Q := by
  obtain ⟨N, lw, A, im, t, w, f, hM⟩ := hM
  refine gm_sz (gm_p_load (pc := 1253) (i := .aload_n 1) (sr := 2) (j := 1) (by decide +kernel) rfl hL.2.2.1 rfl) ?_
  refine mn_arg (pc := 1254) (j := 1) (by decide +kernel) (by decide +kernel) (by decide +kernel) (by decide +kernel) (by decide +kernel) hL hi (by decide) hLX ?_
  refine mn_arg (pc := 1260) (j := 2) (by decide +kernel) (by decide +kernel) (by decide +kernel) (by decide +kernel) (by decide +kernel) hL hi (by decide) hLX ?_
  refine mn_arg (pc := 1266) (j := 3) (by decide +kernel) (by decide +kernel) (by decide +kernel) (by decide +kernel) (by decide +kernel) hL hi (by decide) hLX ?_
  refine gm_sz (gm_p_load (pc := 1272) (i := .aload_n 3) (sr := 2) (j := 3) (by decide +kernel) rfl hL.2.2.2.2.1 rfl) ?_
  refine rq_x (pc := 1273) (ix := 235) (mj := 194) (xs := [X (i + 1), X (i + 2), X (i + 3)]) (st := []) (ds := [(-2147483648, 2147483647), (-2147483648, 2147483647), (-2147483648, 2147483647)]) (r := true) hb (by omega) hM (by decide +kernel) (by decide +kernel) (by decide +kernel) (by decide +kernel) (show 5 = gm_na 194 by decide +kernel) (show 5 ≤ gm_ml 194 by decide +kernel) (Nat.le_of_ble_eq_true rfl) ax_apart_s al_apart_s ax_apart_c al_apart_c ax_apart_v al_apart_v (bc_in1 (mn_w (hX _)) (bc_in1 (mn_w (hX _)) (bc_in1 (mn_w (hX _)) bc_in0))) (List.forall_mem_cons.mpr ⟨hX _, (List.forall_mem_cons.mpr ⟨hX _, (List.forall_mem_cons.mpr ⟨hX _, (fun _ h => nomatch h)⟩)⟩)⟩) (by omega) (by omega) ?_
  intro u1 la1 K1 R1 M1 hu1 hb1 hM1
  obtain ⟨y1, rfl⟩ : ∃ y, u1 = some (gm_vi y) := hu1
  show gm_Wp X LX 280 _ _ 369 1276 L [gm_vi y1] (245 + 4 * g) K1 R1 M1 Q
  refine gm_sz (gm_p_stor (pc := 1276) (i := .istore 5) (sr := 0) (j := 5) (by decide +kernel) rfl (by show 5 + 0 < L.length; have := hL.1; omega) rfl) ?_
  have hL5 := mn_L_s (y := y1) hL (j := 5) (Or.inl rfl)
  have l55 := mn_l5 (y := y1) hL
  generalize gm_lst L 5 (gm_vi y1) = L5 at hL5 l55 ⊢
  refine gm_sz (gm_p_load (pc := 1278) (i := .aload_n 2) (sr := 2) (j := 2) (by decide +kernel) rfl hL5.2.2.2.1 rfl) ?_
  refine mn_arg (pc := 1279) (j := 1) (by decide +kernel) (by decide +kernel) (by decide +kernel) (by decide +kernel) (by decide +kernel) hL5 hi (by decide) hLX ?_
  refine mn_arg (pc := 1285) (j := 2) (by decide +kernel) (by decide +kernel) (by decide +kernel) (by decide +kernel) (by decide +kernel) hL5 hi (by decide) hLX ?_
  refine mn_arg (pc := 1291) (j := 3) (by decide +kernel) (by decide +kernel) (by decide +kernel) (by decide +kernel) (by decide +kernel) hL5 hi (by decide) hLX ?_
  refine rq_m (pc := 1297) (ix := 237) (mj := 344) (xs := [X (i + 1), X (i + 2), X (i + 3)]) (st := []) (ds := [(-2147483648, 2147483647), (-2147483648, 2147483647), (-2147483648, 2147483647)]) (r := true) hb1 (by omega) hM1 (by decide +kernel) (by decide +kernel) (by decide +kernel) (by decide +kernel) (show 3 = gm_na 344 by decide +kernel) (show 4 ≤ gm_ml 344 by decide +kernel) (Nat.le_of_ble_eq_true rfl) am_apart_s am_apart_c am_apart_v (bc_in1 (mn_w (hX _)) (bc_in1 (mn_w (hX _)) (bc_in1 (mn_w (hX _)) bc_in0))) (List.forall_mem_cons.mpr ⟨hX _, (List.forall_mem_cons.mpr ⟨hX _, (List.forall_mem_cons.mpr ⟨hX _, (fun _ h => nomatch h)⟩)⟩)⟩) (by omega) (by omega) ?_
  intro u2 la2 K2 R2 M2 hu2 hb2 hM2
  obtain ⟨y2, rfl⟩ : ∃ y, u2 = some (gm_vi y) := hu2
  show gm_Wp X LX 280 _ _ 369 1300 L5 [gm_vi y2] (245 + 4 * g) K2 R2 M2 Q
  refine gm_sz (gm_p_stor (pc := 1300) (i := .istore 6) (sr := 0) (j := 6) (by decide +kernel) rfl (by show 6 + 0 < L5.length; have := hL5.1; omega) rfl) ?_
  have hL6 := mn_L_s (y := y2) hL5 (j := 6) (Or.inr rfl)
  have l66 := mn_l6 (y := y2) hL5
  have l65 := mn_l65 (y := y2) l55
  generalize gm_lst L5 6 (gm_vi y2) = L6 at hL6 l66 l65 ⊢
  refine gm_sz (gm_p_goto (pc := 1302) (off := 663) (by decide +kernel) (by decide)) ?_
  exact gm_Wp_wk (Nat.le_refl _) (by omega) (by omega) (rest g _ _ _ _ L6 hb2 (by omega) ⟨_, _, _, _, _, _, _, hM2⟩ hL6)
theorem mc_28 (hb : bg g la K R M) (hg : g < 9990) (hM : RELW la K M) (hL : mn_L i L) (hi : 0 ≤ i ∧ i + 6 ≤ (LX : Int)) (hLX : LX ≤ 3072) (hX : ∀ j, gm_ir (X j)) (hbc : 12 ≤ bc) (hbs : 1200 ≤ bs) (rest : mn_R X LX bc bs i g Q) : gm_Wp X LX 280 bc bs 369 1305 L [] (245 + 4 * g) K R M Q := by
  obtain ⟨N, lw, A, im, t, w, f, hM⟩ := hM
  refine gm_sz (gm_p_load (pc := 1305) (i := .aload_n 1) (sr := 2) (j := 1) (by decide +kernel) rfl hL.2.2.1 rfl) ?_
  refine rq_d (pc := 1306) (ix := 238) (mj := 48) (xs := []) (st := []) (ds := []) (r := true) hb (by omega) hM (by decide +kernel) (by decide +kernel) (by decide +kernel) (by decide +kernel) (show 0 = gm_na 48 by decide +kernel) (show 1 ≤ gm_ml 48 by decide +kernel) (Nat.le_of_ble_eq_true rfl) ax_poles_s al_poles_s ax_poles_c al_poles_c ax_poles_v al_poles_v bc_in0 (fun _ h => nomatch h) (by omega) (by omega) ?_
  intro u1 la1 K1 R1 M1 hu1 hb1 hM1
  obtain ⟨y1, rfl⟩ : ∃ y, u1 = some (gm_vi y) := hu1
  show gm_Wp X LX 280 _ _ 369 1309 L [gm_vi y1] (245 + 4 * g) K1 R1 M1 Q
  refine gm_sz (gm_p_pop (pc := 1309) (by decide +kernel) (by simp [gm_sort])) ?_
  refine gm_sz (gm_p_load (pc := 1310) (i := .aload_n 2) (sr := 2) (j := 2) (by decide +kernel) rfl hL.2.2.2.1 rfl) ?_
  refine rq_m (pc := 1311) (ix := 241) (mj := 347) (xs := []) (st := []) (ds := []) (r := true) hb1 (by omega) hM1 (by decide +kernel) (by decide +kernel) (by decide +kernel) (by decide +kernel) (show 0 = gm_na 347 by decide +kernel) (show 1 ≤ gm_ml 347 by decide +kernel) (Nat.le_of_ble_eq_true rfl) am_poles_s am_poles_c am_poles_v bc_in0 (fun _ h => nomatch h) (by omega) (by omega) ?_
  intro u2 la2 K2 R2 M2 hu2 hb2 hM2
  obtain ⟨y2, rfl⟩ : ∃ y, u2 = some (gm_vi y) := hu2
  show gm_Wp X LX 280 _ _ 369 1314 L [gm_vi y2] (245 + 4 * g) K2 R2 M2 Q
  refine gm_sz (gm_p_pop (pc := 1314) (by decide +kernel) (by simp [gm_sort])) ?_
  refine gm_sz (gm_p_goto (pc := 1315) (off := 650) (by decide +kernel) (by decide)) ?_
  exact gm_Wp_wk (Nat.le_refl _) (by omega) (by omega) (rest g _ _ _ _ L hb2 (by omega) ⟨_, _, _, _, _, _, _, hM2⟩ hL)
theorem mc_29 (hb : bg g la K R M) (hg : g < 9990) (hM : RELW la K M) (hL : mn_L i L) (hi : 0 ≤ i ∧ i + 6 ≤ (LX : Int)) (hLX : LX ≤ 3072) (hX : ∀ j, gm_ir (X j)) (hbc : 12 ≤ bc) (hbs : 1200 ≤ bs) (rest : mn_R X LX bc bs i g Q) : gm_Wp X LX 280 bc bs 369 1318 L [] (245 + 4 * g) K R M Q := by
  obtain ⟨N, lw, A, im, t, w, f, hM⟩ := hM
  refine gm_sz (gm_p_load (pc := 1318) (i := .aload_n 1) (sr := 2) (j := 1) (by decide +kernel) rfl hL.2.2.1 rfl) ?_
  refine gm_sz (gm_p_load (pc := 1319) (i := .aload_n 3) (sr := 2) (j := 3) (by decide +kernel) rfl hL.2.2.2.2.1 rfl) ?_
  refine ft_x (pc := 1320) (ix := 242) (mj := 196) (xs := []) (st := []) (ds := []) (r := true) hb (by omega) hM (by decide +kernel) (by decide +kernel) (by decide +kernel) (by decide +kernel) (show 2 = gm_na 196 by decide +kernel) (show 2 ≤ gm_ml 196 by decide +kernel) (Nat.le_of_ble_eq_true rfl) ax_fit_s al_fit_s ax_fit_c al_fit_c ax_fit_v al_fit_v bc_in0 (fun _ h => nomatch h) (by omega) (by omega) ?_
  intro u1 la1 K1 R1 M1 hu1 hb1 hM1
  obtain ⟨y1, rfl⟩ : ∃ y, u1 = some (gm_vi y) := hu1
  show gm_Wp X LX 280 _ _ 369 1323 L [gm_vi y1] (245 + 4 * g) K1 R1 M1 Q
  refine gm_sz (gm_p_stor (pc := 1323) (i := .istore 5) (sr := 0) (j := 5) (by decide +kernel) rfl (by show 5 + 0 < L.length; have := hL.1; omega) rfl) ?_
  have hL5 := mn_L_s (y := y1) hL (j := 5) (Or.inl rfl)
  have l55 := mn_l5 (y := y1) hL
  generalize gm_lst L 5 (gm_vi y1) = L5 at hL5 l55 ⊢
  refine gm_sz (gm_p_load (pc := 1325) (i := .aload_n 2) (sr := 2) (j := 2) (by decide +kernel) rfl hL5.2.2.2.1 rfl) ?_
  refine ft_m (pc := 1326) (ix := 244) (mj := 348) (xs := []) (st := []) (ds := []) (r := true) hb1 (by omega) hM1 (by decide +kernel) (by decide +kernel) (by decide +kernel) (by decide +kernel) (show 0 = gm_na 348 by decide +kernel) (show 1 ≤ gm_ml 348 by decide +kernel) (Nat.le_of_ble_eq_true rfl) am_fit_s am_fit_c am_fit_v bc_in0 (fun _ h => nomatch h) (by omega) (by omega) ?_
  intro u2 la2 K2 R2 M2 hu2 hb2 hM2
  obtain ⟨y2, rfl⟩ : ∃ y, u2 = some (gm_vi y) := hu2
  show gm_Wp X LX 280 _ _ 369 1329 L5 [gm_vi y2] (245 + 4 * g) K2 R2 M2 Q
  refine gm_sz (gm_p_stor (pc := 1329) (i := .istore 6) (sr := 0) (j := 6) (by decide +kernel) rfl (by show 6 + 0 < L5.length; have := hL5.1; omega) rfl) ?_
  have hL6 := mn_L_s (y := y2) hL5 (j := 6) (Or.inr rfl)
  have l66 := mn_l6 (y := y2) hL5
  have l65 := mn_l65 (y := y2) l55
  generalize gm_lst L5 6 (gm_vi y2) = L6 at hL6 l66 l65 ⊢
  refine gm_sz (gm_p_goto (pc := 1331) (off := 634) (by decide +kernel) (by decide)) ?_
  exact gm_Wp_wk (Nat.le_refl _) (by omega) (by omega) (rest g _ _ _ _ L6 hb2 (by omega) ⟨_, _, _, _, _, _, _, hM2⟩ hL6)
theorem mc_30 (hb : bg g la K R M) (hg : g < 9990) (hM : RELW la K M) (hL : mn_L i L) (hi : 0 ≤ i ∧ i + 6 ≤ (LX : Int)) (hLX : LX ≤ 3072) (hX : ∀ j, gm_ir (X j)) (hbc : 12 ≤ bc) (hbs : 1200 ≤ bs) (rest : mn_R X LX bc bs i g Q) : gm_Wp X LX 280 bc bs 369 1334 L [] (245 + 4 * g) K R M Q := by
  obtain ⟨N, lw, A, im, t, w, f, hM⟩ := hM
  refine gm_sz (gm_p_load (pc := 1334) (i := .aload_n 1) (sr := 2) (j := 1) (by decide +kernel) rfl hL.2.2.1 rfl) ?_
  refine mn_arg (pc := 1335) (j := 1) (by decide +kernel) (by decide +kernel) (by decide +kernel) (by decide +kernel) (by decide +kernel) hL hi (by decide) hLX ?_
  refine mn_arg (pc := 1341) (j := 2) (by decide +kernel) (by decide +kernel) (by decide +kernel) (by decide +kernel) (by decide +kernel) hL hi (by decide) hLX ?_
  refine mn_arg (pc := 1347) (j := 3) (by decide +kernel) (by decide +kernel) (by decide +kernel) (by decide +kernel) (by decide +kernel) hL hi (by decide) hLX ?_
  refine mn_bool (pc := 1353) (by decide +kernel) (by decide +kernel) (by decide +kernel) (by decide +kernel) ?_
  refine gm_sz (gm_p_load (pc := 1361) (i := .aload_n 3) (sr := 2) (j := 3) (by decide +kernel) rfl hL.2.2.2.2.1 rfl) ?_
  refine rq_x (pc := 1362) (ix := 245) (mj := 200) (xs := [X (i + 1), X (i + 2), bz (X (i + 3))]) (st := []) (ds := [(-2147483648, 2147483647), (-2147483648, 2147483647), (0, 1)]) (r := true) hb (by omega) hM (by decide +kernel) (by decide +kernel) (by decide +kernel) (by decide +kernel) (show 5 = gm_na 200 by decide +kernel) (show 5 ≤ gm_ml 200 by decide +kernel) (Nat.le_of_ble_eq_true rfl) ax_soonest_s al_soonest_s ax_soonest_c al_soonest_c ax_soonest_v al_soonest_v (bc_in1 (mn_w (hX _)) (bc_in1 (mn_w (hX _)) (bc_in1 ⟨bz_0, bz_1⟩ bc_in0))) (List.forall_mem_cons.mpr ⟨hX _, (List.forall_mem_cons.mpr ⟨hX _, (List.forall_mem_cons.mpr ⟨⟨Int.le_trans (by decide) bz_0, Int.lt_of_le_of_lt bz_1 (by decide)⟩, (fun _ h => nomatch h)⟩)⟩)⟩) (by omega) (by omega) ?_
  intro u1 la1 K1 R1 M1 hu1 hb1 hM1
  obtain ⟨y1, rfl⟩ : ∃ y, u1 = some (gm_vi y) := hu1
  show gm_Wp X LX 280 _ _ 369 1365 L [gm_vi y1] (245 + 4 * g) K1 R1 M1 Q
  refine gm_sz (gm_p_stor (pc := 1365) (i := .istore 5) (sr := 0) (j := 5) (by decide +kernel) rfl (by show 5 + 0 < L.length; have := hL.1; omega) rfl) ?_
  have hL5 := mn_L_s (y := y1) hL (j := 5) (Or.inl rfl)
  have l55 := mn_l5 (y := y1) hL
  generalize gm_lst L 5 (gm_vi y1) = L5 at hL5 l55 ⊢
  refine gm_sz (gm_p_load (pc := 1367) (i := .aload_n 2) (sr := 2) (j := 2) (by decide +kernel) rfl hL5.2.2.2.1 rfl) ?_
  refine mn_arg (pc := 1368) (j := 1) (by decide +kernel) (by decide +kernel) (by decide +kernel) (by decide +kernel) (by decide +kernel) hL5 hi (by decide) hLX ?_
  refine mn_arg (pc := 1374) (j := 2) (by decide +kernel) (by decide +kernel) (by decide +kernel) (by decide +kernel) (by decide +kernel) hL5 hi (by decide) hLX ?_
  refine mn_arg (pc := 1380) (j := 3) (by decide +kernel) (by decide +kernel) (by decide +kernel) (by decide +kernel) (by decide +kernel) hL5 hi (by decide) hLX ?_
  refine mn_bool (pc := 1386) (by decide +kernel) (by decide +kernel) (by decide +kernel) (by decide +kernel) ?_
  refine rq_m (pc := 1394) (ix := 248) (mj := 349) (xs := [X (i + 1), X (i + 2), bz (X (i + 3))]) (st := []) (ds := [(-2147483648, 2147483647), (-2147483648, 2147483647), (0, 1)]) (r := true) hb1 (by omega) hM1 (by decide +kernel) (by decide +kernel) (by decide +kernel) (by decide +kernel) (show 3 = gm_na 349 by decide +kernel) (show 4 ≤ gm_ml 349 by decide +kernel) (Nat.le_of_ble_eq_true rfl) am_soonest_s am_soonest_c am_soonest_v (bc_in1 (mn_w (hX _)) (bc_in1 (mn_w (hX _)) (bc_in1 ⟨bz_0, bz_1⟩ bc_in0))) (List.forall_mem_cons.mpr ⟨hX _, (List.forall_mem_cons.mpr ⟨hX _, (List.forall_mem_cons.mpr ⟨⟨Int.le_trans (by decide) bz_0, Int.lt_of_le_of_lt bz_1 (by decide)⟩, (fun _ h => nomatch h)⟩)⟩)⟩) (by omega) (by omega) ?_
  intro u2 la2 K2 R2 M2 hu2 hb2 hM2
  obtain ⟨y2, rfl⟩ : ∃ y, u2 = some (gm_vi y) := hu2
  show gm_Wp X LX 280 _ _ 369 1397 L5 [gm_vi y2] (245 + 4 * g) K2 R2 M2 Q
  refine gm_sz (gm_p_stor (pc := 1397) (i := .istore 6) (sr := 0) (j := 6) (by decide +kernel) rfl (by show 6 + 0 < L5.length; have := hL5.1; omega) rfl) ?_
  have hL6 := mn_L_s (y := y2) hL5 (j := 6) (Or.inr rfl)
  have l66 := mn_l6 (y := y2) hL5
  have l65 := mn_l65 (y := y2) l55
  generalize gm_lst L5 6 (gm_vi y2) = L6 at hL6 l66 l65 ⊢
  refine gm_sz (gm_p_goto (pc := 1399) (off := 566) (by decide +kernel) (by decide)) ?_
  exact gm_Wp_wk (Nat.le_refl _) (by omega) (by omega) (rest g _ _ _ _ L6 hb2 (by omega) ⟨_, _, _, _, _, _, _, hM2⟩ hL6)
theorem mc_31 (hb : bg g la K R M) (hg : g < 9990) (hM : RELW la K M) (hL : mn_L i L) (hi : 0 ≤ i ∧ i + 6 ≤ (LX : Int)) (hLX : LX ≤ 3072) (hX : ∀ j, gm_ir (X j)) (hbc : 12 ≤ bc) (hbs : 1200 ≤ bs) (rest : mn_R X LX bc bs i g Q) : gm_Wp X LX 280 bc bs 369 1402 L [] (245 + 4 * g) K R M Q := by
  obtain ⟨N, lw, A, im, t, w, f, hM⟩ := hM
  refine gm_sz (gm_p_load (pc := 1402) (i := .aload_n 1) (sr := 2) (j := 1) (by decide +kernel) rfl hL.2.2.1 rfl) ?_
  refine mn_arg (pc := 1403) (j := 1) (by decide +kernel) (by decide +kernel) (by decide +kernel) (by decide +kernel) (by decide +kernel) hL hi (by decide) hLX ?_
  refine mn_arg (pc := 1409) (j := 2) (by decide +kernel) (by decide +kernel) (by decide +kernel) (by decide +kernel) (by decide +kernel) hL hi (by decide) hLX ?_
  refine mn_arg (pc := 1415) (j := 3) (by decide +kernel) (by decide +kernel) (by decide +kernel) (by decide +kernel) (by decide +kernel) hL hi (by decide) hLX ?_
  refine gm_sz (gm_p_load (pc := 1421) (i := .aload_n 3) (sr := 2) (j := 3) (by decide +kernel) rfl hL.2.2.2.2.1 rfl) ?_
  refine rq_x (pc := 1422) (ix := 249) (mj := 206) (xs := [X (i + 1), X (i + 2), X (i + 3)]) (st := []) (ds := [(-2147483648, 2147483647), (-2147483648, 2147483647), (-2147483648, 2147483647)]) (r := true) hb (by omega) hM (by decide +kernel) (by decide +kernel) (by decide +kernel) (by decide +kernel) (show 5 = gm_na 206 by decide +kernel) (show 5 ≤ gm_ml 206 by decide +kernel) (Nat.le_of_ble_eq_true rfl) ax_chain_s al_chain_s ax_chain_c al_chain_c ax_chain_v al_chain_v (bc_in1 (mn_w (hX _)) (bc_in1 (mn_w (hX _)) (bc_in1 (mn_w (hX _)) bc_in0))) (List.forall_mem_cons.mpr ⟨hX _, (List.forall_mem_cons.mpr ⟨hX _, (List.forall_mem_cons.mpr ⟨hX _, (fun _ h => nomatch h)⟩)⟩)⟩) (by omega) (by omega) ?_
  intro u1 la1 K1 R1 M1 hu1 hb1 hM1
  obtain ⟨y1, rfl⟩ : ∃ y, u1 = some (gm_vi y) := hu1
  show gm_Wp X LX 280 _ _ 369 1425 L [gm_vi y1] (245 + 4 * g) K1 R1 M1 Q
  refine gm_sz (gm_p_stor (pc := 1425) (i := .istore 5) (sr := 0) (j := 5) (by decide +kernel) rfl (by show 5 + 0 < L.length; have := hL.1; omega) rfl) ?_
  have hL5 := mn_L_s (y := y1) hL (j := 5) (Or.inl rfl)
  have l55 := mn_l5 (y := y1) hL
  generalize gm_lst L 5 (gm_vi y1) = L5 at hL5 l55 ⊢
  refine gm_sz (gm_p_load (pc := 1427) (i := .aload_n 2) (sr := 2) (j := 2) (by decide +kernel) rfl hL5.2.2.2.1 rfl) ?_
  refine mn_arg (pc := 1428) (j := 1) (by decide +kernel) (by decide +kernel) (by decide +kernel) (by decide +kernel) (by decide +kernel) hL5 hi (by decide) hLX ?_
  refine mn_arg (pc := 1434) (j := 2) (by decide +kernel) (by decide +kernel) (by decide +kernel) (by decide +kernel) (by decide +kernel) hL5 hi (by decide) hLX ?_
  refine mn_arg (pc := 1440) (j := 3) (by decide +kernel) (by decide +kernel) (by decide +kernel) (by decide +kernel) (by decide +kernel) hL5 hi (by decide) hLX ?_
  refine rq_m (pc := 1446) (ix := 251) (mj := 354) (xs := [X (i + 1), X (i + 2), X (i + 3)]) (st := []) (ds := [(-2147483648, 2147483647), (-2147483648, 2147483647), (-2147483648, 2147483647)]) (r := true) hb1 (by omega) hM1 (by decide +kernel) (by decide +kernel) (by decide +kernel) (by decide +kernel) (show 3 = gm_na 354 by decide +kernel) (show 4 ≤ gm_ml 354 by decide +kernel) (Nat.le_of_ble_eq_true rfl) am_chain_s am_chain_c am_chain_v (bc_in1 (mn_w (hX _)) (bc_in1 (mn_w (hX _)) (bc_in1 (mn_w (hX _)) bc_in0))) (List.forall_mem_cons.mpr ⟨hX _, (List.forall_mem_cons.mpr ⟨hX _, (List.forall_mem_cons.mpr ⟨hX _, (fun _ h => nomatch h)⟩)⟩)⟩) (by omega) (by omega) ?_
  intro u2 la2 K2 R2 M2 hu2 hb2 hM2
  obtain ⟨y2, rfl⟩ : ∃ y, u2 = some (gm_vi y) := hu2
  show gm_Wp X LX 280 _ _ 369 1449 L5 [gm_vi y2] (245 + 4 * g) K2 R2 M2 Q
  refine gm_sz (gm_p_stor (pc := 1449) (i := .istore 6) (sr := 0) (j := 6) (by decide +kernel) rfl (by show 6 + 0 < L5.length; have := hL5.1; omega) rfl) ?_
  have hL6 := mn_L_s (y := y2) hL5 (j := 6) (Or.inr rfl)
  have l66 := mn_l6 (y := y2) hL5
  have l65 := mn_l65 (y := y2) l55
  generalize gm_lst L5 6 (gm_vi y2) = L6 at hL6 l66 l65 ⊢
  refine gm_sz (gm_p_goto (pc := 1451) (off := 514) (by decide +kernel) (by decide)) ?_
  exact gm_Wp_wk (Nat.le_refl _) (by omega) (by omega) (rest g _ _ _ _ L6 hb2 (by omega) ⟨_, _, _, _, _, _, _, hM2⟩ hL6)
end MCC
