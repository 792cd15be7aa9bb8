/-! THE LAW'S CASES (laid by wip/pp/gen99v.py). -/
section MCC
variable {X : Int → Int} {LX g bc bs : Nat} {i : Int} {la : Nat → Nat} {K : gm_K} {R : gm_R} {M : gm_M} {Q : gm_Q} {L : gm_L}
theorem mc_13 (hb : bg g la K R M) (hg : g < 9990) (hM : M 1 6 = M 226 5) (hL : mn_L i L) (hi : 0 ≤ i ∧ i + 6 ≤ (LX : Int)) (hLX : LX ≤ 3072) (hX : ∀ j, gm_ir (X j)) (hbc : 12 ≤ bc) (hbs : 1200 ≤ bs) (rest : mn_R X LX bc bs i g Q) : gm_Wp X LX 280 bc bs 369 707 L [] (245 + 4 * g) K R M Q := by
  refine gm_sz (gm_p_load (pc := 707) (i := .aload_n 1) (sr := 2) (j := 1) (by decide +kernel) rfl hL.2.2.1 rfl) ?_
  refine mn_arg (pc := 708) (j := 1) (by decide +kernel) (by decide +kernel) (by decide +kernel) (by decide +kernel) (by decide +kernel) hL hi (by decide) hLX ?_
  refine mn_arg (pc := 714) (j := 2) (by decide +kernel) (by decide +kernel) (by decide +kernel) (by decide +kernel) (by decide +kernel) hL hi (by decide) hLX ?_
  refine gm_sz (gm_p_load (pc := 720) (i := .aload_n 3) (sr := 2) (j := 3) (by decide +kernel) rfl hL.2.2.2.2.1 rfl) ?_
  refine mn_x (pc := 721) (ix := 189) (mj := 155) (xs := [X (i + 1), X (i + 2)]) (st := []) (ds := [(-2147483648, 2147483647), (-2147483648, 2147483647)]) (md := 0) hb (by omega) (by decide +kernel) (by decide +kernel) (by decide +kernel) (by decide +kernel) (show 4 = gm_na 155 by decide +kernel) (show 4 ≤ gm_ml 155 by decide +kernel) (Nat.le_of_ble_eq_true rfl) hx_watch_s hl_watch_s hx_watch_c hl_watch_c hx_watch_v hl_watch_v (bc_in1 (mn_w (hX _)) (bc_in1 (mn_w (hX _)) bc_in0)) (List.forall_mem_cons.mpr ⟨hX _, (List.forall_mem_cons.mpr ⟨hX _, (fun _ h => nomatch h)⟩)⟩) (by omega) (by omega) (fun g1 la1 K1 R1 M1 u1 hb1 hg1 ho1 hp1 hu1 => ?_)
  have hp1 : M1 1 6 = M 1 6 := hp1
  obtain ⟨y1, rfl⟩ : ∃ y, u1 = some (gm_vi y) := hu1
  show gm_Wp X LX 280 _ _ 369 724 L [gm_vi y1] (245 + 4 * g1) K1 R1 M1 Q
  refine gm_sz (gm_p_stor (pc := 724) (i := .istore 5) (sr := 0) (j := 5) (by decide +kernel) rfl (by show 5 + 0 < L.length; have := hL.1; omega) rfl) ?_
  have hL5 := mn_L_s (y := y1) hL (j := 5) (Or.inl rfl)
  generalize gm_lst L 5 (gm_vi y1) = L5 at hL5 ⊢
  refine gm_sz (gm_p_load (pc := 726) (i := .aload_n 2) (sr := 2) (j := 2) (by decide +kernel) rfl hL5.2.2.2.1 rfl) ?_
  refine mn_arg (pc := 727) (j := 1) (by decide +kernel) (by decide +kernel) (by decide +kernel) (by decide +kernel) (by decide +kernel) hL5 hi (by decide) hLX ?_
  refine mn_arg (pc := 733) (j := 2) (by decide +kernel) (by decide +kernel) (by decide +kernel) (by decide +kernel) (by decide +kernel) hL5 hi (by decide) hLX ?_
  refine mn_m (pc := 739) (ix := 191) (mj := 317) (xs := [X (i + 1), X (i + 2)]) (st := []) (ds := [(-2147483648, 2147483647), (-2147483648, 2147483647)]) (md := 0) (r := true) hb1 (by omega) (by decide +kernel) (by decide +kernel) (by decide +kernel) (by decide +kernel) (show 2 = gm_na 317 by decide +kernel) (show 3 ≤ gm_ml 317 by decide +kernel) (Nat.le_of_ble_eq_true rfl) hm_watch_s hm_watch_c hm_watch_v (bc_in1 (mn_w (hX _)) (bc_in1 (mn_w (hX _)) bc_in0)) (List.forall_mem_cons.mpr ⟨hX _, (List.forall_mem_cons.mpr ⟨hX _, (fun _ h => nomatch h)⟩)⟩) (by omega) (by omega) (fun g2 la2 K2 R2 M2 u2 hb2 hg2 ho2 hp2 hu2 => ?_)
  have hp2 : M2 226 5 = M1 226 5 := hp2
  obtain ⟨y2, rfl⟩ : ∃ y, u2 = some (gm_vi y) := hu2
  show gm_Wp X LX 280 _ _ 369 742 L5 [gm_vi y2] (245 + 4 * g2) K2 R2 M2 Q
  refine gm_sz (gm_p_stor (pc := 742) (i := .istore 6) (sr := 0) (j := 6) (by decide +kernel) rfl (by show 6 + 0 < L5.length; have := hL5.1; omega) rfl) ?_
  have hL6 := mn_L_s (y := y2) hL5 (j := 6) (Or.inr rfl)
  generalize gm_lst L5 6 (gm_vi y2) = L6 at hL6 ⊢
  refine gm_sz (gm_p_goto (pc := 744) (off := 1221) (by decide +kernel) (by decide)) ?_
  exact gm_Wp_wk (Nat.le_refl _) (by omega) (by omega) (rest g2 la2 K2 R2 M2 L6 hb2 (by omega) (by omega) hL6)
theorem mc_14 (hb : bg g la K R M) (hg : g < 9990) (hM : M 1 6 = M 226 5) (hL : mn_L i L) (hi : 0 ≤ i ∧ i + 6 ≤ (LX : Int)) (hLX : LX ≤ 3072) (hX : ∀ j, gm_ir (X j)) (hbc : 12 ≤ bc) (hbs : 1200 ≤ bs) (rest : mn_R X LX bc bs i g Q) : gm_Wp X LX 280 bc bs 369 747 L [] (245 + 4 * g) K R M Q := by
  refine gm_sz (gm_p_load (pc := 747) (i := .aload_n 1) (sr := 2) (j := 1) (by decide +kernel) rfl hL.2.2.1 rfl) ?_
  refine mn_arg (pc := 748) (j := 1) (by decide +kernel) (by decide +kernel) (by decide +kernel) (by decide +kernel) (by decide +kernel) hL hi (by decide) hLX ?_
  refine gm_sz (gm_p_load (pc := 754) (i := .aload_n 3) (sr := 2) (j := 3) (by decide +kernel) rfl hL.2.2.2.2.1 rfl) ?_
  refine mn_x (pc := 755) (ix := 192) (mj := 157) (xs := [X (i + 1)]) (st := []) (ds := [(-2147483648, 2147483647)]) (md := 0) hb (by omega) (by decide +kernel) (by decide +kernel) (by decide +kernel) (by decide +kernel) (show 3 = gm_na 157 by decide +kernel) (show 3 ≤ gm_ml 157 by decide +kernel) (Nat.le_of_ble_eq_true rfl) hx_open_s hl_open_s hx_open_c hl_open_c hx_open_v hl_open_v (bc_in1 (mn_w (hX _)) bc_in0) (List.forall_mem_cons.mpr ⟨hX _, (fun _ h => nomatch h)⟩) (by omega) (by omega) (fun g1 la1 K1 R1 M1 u1 hb1 hg1 ho1 hp1 hu1 => ?_)
  have hp1 : M1 1 6 = M 1 6 := hp1
  obtain ⟨y1, rfl⟩ : ∃ y, u1 = some (gm_vi y) := hu1
  show gm_Wp X LX 280 _ _ 369 758 L [gm_vi y1] (245 + 4 * g1) K1 R1 M1 Q
  refine gm_sz (gm_p_stor (pc := 758) (i := .istore 5) (sr := 0) (j := 5) (by decide +kernel) rfl (by show 5 + 0 < L.length; have := hL.1; omega) rfl) ?_
  have hL5 := mn_L_s (y := y1) hL (j := 5) (Or.inl rfl)
  generalize gm_lst L 5 (gm_vi y1) = L5 at hL5 ⊢
  refine gm_sz (gm_p_load (pc := 760) (i := .aload_n 2) (sr := 2) (j := 2) (by decide +kernel) rfl hL5.2.2.2.1 rfl) ?_
  refine mn_arg (pc := 761) (j := 1) (by decide +kernel) (by decide +kernel) (by decide +kernel) (by decide +kernel) (by decide +kernel) hL5 hi (by decide) hLX ?_
  refine mn_m (pc := 767) (ix := 194) (mj := 318) (xs := [X (i + 1)]) (st := []) (ds := [(-2147483648, 2147483647)]) (md := 0) (r := true) hb1 (by omega) (by decide +kernel) (by decide +kernel) (by decide +kernel) (by decide +kernel) (show 1 = gm_na 318 by decide +kernel) (show 2 ≤ gm_ml 318 by decide +kernel) (Nat.le_of_ble_eq_true rfl) hm_open_s hm_open_c hm_open_v (bc_in1 (mn_w (hX _)) bc_in0) (List.forall_mem_cons.mpr ⟨hX _, (fun _ h => nomatch h)⟩) (by omega) (by omega) (fun g2 la2 K2 R2 M2 u2 hb2 hg2 ho2 hp2 hu2 => ?_)
  have hp2 : M2 226 5 = M1 226 5 := hp2
  obtain ⟨y2, rfl⟩ : ∃ y, u2 = some (gm_vi y) := hu2
  show gm_Wp X LX 280 _ _ 369 770 L5 [gm_vi y2] (245 + 4 * g2) K2 R2 M2 Q
  refine gm_sz (gm_p_stor (pc := 770) (i := .istore 6) (sr := 0) (j := 6) (by decide +kernel) rfl (by show 6 + 0 < L5.length; have := hL5.1; omega) rfl) ?_
  have hL6 := mn_L_s (y := y2) hL5 (j := 6) (Or.inr rfl)
  generalize gm_lst L5 6 (gm_vi y2) = L6 at hL6 ⊢
  refine gm_sz (gm_p_goto (pc := 772) (off := 1193) (by decide +kernel) (by decide)) ?_
  exact gm_Wp_wk (Nat.le_refl _) (by omega) (by omega) (rest g2 la2 K2 R2 M2 L6 hb2 (by omega) (by omega) hL6)
theorem mc_15 (hb : bg g la K R M) (hg : g < 9990) (hM : M 1 6 = M 226 5) (hL : mn_L i L) (hi : 0 ≤ i ∧ i + 6 ≤ (LX : Int)) (hLX : LX ≤ 3072) (hX : ∀ j, gm_ir (X j)) (hbc : 12 ≤ bc) (hbs : 1200 ≤ bs) (rest : mn_R X LX bc bs i g Q) : gm_Wp X LX 280 bc bs 369 775 L [] (245 + 4 * g) K R M Q := by
  refine gm_sz (gm_p_load (pc := 775) (i := .aload_n 1) (sr := 2) (j := 1) (by decide +kernel) rfl hL.2.2.1 rfl) ?_
  refine mn_arg (pc := 776) (j := 1) (by decide +kernel) (by decide +kernel) (by decide +kernel) (by decide +kernel) (by decide +kernel) hL hi (by decide) hLX ?_
  refine gm_sz (gm_p_load (pc := 782) (i := .aload_n 3) (sr := 2) (j := 3) (by decide +kernel) rfl hL.2.2.2.2.1 rfl) ?_
  refine mn_x (pc := 783) (ix := 195) (mj := 160) (xs := [X (i + 1)]) (st := []) (ds := [(-2147483648, 2147483647)]) (md := 0) hb (by omega) (by decide +kernel) (by decide +kernel) (by decide +kernel) (by decide +kernel) (show 3 = gm_na 160 by decide +kernel) (show 3 ≤ gm_ml 160 by decide +kernel) (Nat.le_of_ble_eq_true rfl) hx_years_s hl_years_s hx_years_c hl_years_c hx_years_v hl_years_v (bc_in1 (mn_w (hX _)) bc_in0) (List.forall_mem_cons.mpr ⟨hX _, (fun _ h => nomatch h)⟩) (by omega) (by omega) (fun g1 la1 K1 R1 M1 u1 hb1 hg1 ho1 hp1 hu1 => ?_)
  have hp1 : M1 1 6 = M 1 6 := hp1
  obtain ⟨y1, rfl⟩ : ∃ y, u1 = some (gm_vi y) := hu1
  show gm_Wp X LX 280 _ _ 369 786 L [gm_vi y1] (245 + 4 * g1) K1 R1 M1 Q
  refine gm_sz (gm_p_stor (pc := 786) (i := .istore 5) (sr := 0) (j := 5) (by decide +kernel) rfl (by show 5 + 0 < L.length; have := hL.1; omega) rfl) ?_
  have hL5 := mn_L_s (y := y1) hL (j := 5) (Or.inl rfl)
  generalize gm_lst L 5 (gm_vi y1) = L5 at hL5 ⊢
  refine gm_sz (gm_p_load (pc := 788) (i := .aload_n 2) (sr := 2) (j := 2) (by decide +kernel) rfl hL5.2.2.2.1 rfl) ?_
  refine mn_arg (pc := 789) (j := 1) (by decide +kernel) (by decide +kernel) (by decide +kernel) (by decide +kernel) (by decide +kernel) hL5 hi (by decide) hLX ?_
  refine mn_m (pc := 795) (ix := 197) (mj := 320) (xs := [X (i + 1)]) (st := []) (ds := [(-2147483648, 2147483647)]) (md := 0) (r := true) hb1 (by omega) (by decide +kernel) (by decide +kernel) (by decide +kernel) (by decide +kernel) (show 1 = gm_na 320 by decide +kernel) (show 2 ≤ gm_ml 320 by decide +kernel) (Nat.le_of_ble_eq_true rfl) hm_years_s hm_years_c hm_years_v (bc_in1 (mn_w (hX _)) bc_in0) (List.forall_mem_cons.mpr ⟨hX _, (fun _ h => nomatch h)⟩) (by omega) (by omega) (fun g2 la2 K2 R2 M2 u2 hb2 hg2 ho2 hp2 hu2 => ?_)
  have hp2 : M2 226 5 = M1 226 5 := hp2
  obtain ⟨y2, rfl⟩ : ∃ y, u2 = some (gm_vi y) := hu2
  show gm_Wp X LX 280 _ _ 369 798 L5 [gm_vi y2] (245 + 4 * g2) K2 R2 M2 Q
  refine gm_sz (gm_p_stor (pc := 798) (i := .istore 6) (sr := 0) (j := 6) (by decide +kernel) rfl (by show 6 + 0 < L5.length; have := hL5.1; omega) rfl) ?_
  have hL6 := mn_L_s (y := y2) hL5 (j := 6) (Or.inr rfl)
  generalize gm_lst L5 6 (gm_vi y2) = L6 at hL6 ⊢
  refine gm_sz (gm_p_goto (pc := 800) (off := 1165) (by decide +kernel) (by decide)) ?_
  exact gm_Wp_wk (Nat.le_refl _) (by omega) (by omega) (rest g2 la2 K2 R2 M2 L6 hb2 (by omega) (by omega) hL6)
theorem mc_16 (hb : bg g la K R M) (hg : g < 9990) (hM : M 1 6 = M 226 5) (hL : mn_L i L) (hi : 0 ≤ i ∧ i + 6 ≤ (LX : Int)) (hLX : LX ≤ 3072) (hX : ∀ j, gm_ir (X j)) (hbc : 12 ≤ bc) (hbs : 1200 ≤ bs) (rest : mn_R X LX bc bs i g Q) : gm_Wp X LX 280 bc bs 369 803 L [] (245 + 4 * g) K R M Q := by
  refine gm_sz (gm_p_load (pc := 803) (i := .aload_n 1) (sr := 2) (j := 1) (by decide +kernel) rfl hL.2.2.1 rfl) ?_
  refine mn_arg (pc := 804) (j := 1) (by decide +kernel) (by decide +kernel) (by decide +kernel) (by decide +kernel) (by decide +kernel) hL hi (by decide) hLX ?_
  refine mn_arg (pc := 810) (j := 2) (by decide +kernel) (by decide +kernel) (by decide +kernel) (by decide +kernel) (by decide +kernel) hL hi (by decide) hLX ?_
  refine mn_arg (pc := 816) (j := 3) (by decide +kernel) (by decide +kernel) (by decide +kernel) (by decide +kernel) (by decide +kernel) hL hi (by decide) hLX ?_
  refine mn_arg (pc := 822) (j := 4) (by decide +kernel) (by decide +kernel) (by decide +kernel) (by decide +kernel) (by decide +kernel) hL hi (by decide) hLX ?_
  refine gm_sz (gm_p_load (pc := 828) (i := .aload_n 3) (sr := 2) (j := 3) (by decide +kernel) rfl hL.2.2.2.2.1 rfl) ?_
  refine mn_x (pc := 829) (ix := 198) (mj := 166) (xs := [X (i + 1), X (i + 2), X (i + 3), X (i + 4)]) (st := []) (ds := [(-2147483648, 2147483647), (-2147483648, 2147483647), (-2147483648, 2147483647), (-2147483648, 2147483647)]) (md := 0) hb (by omega) (by decide +kernel) (by decide +kernel) (by decide +kernel) (by decide +kernel) (show 6 = gm_na 166 by decide +kernel) (show 6 ≤ gm_ml 166 by decide +kernel) (Nat.le_of_ble_eq_true rfl) hx_throwsFor_s hl_throwsFor_s hx_throwsFor_c hl_throwsFor_c hx_throwsFor_v hl_throwsFor_v (bc_in1 (mn_w (hX _)) (bc_in1 (mn_w (hX _)) (bc_in1 (mn_w (hX _)) (bc_in1 (mn_w (hX _)) bc_in0)))) (List.forall_mem_cons.mpr ⟨hX _, (List.forall_mem_cons.mpr ⟨hX _, (List.forall_mem_cons.mpr ⟨hX _, (List.forall_mem_cons.mpr ⟨hX _, (fun _ h => nomatch h)⟩)⟩)⟩)⟩) (by omega) (by omega) (fun g1 la1 K1 R1 M1 u1 hb1 hg1 ho1 hp1 hu1 => ?_)
  have hp1 : M1 1 6 = M 1 6 := hp1
  obtain ⟨y1, rfl⟩ : ∃ y, u1 = some (gm_vi y) := hu1
  show gm_Wp X LX 280 _ _ 369 832 L [gm_vi y1] (245 + 4 * g1) K1 R1 M1 Q
  refine gm_sz (gm_p_stor (pc := 832) (i := .istore 5) (sr := 0) (j := 5) (by decide +kernel) rfl (by show 5 + 0 < L.length; have := hL.1; omega) rfl) ?_
  have hL5 := mn_L_s (y := y1) hL (j := 5) (Or.inl rfl)
  generalize gm_lst L 5 (gm_vi y1) = L5 at hL5 ⊢
  refine gm_sz (gm_p_load (pc := 834) (i := .aload_n 2) (sr := 2) (j := 2) (by decide +kernel) rfl hL5.2.2.2.1 rfl) ?_
  refine mn_arg (pc := 835) (j := 1) (by decide +kernel) (by decide +kernel) (by decide +kernel) (by decide +kernel) (by decide +kernel) hL5 hi (by decide) hLX ?_
  refine mn_arg (pc := 841) (j := 2) (by decide +kernel) (by decide +kernel) (by decide +kernel) (by decide +kernel) (by decide +kernel) hL5 hi (by decide) hLX ?_
  refine mn_arg (pc := 847) (j := 3) (by decide +kernel) (by decide +kernel) (by decide +kernel) (by decide +kernel) (by decide +kernel) hL5 hi (by decide) hLX ?_
  refine mn_arg (pc := 853) (j := 4) (by decide +kernel) (by decide +kernel) (by decide +kernel) (by decide +kernel) (by decide +kernel) hL5 hi (by decide) hLX ?_
  refine mn_m (pc := 859) (ix := 201) (mj := 324) (xs := [X (i + 1), X (i + 2), X (i + 3), X (i + 4)]) (st := []) (ds := [(-2147483648, 2147483647), (-2147483648, 2147483647), (-2147483648, 2147483647), (-2147483648, 2147483647)]) (md := 0) (r := true) hb1 (by omega) (by decide +kernel) (by decide +kernel) (by decide +kernel) (by decide +kernel) (show 4 = gm_na 324 by decide +kernel) (show 5 ≤ gm_ml 324 by decide +kernel) (Nat.le_of_ble_eq_true rfl) hm_throwsFor_s hm_throwsFor_c hm_throwsFor_v (bc_in1 (mn_w (hX _)) (bc_in1 (mn_w (hX _)) (bc_in1 (mn_w (hX _)) (bc_in1 (mn_w (hX _)) bc_in0)))) (List.forall_mem_cons.mpr ⟨hX _, (List.forall_mem_cons.mpr ⟨hX _, (List.forall_mem_cons.mpr ⟨hX _, (List.forall_mem_cons.mpr ⟨hX _, (fun _ h => nomatch h)⟩)⟩)⟩)⟩) (by omega) (by omega) (fun g2 la2 K2 R2 M2 u2 hb2 hg2 ho2 hp2 hu2 => ?_)
  have hp2 : M2 226 5 = M1 226 5 := hp2
  obtain ⟨y2, rfl⟩ : ∃ y, u2 = some (gm_vi y) := hu2
  show gm_Wp X LX 280 _ _ 369 862 L5 [gm_vi y2] (245 + 4 * g2) K2 R2 M2 Q
  refine gm_sz (gm_p_stor (pc := 862) (i := .istore 6) (sr := 0) (j := 6) (by decide +kernel) rfl (by show 6 + 0 < L5.length; have := hL5.1; omega) rfl) ?_
  have hL6 := mn_L_s (y := y2) hL5 (j := 6) (Or.inr rfl)
  generalize gm_lst L5 6 (gm_vi y2) = L6 at hL6 ⊢
  refine gm_sz (gm_p_goto (pc := 864) (off := 1101) (by decide +kernel) (by decide)) ?_
  exact gm_Wp_wk (Nat.le_refl _) (by omega) (by omega) (rest g2 la2 K2 R2 M2 L6 hb2 (by omega) (by omega) hL6)
theorem mc_17 (hb : bg g la K R M) (hg : g < 9990) (hM : M 1 6 = M 226 5) (hL : mn_L i L) (hi : 0 ≤ i ∧ i + 6 ≤ (LX : Int)) (hLX : LX ≤ 3072) (hX : ∀ j, gm_ir (X j)) (hbc : 12 ≤ bc) (hbs : 1200 ≤ bs) (rest : mn_R X LX bc bs i g Q) : gm_Wp X LX 280 bc bs 369 867 L [] (245 + 4 * g) K R M Q := by
  refine gm_sz (gm_p_load (pc := 867) (i := .aload_n 1) (sr := 2) (j := 1) (by decide +kernel) rfl hL.2.2.1 rfl) ?_
  refine mn_arg (pc := 868) (j := 1) (by decide +kernel) (by decide +kernel) (by decide +kernel) (by decide +kernel) (by decide +kernel) hL hi (by decide) hLX ?_
  refine mn_arg (pc := 874) (j := 2) (by decide +kernel) (by decide +kernel) (by decide +kernel) (by decide +kernel) (by decide +kernel) hL hi (by decide) hLX ?_
  refine gm_sz (gm_p_load (pc := 880) (i := .aload_n 3) (sr := 2) (j := 3) (by decide +kernel) rfl hL.2.2.2.2.1 rfl) ?_
  refine mn_x (pc := 881) (ix := 202) (mj := 168) (xs := [X (i + 1), X (i + 2)]) (st := []) (ds := [(-2147483648, 2147483647), (-2147483648, 2147483647)]) (md := 0) hb (by omega) (by decide +kernel) (by decide +kernel) (by decide +kernel) (by decide +kernel) (show 4 = gm_na 168 by decide +kernel) (show 4 ≤ gm_ml 168 by decide +kernel) (Nat.le_of_ble_eq_true rfl) hx_latest_s hl_latest_s hx_latest_c hl_latest_c hx_latest_v hl_latest_v (bc_in1 (mn_w (hX _)) (bc_in1 (mn_w (hX _)) bc_in0)) (List.forall_mem_cons.mpr ⟨hX _, (List.forall_mem_cons.mpr ⟨hX _, (fun _ h => nomatch h)⟩)⟩) (by omega) (by omega) (fun g1 la1 K1 R1 M1 u1 hb1 hg1 ho1 hp1 hu1 => ?_)
  have hp1 : M1 1 6 = M 1 6 := hp1
  obtain ⟨y1, rfl⟩ : ∃ y, u1 = some (gm_vi y) := hu1
  show gm_Wp X LX 280 _ _ 369 884 L [gm_vi y1] (245 + 4 * g1) K1 R1 M1 Q
  refine gm_sz (gm_p_stor (pc := 884) (i := .istore 5) (sr := 0) (j := 5) (by decide +kernel) rfl (by show 5 + 0 < L.length; have := hL.1; omega) rfl) ?_
  have hL5 := mn_L_s (y := y1) hL (j := 5) (Or.inl rfl)
  generalize gm_lst L 5 (gm_vi y1) = L5 at hL5 ⊢
  refine gm_sz (gm_p_load (pc := 886) (i := .aload_n 2) (sr := 2) (j := 2) (by decide +kernel) rfl hL5.2.2.2.1 rfl) ?_
  refine mn_arg (pc := 887) (j := 1) (by decide +kernel) (by decide +kernel) (by decide +kernel) (by decide +kernel) (by decide +kernel) hL5 hi (by decide) hLX ?_
  refine mn_arg (pc := 893) (j := 2) (by decide +kernel) (by decide +kernel) (by decide +kernel) (by decide +kernel) (by decide +kernel) hL5 hi (by decide) hLX ?_
  refine mn_m (pc := 899) (ix := 204) (mj := 326) (xs := [X (i + 1), X (i + 2)]) (st := []) (ds := [(-2147483648, 2147483647), (-2147483648, 2147483647)]) (md := 0) (r := true) hb1 (by omega) (by decide +kernel) (by decide +kernel) (by decide +kernel) (by decide +kernel) (show 2 = gm_na 326 by decide +kernel) (show 3 ≤ gm_ml 326 by decide +kernel) (Nat.le_of_ble_eq_true rfl) hm_latest_s hm_latest_c hm_latest_v (bc_in1 (mn_w (hX _)) (bc_in1 (mn_w (hX _)) bc_in0)) (List.forall_mem_cons.mpr ⟨hX _, (List.forall_mem_cons.mpr ⟨hX _, (fun _ h => nomatch h)⟩)⟩) (by omega) (by omega) (fun g2 la2 K2 R2 M2 u2 hb2 hg2 ho2 hp2 hu2 => ?_)
  have hp2 : M2 226 5 = M1 226 5 := hp2
  obtain ⟨y2, rfl⟩ : ∃ y, u2 = some (gm_vi y) := hu2
  show gm_Wp X LX 280 _ _ 369 902 L5 [gm_vi y2] (245 + 4 * g2) K2 R2 M2 Q
  refine gm_sz (gm_p_stor (pc := 902) (i := .istore 6) (sr := 0) (j := 6) (by decide +kernel) rfl (by show 6 + 0 < L5.length; have := hL5.1; omega) rfl) ?_
  have hL6 := mn_L_s (y := y2) hL5 (j := 6) (Or.inr rfl)
  generalize gm_lst L5 6 (gm_vi y2) = L6 at hL6 ⊢
  refine gm_sz (gm_p_goto (pc := 904) (off := 1061) (by decide +kernel) (by decide)) ?_
  exact gm_Wp_wk (Nat.le_refl _) (by omega) (by omega) (rest g2 la2 K2 R2 M2 L6 hb2 (by omega) (by omega) hL6)
theorem mc_18 (hb : bg g la K R M) (hg : g < 9990) (hM : M 1 6 = M 226 5) (hL : mn_L i L) (hi : 0 ≤ i ∧ i + 6 ≤ (LX : Int)) (hLX : LX ≤ 3072) (hX : ∀ j, gm_ir (X j)) (hbc : 12 ≤ bc) (hbs : 1200 ≤ bs) (rest : mn_R X LX bc bs i g Q) : gm_Wp X LX 280 bc bs 369 907 L [] (245 + 4 * g) K R M Q := by
  refine gm_sz (gm_p_load (pc := 907) (i := .aload_n 1) (sr := 2) (j := 1) (by decide +kernel) rfl hL.2.2.1 rfl) ?_
  refine mn_arg (pc := 908) (j := 1) (by decide +kernel) (by decide +kernel) (by decide +kernel) (by decide +kernel) (by decide +kernel) hL hi (by decide) hLX ?_
  refine mn_arg (pc := 914) (j := 2) (by decide +kernel) (by decide +kernel) (by decide +kernel) (by decide +kernel) (by decide +kernel) hL hi (by decide) hLX ?_
  refine gm_sz (gm_p_load (pc := 920) (i := .aload_n 3) (sr := 2) (j := 3) (by decide +kernel) rfl hL.2.2.2.2.1 rfl) ?_
  refine mn_x (pc := 921) (ix := 205) (mj := 171) (xs := [X (i + 1), X (i + 2)]) (st := []) (ds := [(-2147483648, 2147483647), (-2147483648, 2147483647)]) (md := 0) hb (by omega) (by decide +kernel) (by decide +kernel) (by decide +kernel) (by decide +kernel) (show 4 = gm_na 171 by decide +kernel) (show 4 ≤ gm_ml 171 by decide +kernel) (Nat.le_of_ble_eq_true rfl) hx_hut_s hl_hut_s hx_hut_c hl_hut_c hx_hut_v hl_hut_v (bc_in1 (mn_w (hX _)) (bc_in1 (mn_w (hX _)) bc_in0)) (List.forall_mem_cons.mpr ⟨hX _, (List.forall_mem_cons.mpr ⟨hX _, (fun _ h => nomatch h)⟩)⟩) (by omega) (by omega) (fun g1 la1 K1 R1 M1 u1 hb1 hg1 ho1 hp1 hu1 => ?_)
  have hp1 : M1 1 6 = M 1 6 := hp1
  obtain ⟨y1, rfl⟩ : ∃ y, u1 = some (gm_vi y) := hu1
  show gm_Wp X LX 280 _ _ 369 924 L [gm_vi y1] (245 + 4 * g1) K1 R1 M1 Q
  refine gm_sz (gm_p_stor (pc := 924) (i := .istore 5) (sr := 0) (j := 5) (by decide +kernel) rfl (by show 5 + 0 < L.length; have := hL.1; omega) rfl) ?_
  have hL5 := mn_L_s (y := y1) hL (j := 5) (Or.inl rfl)
  generalize gm_lst L 5 (gm_vi y1) = L5 at hL5 ⊢
  refine gm_sz (gm_p_load (pc := 926) (i := .aload_n 2) (sr := 2) (j := 2) (by decide +kernel) rfl hL5.2.2.2.1 rfl) ?_
  refine mn_arg (pc := 927) (j := 1) (by decide +kernel) (by decide +kernel) (by decide +kernel) (by decide +kernel) (by decide +kernel) hL5 hi (by decide) hLX ?_
  refine mn_arg (pc := 933) (j := 2) (by decide +kernel) (by decide +kernel) (by decide +kernel) (by decide +kernel) (by decide +kernel) hL5 hi (by decide) hLX ?_
  refine mn_m (pc := 939) (ix := 207) (mj := 327) (xs := [X (i + 1), X (i + 2)]) (st := []) (ds := [(-2147483648, 2147483647), (-2147483648, 2147483647)]) (md := 0) (r := true) hb1 (by omega) (by decide +kernel) (by decide +kernel) (by decide +kernel) (by decide +kernel) (show 2 = gm_na 327 by decide +kernel) (show 3 ≤ gm_ml 327 by decide +kernel) (Nat.le_of_ble_eq_true rfl) hm_hut_s hm_hut_c hm_hut_v (bc_in1 (mn_w (hX _)) (bc_in1 (mn_w (hX _)) bc_in0)) (List.forall_mem_cons.mpr ⟨hX _, (List.forall_mem_cons.mpr ⟨hX _, (fun _ h => nomatch h)⟩)⟩) (by omega) (by omega) (fun g2 la2 K2 R2 M2 u2 hb2 hg2 ho2 hp2 hu2 => ?_)
  have hp2 : M2 226 5 = M1 226 5 := hp2
  obtain ⟨y2, rfl⟩ : ∃ y, u2 = some (gm_vi y) := hu2
  show gm_Wp X LX 280 _ _ 369 942 L5 [gm_vi y2] (245 + 4 * g2) K2 R2 M2 Q
  refine gm_sz (gm_p_stor (pc := 942) (i := .istore 6) (sr := 0) (j := 6) (by decide +kernel) rfl (by show 6 + 0 < L5.length; have := hL5.1; omega) rfl) ?_
  have hL6 := mn_L_s (y := y2) hL5 (j := 6) (Or.inr rfl)
  generalize gm_lst L5 6 (gm_vi y2) = L6 at hL6 ⊢
  refine gm_sz (gm_p_goto (pc := 944) (off := 1021) (by decide +kernel) (by decide)) ?_
  exact gm_Wp_wk (Nat.le_refl _) (by omega) (by omega) (rest g2 la2 K2 R2 M2 L6 hb2 (by omega) (by omega) hL6)
theorem mc_19 (hb : bg g la K R M) (hg : g < 9990) (hM : M 1 6 = M 226 5) (hL : mn_L i L) (hi : 0 ≤ i ∧ i + 6 ≤ (LX : Int)) (hLX : LX ≤ 3072) (hX : ∀ j, gm_ir (X j)) (hbc : 12 ≤ bc) (hbs : 1200 ≤ bs) (rest : mn_R X LX bc bs i g Q) : gm_Wp X LX 280 bc bs 369 947 L [] (245 + 4 * g) K R M Q := by
  refine gm_sz (gm_p_load (pc := 947) (i := .aload_n 1) (sr := 2) (j := 1) (by decide +kernel) rfl hL.2.2.1 rfl) ?_
  refine mn_arg (pc := 948) (j := 1) (by decide +kernel) (by decide +kernel) (by decide +kernel) (by decide +kernel) (by decide +kernel) hL hi (by decide) hLX ?_
  refine mn_arg (pc := 954) (j := 2) (by decide +kernel) (by decide +kernel) (by decide +kernel) (by decide +kernel) (by decide +kernel) hL hi (by decide) hLX ?_
  refine gm_sz (gm_p_load (pc := 960) (i := .aload_n 3) (sr := 2) (j := 3) (by decide +kernel) rfl hL.2.2.2.2.1 rfl) ?_
  refine mn_x (pc := 961) (ix := 208) (mj := 173) (xs := [X (i + 1), X (i + 2)]) (st := []) (ds := [(-2147483648, 2147483647), (-2147483648, 2147483647)]) (md := 0) hb (by omega) (by decide +kernel) (by decide +kernel) (by decide +kernel) (by decide +kernel) (show 4 = gm_na 173 by decide +kernel) (show 4 ≤ gm_ml 173 by decide +kernel) (Nat.le_of_ble_eq_true rfl) hx_without_s hl_without_s hx_without_c hl_without_c hx_without_v hl_without_v (bc_in1 (mn_w (hX _)) (bc_in1 (mn_w (hX _)) bc_in0)) (List.forall_mem_cons.mpr ⟨hX _, (List.forall_mem_cons.mpr ⟨hX _, (fun _ h => nomatch h)⟩)⟩) (by omega) (by omega) (fun g1 la1 K1 R1 M1 u1 hb1 hg1 ho1 hp1 hu1 => ?_)
  have hp1 : M1 1 6 = M 1 6 := hp1
  obtain ⟨y1, rfl⟩ : ∃ y, u1 = some (gm_vi y) := hu1
  show gm_Wp X LX 280 _ _ 369 964 L [gm_vi y1] (245 + 4 * g1) K1 R1 M1 Q
  refine gm_sz (gm_p_stor (pc := 964) (i := .istore 5) (sr := 0) (j := 5) (by decide +kernel) rfl (by show 5 + 0 < L.length; have := hL.1; omega) rfl) ?_
  have hL5 := mn_L_s (y := y1) hL (j := 5) (Or.inl rfl)
  generalize gm_lst L 5 (gm_vi y1) = L5 at hL5 ⊢
  refine gm_sz (gm_p_load (pc := 966) (i := .aload_n 2) (sr := 2) (j := 2) (by decide +kernel) rfl hL5.2.2.2.1 rfl) ?_
  refine mn_arg (pc := 967) (j := 1) (by decide +kernel) (by decide +kernel) (by decide +kernel) (by decide +kernel) (by decide +kernel) hL5 hi (by decide) hLX ?_
  refine mn_arg (pc := 973) (j := 2) (by decide +kernel) (by decide +kernel) (by decide +kernel) (by decide +kernel) (by decide +kernel) hL5 hi (by decide) hLX ?_
  refine mn_m (pc := 979) (ix := 210) (mj := 328) (xs := [X (i + 1), X (i + 2)]) (st := []) (ds := [(-2147483648, 2147483647), (-2147483648, 2147483647)]) (md := 0) (r := true) hb1 (by omega) (by decide +kernel) (by decide +kernel) (by decide +kernel) (by decide +kernel) (show 2 = gm_na 328 by decide +kernel) (show 3 ≤ gm_ml 328 by decide +kernel) (Nat.le_of_ble_eq_true rfl) hm_without_s hm_without_c hm_without_v (bc_in1 (mn_w (hX _)) (bc_in1 (mn_w (hX _)) bc_in0)) (List.forall_mem_cons.mpr ⟨hX _, (List.forall_mem_cons.mpr ⟨hX _, (fun _ h => nomatch h)⟩)⟩) (by omega) (by omega) (fun g2 la2 K2 R2 M2 u2 hb2 hg2 ho2 hp2 hu2 => ?_)
  have hp2 : M2 226 5 = M1 226 5 := hp2
  obtain ⟨y2, rfl⟩ : ∃ y, u2 = some (gm_vi y) := hu2
  show gm_Wp X LX 280 _ _ 369 982 L5 [gm_vi y2] (245 + 4 * g2) K2 R2 M2 Q
  refine gm_sz (gm_p_stor (pc := 982) (i := .istore 6) (sr := 0) (j := 6) (by decide +kernel) rfl (by show 6 + 0 < L5.length; have := hL5.1; omega) rfl) ?_
  have hL6 := mn_L_s (y := y2) hL5 (j := 6) (Or.inr rfl)
  generalize gm_lst L5 6 (gm_vi y2) = L6 at hL6 ⊢
  refine gm_sz (gm_p_goto (pc := 984) (off := 981) (by decide +kernel) (by decide)) ?_
  exact gm_Wp_wk (Nat.le_refl _) (by omega) (by omega) (rest g2 la2 K2 R2 M2 L6 hb2 (by omega) (by omega) hL6)
theorem mc_20 (hb : bg g la K R M) (hg : g < 9990) (hM : M 1 6 = M 226 5) (hL : mn_L i L) (hi : 0 ≤ i ∧ i + 6 ≤ (LX : Int)) (hLX : LX ≤ 3072) (hX : ∀ j, gm_ir (X j)) (hbc : 12 ≤ bc) (hbs : 1200 ≤ bs) (rest : mn_R X LX bc bs i g Q) : gm_Wp X LX 280 bc bs 369 987 L [] (245 + 4 * g) K R M Q := by
  refine gm_sz (gm_p_load (pc := 987) (i := .aload_n 1) (sr := 2) (j := 1) (by decide +kernel) rfl hL.2.2.1 rfl) ?_
  refine mn_arg (pc := 988) (j := 1) (by decide +kernel) (by decide +kernel) (by decide +kernel) (by decide +kernel) (by decide +kernel) hL hi (by decide) hLX ?_
  refine gm_sz (gm_p_load (pc := 994) (i := .aload_n 3) (sr := 2) (j := 3) (by decide +kernel) rfl hL.2.2.2.2.1 rfl) ?_
  refine mn_x (pc := 995) (ix := 211) (mj := 176) (xs := [X (i + 1)]) (st := []) (ds := [(-2147483648, 2147483647)]) (md := 0) hb (by omega) (by decide +kernel) (by decide +kernel) (by decide +kernel) (by decide +kernel) (show 3 = gm_na 176 by decide +kernel) (show 3 ≤ gm_ml 176 by decide +kernel) (Nat.le_of_ble_eq_true rfl) hx_moved_s hl_moved_s hx_moved_c hl_moved_c hx_moved_v hl_moved_v (bc_in1 (mn_w (hX _)) bc_in0) (List.forall_mem_cons.mpr ⟨hX _, (fun _ h => nomatch h)⟩) (by omega) (by omega) (fun g1 la1 K1 R1 M1 u1 hb1 hg1 ho1 hp1 hu1 => ?_)
  have hp1 : M1 1 6 = M 1 6 := hp1
  obtain ⟨y1, rfl⟩ : ∃ y, u1 = some (gm_vi y) := hu1
  show gm_Wp X LX 280 _ _ 369 998 L [gm_vi y1] (245 + 4 * g1) K1 R1 M1 Q
  refine gm_sz (gm_p_stor (pc := 998) (i := .istore 5) (sr := 0) (j := 5) (by decide +kernel) rfl (by show 5 + 0 < L.length; have := hL.1; omega) rfl) ?_
  have hL5 := mn_L_s (y := y1) hL (j := 5) (Or.inl rfl)
  generalize gm_lst L 5 (gm_vi y1) = L5 at hL5 ⊢
  refine gm_sz (gm_p_load (pc := 1000) (i := .aload_n 2) (sr := 2) (j := 2) (by decide +kernel) rfl hL5.2.2.2.1 rfl) ?_
  refine mn_arg (pc := 1001) (j := 1) (by decide +kernel) (by decide +kernel) (by decide +kernel) (by decide +kernel) (by decide +kernel) hL5 hi (by decide) hLX ?_
  refine mn_m (pc := 1007) (ix := 213) (mj := 329) (xs := [X (i + 1)]) (st := []) (ds := [(-2147483648, 2147483647)]) (md := 0) (r := true) hb1 (by omega) (by decide +kernel) (by decide +kernel) (by decide +kernel) (by decide +kernel) (show 1 = gm_na 329 by decide +kernel) (show 2 ≤ gm_ml 329 by decide +kernel) (Nat.le_of_ble_eq_true rfl) hm_moved_s hm_moved_c hm_moved_v (bc_in1 (mn_w (hX _)) bc_in0) (List.forall_mem_cons.mpr ⟨hX _, (fun _ h => nomatch h)⟩) (by omega) (by omega) (fun g2 la2 K2 R2 M2 u2 hb2 hg2 ho2 hp2 hu2 => ?_)
  have hp2 : M2 226 5 = M1 226 5 := hp2
  obtain ⟨y2, rfl⟩ : ∃ y, u2 = some (gm_vi y) := hu2
  show gm_Wp X LX 280 _ _ 369 1010 L5 [gm_vi y2] (245 + 4 * g2) K2 R2 M2 Q
  refine gm_sz (gm_p_stor (pc := 1010) (i := .istore 6) (sr := 0) (j := 6) (by decide +kernel) rfl (by show 6 + 0 < L5.length; have := hL5.1; omega) rfl) ?_
  have hL6 := mn_L_s (y := y2) hL5 (j := 6) (Or.inr rfl)
  generalize gm_lst L5 6 (gm_vi y2) = L6 at hL6 ⊢
  refine gm_sz (gm_p_goto (pc := 1012) (off := 953) (by decide +kernel) (by decide)) ?_
  exact gm_Wp_wk (Nat.le_refl _) (by omega) (by omega) (rest g2 la2 K2 R2 M2 L6 hb2 (by omega) (by omega) hL6)
theorem mc_21 (hb : bg g la K R M) (hg : g < 9990) (hM : M 1 6 = M 226 5) (hL : mn_L i L) (hi : 0 ≤ i ∧ i + 6 ≤ (LX : Int)) (hLX : LX ≤ 3072) (hX : ∀ j, gm_ir (X j)) (hbc : 12 ≤ bc) (hbs : 1200 ≤ bs) (rest : mn_R X LX bc bs i g Q) : gm_Wp X LX 280 bc bs 369 1015 L [] (245 + 4 * g) K R M Q := by
  refine gm_sz (gm_p_load (pc := 1015) (i := .aload_n 1) (sr := 2) (j := 1) (by decide +kernel) rfl hL.2.2.1 rfl) ?_
  refine mn_d (pc := 1016) (ix := 214) (mj := 23) (xs := []) (st := []) (ds := []) (md := 0) (r := true) hb (by omega) (by decide +kernel) (by decide +kernel) (by decide +kernel) (by decide +kernel) (show 0 = gm_na 23 by decide +kernel) (show 1 ≤ gm_ml 23 by decide +kernel) (Nat.le_of_ble_eq_true rfl) hx_lost_s hl_lost_s hx_lost_c hl_lost_c hx_lost_v hl_lost_v bc_in0 (fun _ h => nomatch h) (by omega) (by omega) (fun g1 la1 K1 R1 M1 u1 hb1 hg1 ho1 hp1 hu1 => ?_)
  have hp1 : M1 1 6 = M 1 6 := hp1
  obtain ⟨y1, rfl⟩ : ∃ y, u1 = some (gm_vi y) := hu1
  show gm_Wp X LX 280 _ _ 369 1019 L [gm_vi y1] (245 + 4 * g1) K1 R1 M1 Q
  refine gm_sz (gm_p_pop (pc := 1019) (by decide +kernel) (by simp [gm_sort])) ?_
  refine gm_sz (gm_p_load (pc := 1020) (i := .aload_n 2) (sr := 2) (j := 2) (by decide +kernel) rfl hL.2.2.2.1 rfl) ?_
  refine mn_m (pc := 1021) (ix := 217) (mj := 330) (xs := []) (st := []) (ds := []) (md := 0) (r := true) hb1 (by omega) (by decide +kernel) (by decide +kernel) (by decide +kernel) (by decide +kernel) (show 0 = gm_na 330 by decide +kernel) (show 1 ≤ gm_ml 330 by decide +kernel) (Nat.le_of_ble_eq_true rfl) hm_lost_s hm_lost_c hm_lost_v bc_in0 (fun _ h => nomatch h) (by omega) (by omega) (fun g2 la2 K2 R2 M2 u2 hb2 hg2 ho2 hp2 hu2 => ?_)
  have hp2 : M2 226 5 = M1 226 5 := hp2
  obtain ⟨y2, rfl⟩ : ∃ y, u2 = some (gm_vi y) := hu2
  show gm_Wp X LX 280 _ _ 369 1024 L [gm_vi y2] (245 + 4 * g2) K2 R2 M2 Q
  refine gm_sz (gm_p_pop (pc := 1024) (by decide +kernel) (by simp [gm_sort])) ?_
  refine gm_sz (gm_p_goto (pc := 1025) (off := 940) (by decide +kernel) (by decide)) ?_
  exact gm_Wp_wk (Nat.le_refl _) (by omega) (by omega) (rest g2 la2 K2 R2 M2 L hb2 (by omega) (by omega) hL)
theorem mc_22 (hb : bg g la K R M) (hg : g < 9990) (hM : M 1 6 = M 226 5) (hL : mn_L i L) (hi : 0 ≤ i ∧ i + 6 ≤ (LX : Int)) (hLX : LX ≤ 3072) (hX : ∀ j, gm_ir (X j)) (hbc : 12 ≤ bc) (hbs : 1200 ≤ bs) (rest : mn_R X LX bc bs i g Q) : gm_Wp X LX 280 bc bs 369 1028 L [] (245 + 4 * g) K R M Q := by
  refine gm_sz (gm_p_load (pc := 1028) (i := .aload_n 1) (sr := 2) (j := 1) (by decide +kernel) rfl hL.2.2.1 rfl) ?_
  refine mn_arg (pc := 1029) (j := 1) (by decide +kernel) (by decide +kernel) (by decide +kernel) (by decide +kernel) (by decide +kernel) hL hi (by decide) hLX ?_
  refine mn_bool (pc := 1035) (by decide +kernel) (by decide +kernel) (by decide +kernel) (by decide +kernel) (fun b1 p1 q1 => ?_)
  refine mn_d (pc := 1043) (ix := 218) (mj := 46) (xs := [b1]) (st := []) (ds := [(0, 1)]) (md := 0) (r := true) hb (by omega) (by decide +kernel) (by decide +kernel) (by decide +kernel) (by decide +kernel) (show 1 = gm_na 46 by decide +kernel) (show 2 ≤ gm_ml 46 by decide +kernel) (Nat.le_of_ble_eq_true rfl) hx_market_s hl_market_s hx_market_c hl_market_c hx_market_v hl_market_v (bc_in1 ⟨p1, q1⟩ bc_in0) (List.forall_mem_cons.mpr ⟨⟨by omega, by omega⟩, (fun _ h => nomatch h)⟩) (by omega) (by omega) (fun g1 la1 K1 R1 M1 u1 hb1 hg1 ho1 hp1 hu1 => ?_)
  have hp1 : M1 1 6 = M 1 6 := hp1
  obtain ⟨y1, rfl⟩ : ∃ y, u1 = some (gm_vi y) := hu1
  show gm_Wp X LX 280 _ _ 369 1046 L [gm_vi y1] (245 + 4 * g1) K1 R1 M1 Q
  refine gm_sz (gm_p_pop (pc := 1046) (by decide +kernel) (by simp [gm_sort])) ?_
  refine gm_sz (gm_p_load (pc := 1047) (i := .aload_n 2) (sr := 2) (j := 2) (by decide +kernel) rfl hL.2.2.2.1 rfl) ?_
  refine mn_arg (pc := 1048) (j := 1) (by decide +kernel) (by decide +kernel) (by decide +kernel) (by decide +kernel) (by decide +kernel) hL hi (by decide) hLX ?_
  refine mn_bool (pc := 1054) (by decide +kernel) (by decide +kernel) (by decide +kernel) (by decide +kernel) (fun b2 p2 q2 => ?_)
  refine mn_m (pc := 1062) (ix := 222) (mj := 331) (xs := [b2]) (st := []) (ds := [(0, 1)]) (md := 0) (r := true) hb1 (by omega) (by decide +kernel) (by decide +kernel) (by decide +kernel) (by decide +kernel) (show 1 = gm_na 331 by decide +kernel) (show 2 ≤ gm_ml 331 by decide +kernel) (Nat.le_of_ble_eq_true rfl) hm_market_s hm_market_c hm_market_v (bc_in1 ⟨p2, q2⟩ bc_in0) (List.forall_mem_cons.mpr ⟨⟨by omega, by omega⟩, (fun _ h => nomatch h)⟩) (by omega) (by omega) (fun g2 la2 K2 R2 M2 u2 hb2 hg2 ho2 hp2 hu2 => ?_)
  have hp2 : M2 226 5 = M1 226 5 := hp2
  obtain ⟨y2, rfl⟩ : ∃ y, u2 = some (gm_vi y) := hu2
  show gm_Wp X LX 280 _ _ 369 1065 L [gm_vi y2] (245 + 4 * g2) K2 R2 M2 Q
  refine gm_sz (gm_p_pop (pc := 1065) (by decide +kernel) (by simp [gm_sort])) ?_
  refine gm_sz (gm_p_goto (pc := 1066) (off := 899) (by decide +kernel) (by decide)) ?_
  exact gm_Wp_wk (Nat.le_refl _) (by omega) (by omega) (rest g2 la2 K2 R2 M2 L hb2 (by omega) (by omega) hL)
theorem mc_23 (hb : bg g la K R M) (hg : g < 9990) (hM : M 1 6 = M 226 5) (hL : mn_L i L) (hi : 0 ≤ i ∧ i + 6 ≤ (LX : Int)) (hLX : LX ≤ 3072) (hX : ∀ j, gm_ir (X j)) (hbc : 12 ≤ bc) (hbs : 1200 ≤ bs) (rest : mn_R X LX bc bs i g Q) : gm_Wp X LX 280 bc bs 369 1069 L [] (245 + 4 * g) K R M Q := by
  refine gm_sz (gm_p_load (pc := 1069) (i := .aload_n 1) (sr := 2) (j := 1) (by decide +kernel) rfl hL.2.2.1 rfl) ?_
  refine mn_arg (pc := 1070) (j := 1) (by decide +kernel) (by decide +kernel) (by decide +kernel) (by decide +kernel) (by decide +kernel) hL hi (by decide) hLX ?_
  refine gm_sz (gm_p_load (pc := 1076) (i := .aload_n 3) (sr := 2) (j := 3) (by decide +kernel) rfl hL.2.2.2.2.1 rfl) ?_
  refine mn_x (pc := 1077) (ix := 223) (mj := 178) (xs := [X (i + 1)]) (st := []) (ds := [(-2147483648, 2147483647)]) (md := 0) hb (by omega) (by decide +kernel) (by decide +kernel) (by decide +kernel) (by decide +kernel) (show 3 = gm_na 178 by decide +kernel) (show 3 ≤ gm_ml 178 by decide +kernel) (Nat.le_of_ble_eq_true rfl) hx_passes_s hl_passes_s hx_passes_c hl_passes_c hx_passes_v hl_passes_v (bc_in1 (mn_w (hX _)) bc_in0) (List.forall_mem_cons.mpr ⟨hX _, (fun _ h => nomatch h)⟩) (by omega) (by omega) (fun g1 la1 K1 R1 M1 u1 hb1 hg1 ho1 hp1 hu1 => ?_)
  have hp1 : M1 1 6 = M 1 6 := hp1
  obtain ⟨y1, rfl⟩ : ∃ y, u1 = some (gm_vi y) := hu1
  show gm_Wp X LX 280 _ _ 369 1080 L [gm_vi y1] (245 + 4 * g1) K1 R1 M1 Q
  refine gm_sz (gm_p_stor (pc := 1080) (i := .istore 5) (sr := 0) (j := 5) (by decide +kernel) rfl (by show 5 + 0 < L.length; have := hL.1; omega) rfl) ?_
  have hL5 := mn_L_s (y := y1) hL (j := 5) (Or.inl rfl)
  generalize gm_lst L 5 (gm_vi y1) = L5 at hL5 ⊢
  refine gm_sz (gm_p_load (pc := 1082) (i := .aload_n 2) (sr := 2) (j := 2) (by decide +kernel) rfl hL5.2.2.2.1 rfl) ?_
  refine mn_arg (pc := 1083) (j := 1) (by decide +kernel) (by decide +kernel) (by decide +kernel) (by decide +kernel) (by decide +kernel) hL5 hi (by decide) hLX ?_
  refine mn_m (pc := 1089) (ix := 225) (mj := 334) (xs := [X (i + 1)]) (st := []) (ds := [(-2147483648, 2147483647)]) (md := 0) (r := true) hb1 (by omega) (by decide +kernel) (by decide +kernel) (by decide +kernel) (by decide +kernel) (show 1 = gm_na 334 by decide +kernel) (show 2 ≤ gm_ml 334 by decide +kernel) (Nat.le_of_ble_eq_true rfl) hm_passes_s hm_passes_c hm_passes_v (bc_in1 (mn_w (hX _)) bc_in0) (List.forall_mem_cons.mpr ⟨hX _, (fun _ h => nomatch h)⟩) (by omega) (by omega) (fun g2 la2 K2 R2 M2 u2 hb2 hg2 ho2 hp2 hu2 => ?_)
  have hp2 : M2 226 5 = M1 226 5 := hp2
  obtain ⟨y2, rfl⟩ : ∃ y, u2 = some (gm_vi y) := hu2
  show gm_Wp X LX 280 _ _ 369 1092 L5 [gm_vi y2] (245 + 4 * g2) K2 R2 M2 Q
  refine gm_sz (gm_p_stor (pc := 1092) (i := .istore 6) (sr := 0) (j := 6) (by decide +kernel) rfl (by show 6 + 0 < L5.length; have := hL5.1; omega) rfl) ?_
  have hL6 := mn_L_s (y := y2) hL5 (j := 6) (Or.inr rfl)
  generalize gm_lst L5 6 (gm_vi y2) = L6 at hL6 ⊢
  refine gm_sz (gm_p_goto (pc := 1094) (off := 871) (by decide +kernel) (by decide)) ?_
  exact gm_Wp_wk (Nat.le_refl _) (by omega) (by omega) (rest g2 la2 K2 R2 M2 L6 hb2 (by omega) (by omega) hL6)
theorem mc_24 (hb : bg g la K R M) (hg : g < 9990) (hM : M 1 6 = M 226 5) (hL : mn_L i L) (hi : 0 ≤ i ∧ i + 6 ≤ (LX : Int)) (hLX : LX ≤ 3072) (hX : ∀ j, gm_ir (X j)) (hbc : 12 ≤ bc) (hbs : 1200 ≤ bs) (rest : mn_R X LX bc bs i g Q) : gm_Wp X LX 280 bc bs 369 1097 L [] (245 + 4 * g) K R M Q := by
  refine gm_sz (gm_p_load (pc := 1097) (i := .aload_n 1) (sr := 2) (j := 1) (by decide +kernel) rfl hL.2.2.1 rfl) ?_
  refine mn_arg (pc := 1098) (j := 1) (by decide +kernel) (by decide +kernel) (by decide +kernel) (by decide +kernel) (by decide +kernel) hL hi (by decide) hLX ?_
  refine mn_arg (pc := 1104) (j := 2) (by decide +kernel) (by decide +kernel) (by decide +kernel) (by decide +kernel) (by decide +kernel) hL hi (by decide) hLX ?_
  refine mn_arg (pc := 1110) (j := 3) (by decide +kernel) (by decide +kernel) (by decide +kernel) (by decide +kernel) (by decide +kernel) hL hi (by decide) hLX ?_
  refine gm_sz (gm_p_load (pc := 1116) (i := .aload_n 3) (sr := 2) (j := 3) (by decide +kernel) rfl hL.2.2.2.2.1 rfl) ?_
  refine mn_x (pc := 1117) (ix := 226) (mj := 185) (xs := [X (i + 1), X (i + 2), X (i + 3)]) (st := []) (ds := [(-2147483648, 2147483647), (-2147483648, 2147483647), (-2147483648, 2147483647)]) (md := 0) hb (by omega) (by decide +kernel) (by decide +kernel) (by decide +kernel) (by decide +kernel) (show 5 = gm_na 185 by decide +kernel) (show 5 ≤ gm_ml 185 by decide +kernel) (Nat.le_of_ble_eq_true rfl) hx_writers_s hl_writers_s hx_writers_c hl_writers_c hx_writers_v hl_writers_v (bc_in1 (mn_w (hX _)) (bc_in1 (mn_w (hX _)) (bc_in1 (mn_w (hX _)) bc_in0))) (List.forall_mem_cons.mpr ⟨hX _, (List.forall_mem_cons.mpr ⟨hX _, (List.forall_mem_cons.mpr ⟨hX _, (fun _ h => nomatch h)⟩)⟩)⟩) (by omega) (by omega) (fun g1 la1 K1 R1 M1 u1 hb1 hg1 ho1 hp1 hu1 => ?_)
  have hp1 : M1 1 6 = M 1 6 := hp1
  obtain ⟨y1, rfl⟩ : ∃ y, u1 = some (gm_vi y) := hu1
  show gm_Wp X LX 280 _ _ 369 1120 L [gm_vi y1] (245 + 4 * g1) K1 R1 M1 Q
  refine gm_sz (gm_p_stor (pc := 1120) (i := .istore 5) (sr := 0) (j := 5) (by decide +kernel) rfl (by show 5 + 0 < L.length; have := hL.1; omega) rfl) ?_
  have hL5 := mn_L_s (y := y1) hL (j := 5) (Or.inl rfl)
  generalize gm_lst L 5 (gm_vi y1) = L5 at hL5 ⊢
  refine gm_sz (gm_p_load (pc := 1122) (i := .aload_n 2) (sr := 2) (j := 2) (by decide +kernel) rfl hL5.2.2.2.1 rfl) ?_
  refine mn_arg (pc := 1123) (j := 1) (by decide +kernel) (by decide +kernel) (by decide +kernel) (by decide +kernel) (by decide +kernel) hL5 hi (by decide) hLX ?_
  refine mn_arg (pc := 1129) (j := 2) (by decide +kernel) (by decide +kernel) (by decide +kernel) (by decide +kernel) (by decide +kernel) hL5 hi (by decide) hLX ?_
  refine mn_arg (pc := 1135) (j := 3) (by decide +kernel) (by decide +kernel) (by decide +kernel) (by decide +kernel) (by decide +kernel) hL5 hi (by decide) hLX ?_
  refine mn_m (pc := 1141) (ix := 228) (mj := 338) (xs := [X (i + 1), X (i + 2), X (i + 3)]) (st := []) (ds := [(-2147483648, 2147483647), (-2147483648, 2147483647), (-2147483648, 2147483647)]) (md := 0) (r := true) hb1 (by omega) (by decide +kernel) (by decide +kernel) (by decide +kernel) (by decide +kernel) (show 3 = gm_na 338 by decide +kernel) (show 4 ≤ gm_ml 338 by decide +kernel) (Nat.le_of_ble_eq_true rfl) hm_writers_s hm_writers_c hm_writers_v (bc_in1 (mn_w (hX _)) (bc_in1 (mn_w (hX _)) (bc_in1 (mn_w (hX _)) bc_in0))) (List.forall_mem_cons.mpr ⟨hX _, (List.forall_mem_cons.mpr ⟨hX _, (List.forall_mem_cons.mpr ⟨hX _, (fun _ h => nomatch h)⟩)⟩)⟩) (by omega) (by omega) (fun g2 la2 K2 R2 M2 u2 hb2 hg2 ho2 hp2 hu2 => ?_)
  have hp2 : M2 226 5 = M1 226 5 := hp2
  obtain ⟨y2, rfl⟩ : ∃ y, u2 = some (gm_vi y) := hu2
  show gm_Wp X LX 280 _ _ 369 1144 L5 [gm_vi y2] (245 + 4 * g2) K2 R2 M2 Q
  refine gm_sz (gm_p_stor (pc := 1144) (i := .istore 6) (sr := 0) (j := 6) (by decide +kernel) rfl (by show 6 + 0 < L5.length; have := hL5.1; omega) rfl) ?_
  have hL6 := mn_L_s (y := y2) hL5 (j := 6) (Or.inr rfl)
  generalize gm_lst L5 6 (gm_vi y2) = L6 at hL6 ⊢
  refine gm_sz (gm_p_goto (pc := 1146) (off := 819) (by decide +kernel) (by decide)) ?_
  exact gm_Wp_wk (Nat.le_refl _) (by omega) (by omega) (rest g2 la2 K2 R2 M2 L6 hb2 (by omega) (by omega) hL6)
end MCC
