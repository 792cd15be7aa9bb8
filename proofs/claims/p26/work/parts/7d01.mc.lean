/-! 7d01.mc -/
section
/-! THE LAW'S CASES, told of class and reference (laid by wip/rel/gq.py). -/
def fa (X : Int → Int) (i : Int) : Int → Int := fun z => if z = 0 then X (i + 1) else if z = 1 then X (i + 2) else if z = 2 then X (i + 3) else if z = 3 then X (i + 4) else X (i + 5)
theorem fa_ir {X : Int → Int} (hX : ∀ j, gm_ir (X j)) {i z : Int} : gm_ir (fa X i z) := by
  unfold fa
  split
  · exact hX _
  · split
    · exact hX _
    · split
      · exact hX _
      · split
        · exact hX _
        · exact hX _
/-- what comes behind a case -/
noncomputable def mn_R (X : Int → Int) (LX bc bs : Nat) (i : Int) (g : Nat) (Q : gm_Q) : Prop := ∀ (g' : Nat) (la' : Nat → Nat) (K2 : gm_K) (R2 : gm_R) (M2 : gm_M) (L2 : gm_L), bg g' la' K2 R2 M2 → g' ≤ g + 2 → RELW la' K2 M2 → mn_L i L2 → gm_Wp X LX 280 (bc - 12) (bs - 1200) 370 1993 L2 [] (245 + 4 * g') K2 R2 M2 Q
theorem am_writers_c2 : am_writers.all (fun S => w_kR S && (w_r true S && bc_keep S 245 0)) = true := by decide +kernel
section MCC
variable {X : Int → Int} {LX g bc bs : Nat} {i : Int} {la : Nat → Nat} {K : gm_K} {R : gm_R} {M : gm_M} {Q : gm_Q} {L : gm_L}
theorem mc_0 (hb : bg g la K R M) (hg : g < 9990) (hM : RELW la K M) (hL : mn_L i L) (hi : 0 ≤ i ∧ i + 6 ≤ (LX : Int)) (hLX : LX ≤ 3072) (hX : ∀ j, gm_ir (X j)) (hbc : 12 ≤ bc) (hbs : 1200 ≤ bs) (rest : mn_R X LX bc bs i g Q) : gm_Wp X LX 280 bc bs 370 244 L [] (245 + 4 * g) K R M Q := by
  obtain ⟨N, lw, A, im, t, w, f, hM⟩ := hM
  refine gm_sz (gm_p_load (pc := 244) (i := .aload_n 1) (sr := 2) (j := 1) (by decide +kernel) rfl hL.2.2.1 rfl) ?_
  refine mn_arg (pc := 245) (j := 1) (by decide +kernel) (by decide +kernel) (by decide +kernel) (by decide +kernel) (by decide +kernel) hL hi (by decide) hLX ?_
  refine mn_arg (pc := 251) (j := 2) (by decide +kernel) (by decide +kernel) (by decide +kernel) (by decide +kernel) (by decide +kernel) hL hi (by decide) hLX ?_
  refine mn_arg (pc := 257) (j := 3) (by decide +kernel) (by decide +kernel) (by decide +kernel) (by decide +kernel) (by decide +kernel) hL hi (by decide) hLX ?_
  refine mn_arg (pc := 263) (j := 4) (by decide +kernel) (by decide +kernel) (by decide +kernel) (by decide +kernel) (by decide +kernel) hL hi (by decide) hLX ?_
  refine mn_arg (pc := 269) (j := 5) (by decide +kernel) (by decide +kernel) (by decide +kernel) (by decide +kernel) (by decide +kernel) hL hi (by decide) hLX ?_
  show gm_Wp X LX 280 _ _ 370 275 L (gm_vi (fa X i 4) :: gm_vi (fa X i 3) :: gm_vi (fa X i 2) :: gm_vi (fa X i 1) :: gm_vi (fa X i 0) :: gm_vr 1 :: []) (245 + 4 * g) _ _ _ Q
  refine ow_feed (pc := 275) (ix := 139) (st := []) hb (by omega) hM (by decide +kernel) (by decide +kernel) (Nat.le_of_ble_eq_true rfl) ax_feed_s al_feed_s ax_feed_c al_feed_c ax_feed_v al_feed_v (bc_in1 (mn_w (fa_ir hX)) (bc_in1 (mn_w (fa_ir hX)) (bc_in1 (mn_w (fa_ir hX)) (bc_in1 (mn_w (fa_ir hX)) (bc_in1 (mn_w (fa_ir hX)) bc_in0))))) (fun j => fa_ir hX) (by omega) (by omega) ?_
  intro la1 K1 R1 M1 hb1 hM1 hv1
  show gm_Wp X LX 280 _ _ 370 278 L [gm_vi ((ap_feed (fa X i) t f).1)] (245 + 4 * g) K1 R1 M1 Q
  refine gm_sz (gm_p_pop (pc := 278) (by decide +kernel) (by simp [gm_sort])) ?_
  refine gm_sz (gm_p_load (pc := 279) (i := .aload_n 2) (sr := 2) (j := 2) (by decide +kernel) rfl hL.2.2.2.1 rfl) ?_
  refine mn_arg (pc := 280) (j := 1) (by decide +kernel) (by decide +kernel) (by decide +kernel) (by decide +kernel) (by decide +kernel) hL hi (by decide) hLX ?_
  refine mn_arg (pc := 286) (j := 2) (by decide +kernel) (by decide +kernel) (by decide +kernel) (by decide +kernel) (by decide +kernel) hL hi (by decide) hLX ?_
  refine mn_arg (pc := 292) (j := 3) (by decide +kernel) (by decide +kernel) (by decide +kernel) (by decide +kernel) (by decide +kernel) hL hi (by decide) hLX ?_
  refine mn_arg (pc := 298) (j := 4) (by decide +kernel) (by decide +kernel) (by decide +kernel) (by decide +kernel) (by decide +kernel) hL hi (by decide) hLX ?_
  refine mn_arg (pc := 304) (j := 5) (by decide +kernel) (by decide +kernel) (by decide +kernel) (by decide +kernel) (by decide +kernel) hL hi (by decide) hLX ?_
  show gm_Wp X LX 280 _ _ 370 310 L (gm_vi (fa X i 4) :: gm_vi (fa X i 3) :: gm_vi (fa X i 2) :: gm_vi (fa X i 1) :: gm_vi (fa X i 0) :: gm_vr 226 :: []) (245 + 4 * g) _ _ _ Q
  refine om_feed (pc := 310) (ix := 143) (st := []) hb1 (by omega) hM1 (by decide +kernel) (by decide +kernel) (Nat.le_of_ble_eq_true rfl) am_feed_s am_feed_c am_feed_v (bc_in1 (mn_w (fa_ir hX)) (bc_in1 (mn_w (fa_ir hX)) (bc_in1 (mn_w (fa_ir hX)) (bc_in1 (mn_w (fa_ir hX)) (bc_in1 (mn_w (fa_ir hX)) bc_in0))))) (fun j => fa_ir hX) (by omega) (by omega) ?_
  intro u2 la2 K2 R2 M2 hu2 hb2 hM2 h245 hth2
  have hu2 : u2 = some (gm_vi (ap_feed (fa X i) t f).1) := hu2
  subst hu2
  show gm_Wp X LX 280 _ _ 370 313 L [gm_vi ((ap_feed (fa X i) t f).1)] (245 + 4 * g) K2 R2 M2 Q
  refine gm_sz (gm_p_pop (pc := 313) (by decide +kernel) (by simp [gm_sort])) ?_
  refine gm_sz (gm_p_goto (pc := 314) (off := 1679) (by decide +kernel) (by decide)) ?_
  exact gm_Wp_wk (Nat.le_refl _) (by omega) (by omega) (rest g _ _ _ _ L hb2 (by omega) ⟨_, _, _, _, _, _, _, hM2⟩ hL)
theorem mc_1 (hb : bg g la K R M) (hg : g < 9990) (hM : RELW la K M) (hL : mn_L i L) (hi : 0 ≤ i ∧ i + 6 ≤ (LX : Int)) (hLX : LX ≤ 3072) (hX : ∀ j, gm_ir (X j)) (hbc : 12 ≤ bc) (hbs : 1200 ≤ bs) (rest : mn_R X LX bc bs i g Q) : gm_Wp X LX 280 bc bs 370 317 L [] (245 + 4 * g) K R M Q := by
  obtain ⟨N, lw, A, im, t, w, f, hM⟩ := hM
  refine gm_sz (gm_p_load (pc := 317) (i := .aload_n 1) (sr := 2) (j := 1) (by decide +kernel) rfl hL.2.2.1 rfl) ?_
  refine mn_arg (pc := 318) (j := 1) (by decide +kernel) (by decide +kernel) (by decide +kernel) (by decide +kernel) (by decide +kernel) hL hi (by decide) hLX ?_
  refine ow_end (pc := 324) (ix := 144) (st := []) hb hM (by decide +kernel) (by decide +kernel) (by decide +kernel) (Nat.le_of_ble_eq_true rfl) (hX _) ?_
  intro la1 K1 R1 M1 hb1 hM1 hv1
  show gm_Wp X LX 280 _ _ 370 327 L [gm_vi ((ap_end (X (i + 1)) t).1)] (245 + 4 * g) K1 R1 M1 Q
  refine gm_sz (gm_p_pop (pc := 327) (by decide +kernel) (by simp [gm_sort])) ?_
  refine gm_sz (gm_p_load (pc := 328) (i := .aload_n 2) (sr := 2) (j := 2) (by decide +kernel) rfl hL.2.2.2.1 rfl) ?_
  refine mn_arg (pc := 329) (j := 1) (by decide +kernel) (by decide +kernel) (by decide +kernel) (by decide +kernel) (by decide +kernel) hL hi (by decide) hLX ?_
  refine om_end (pc := 335) (ix := 148) (st := []) hb1 hM1 (by decide +kernel) (by decide +kernel) (by decide +kernel) (Nat.le_of_ble_eq_true rfl) (hX _) ?_
  intro u2 la2 K2 R2 M2 hu2 hb2 hM2 h245 hth2
  have hu2 : u2 = some (gm_vi (ap_end (X (i + 1)) t).1) := hu2
  subst hu2
  show gm_Wp X LX 280 _ _ 370 338 L [gm_vi ((ap_end (X (i + 1)) t).1)] (245 + 4 * g) K2 R2 M2 Q
  refine gm_sz (gm_p_pop (pc := 338) (by decide +kernel) (by simp [gm_sort])) ?_
  refine gm_sz (gm_p_goto (pc := 339) (off := 1654) (by decide +kernel) (by decide)) ?_
  exact gm_Wp_wk (Nat.le_refl _) (by omega) (by omega) (rest g _ _ _ _ L hb2 (by omega) ⟨_, _, _, _, _, _, _, hM2⟩ hL)
theorem mc_2 (hb : bg g la K R M) (hg : g < 9990) (hM : RELW la K M) (hL : mn_L i L) (hi : 0 ≤ i ∧ i + 6 ≤ (LX : Int)) (hLX : LX ≤ 3072) (hX : ∀ j, gm_ir (X j)) (hbc : 12 ≤ bc) (hbs : 1200 ≤ bs) (rest : mn_R X LX bc bs i g Q) : gm_Wp X LX 280 bc bs 370 342 L [] (245 + 4 * g) K R M Q := by
  obtain ⟨N, lw, A, im, t, w, f, hM⟩ := hM
  refine gm_sz (gm_p_load (pc := 342) (i := .aload_n 1) (sr := 2) (j := 1) (by decide +kernel) rfl hL.2.2.1 rfl) ?_
  refine gm_sz (gm_p_load (pc := 343) (i := .aload_n 3) (sr := 2) (j := 3) (by decide +kernel) rfl hL.2.2.2.2.1 rfl) ?_
  refine ow_valley (pc := 344) (ix := 149) (st := []) hb (by omega) hM (by decide +kernel) (by decide +kernel) (Nat.le_of_ble_eq_true rfl) ax_valley_s al_valley_s ax_valley_c al_valley_c ax_valley_v al_valley_v bc_in0 (by omega) (by omega) ?_
  intro la1 K1 R1 M1 hb1 hM1 hv1
  show gm_Wp X LX 280 _ _ 370 347 L [gm_vi ((ap_valley f t N A).1)] (245 + 4 * g) K1 R1 M1 Q
  refine gm_sz (gm_p_stor (pc := 347) (i := .istore 5) (sr := 0) (j := 5) (by decide +kernel) rfl (by show 5 + 0 < L.length; have := hL.1; omega) rfl) ?_
  have hL5 := mn_L_s (y := (ap_valley f t N A).1) hL (j := 5) (Or.inl rfl)
  have l55 := mn_l5 (y := (ap_valley f t N A).1) hL
  generalize gm_lst L 5 (gm_vi (ap_valley f t N A).1) = L5 at hL5 l55 ⊢
  refine gm_sz (gm_p_load (pc := 349) (i := .aload_n 2) (sr := 2) (j := 2) (by decide +kernel) rfl hL5.2.2.2.1 rfl) ?_
  refine om_valley (pc := 350) (ix := 154) (st := []) hb1 (by omega) hM1 (by decide +kernel) (by decide +kernel) (Nat.le_of_ble_eq_true rfl) am_valley_s am_valley_c am_valley_v bc_in0 (by omega) (by omega) ?_
  intro u2 la2 K2 R2 M2 hu2 hb2 hM2 h245 hth2
  obtain ⟨y2, rfl, hy2⟩ := hu2
  show gm_Wp X LX 280 _ _ 370 353 L5 [gm_vi y2] (245 + 4 * g) K2 R2 M2 Q
  refine gm_sz (gm_p_stor (pc := 353) (i := .istore 6) (sr := 0) (j := 6) (by decide +kernel) rfl (by show 6 + 0 < L5.length; have := hL5.1; omega) rfl) ?_
  have hL6 := mn_L_s (y := y2) hL5 (j := 6) (Or.inr rfl)
  have l66 := mn_l6 (y := y2) hL5
  have l65 := mn_l65 (y := y2) l55
  generalize gm_lst L5 6 (gm_vi y2) = L6 at hL6 l66 l65 ⊢
  refine gm_sz (gm_p_goto (pc := 355) (off := 1638) (by decide +kernel) (by decide)) ?_
  exact gm_Wp_wk (Nat.le_refl _) (by omega) (by omega) (rest g _ _ _ _ L6 hb2 (by omega) ⟨_, _, _, _, _, _, _, hM2⟩ hL6)
theorem mc_3 (hb : bg g la K R M) (hg : g < 9990) (hM : RELW la K M) (hL : mn_L i L) (hi : 0 ≤ i ∧ i + 6 ≤ (LX : Int)) (hLX : LX ≤ 3072) (hX : ∀ j, gm_ir (X j)) (hbc : 12 ≤ bc) (hbs : 1200 ≤ bs) (rest : mn_R X LX bc bs i g Q) : gm_Wp X LX 280 bc bs 370 358 L [] (245 + 4 * g) K R M Q := by
  obtain ⟨N, lw, A, im, t, w, f, hM⟩ := hM
  refine gm_sz (gm_p_load (pc := 358) (i := .aload_n 1) (sr := 2) (j := 1) (by decide +kernel) rfl hL.2.2.1 rfl) ?_
  refine gm_sz (gm_p_load (pc := 359) (i := .aload_n 3) (sr := 2) (j := 3) (by decide +kernel) rfl hL.2.2.2.2.1 rfl) ?_
  refine ow_law (pc := 360) (ix := 155) (st := []) hb (by omega) hM (by decide +kernel) (by decide +kernel) (Nat.le_of_ble_eq_true rfl) (by omega) (by omega) ?_
  intro g1 la1 K1 R1 M1 hg1 hb1 hM1 hv1
  show gm_Wp X LX 280 _ _ 370 363 L [gm_vi ((ap_law f t lw A).1)] (245 + 4 * g1) K1 R1 M1 Q
  refine gm_sz (gm_p_stor (pc := 363) (i := .istore 5) (sr := 0) (j := 5) (by decide +kernel) rfl (by show 5 + 0 < L.length; have := hL.1; omega) rfl) ?_
  have hL5 := mn_L_s (y := (ap_law f t lw A).1) hL (j := 5) (Or.inl rfl)
  have l55 := mn_l5 (y := (ap_law f t lw A).1) hL
  generalize gm_lst L 5 (gm_vi (ap_law f t lw A).1) = L5 at hL5 l55 ⊢
  refine gm_sz (gm_p_load (pc := 365) (i := .aload_n 2) (sr := 2) (j := 2) (by decide +kernel) rfl hL5.2.2.2.1 rfl) ?_
  refine om_law (pc := 366) (ix := 157) (st := []) hb1 (by omega) hM1 (by decide +kernel) (by decide +kernel) (Nat.le_of_ble_eq_true rfl) (by omega) (by omega) ?_
  intro u2 la2 K2 R2 M2 hu2 hb2 hM2 h245 hth2
  obtain ⟨y2, rfl, hy2⟩ := hu2
  show gm_Wp X LX 280 _ _ 370 369 L5 [gm_vi y2] (245 + 4 * g1) K2 R2 M2 Q
  refine gm_sz (gm_p_stor (pc := 369) (i := .istore 6) (sr := 0) (j := 6) (by decide +kernel) rfl (by show 6 + 0 < L5.length; have := hL5.1; omega) rfl) ?_
  have hL6 := mn_L_s (y := y2) hL5 (j := 6) (Or.inr rfl)
  have l66 := mn_l6 (y := y2) hL5
  have l65 := mn_l65 (y := y2) l55
  generalize gm_lst L5 6 (gm_vi y2) = L6 at hL6 l66 l65 ⊢
  refine gm_sz (gm_p_goto (pc := 371) (off := 1622) (by decide +kernel) (by decide)) ?_
  exact gm_Wp_wk (Nat.le_refl _) (by omega) (by omega) (rest g1 _ _ _ _ L6 hb2 (by omega) ⟨_, _, _, _, _, _, _, hM2⟩ hL6)
theorem mc_4 (hb : bg g la K R M) (hg : g < 9990) (hM : RELW la K M) (hL : mn_L i L) (hi : 0 ≤ i ∧ i + 6 ≤ (LX : Int)) (hLX : LX ≤ 3072) (hX : ∀ j, gm_ir (X j)) (hbc : 12 ≤ bc) (hbs : 1200 ≤ bs) (rest : mn_R X LX bc bs i g Q) : gm_Wp X LX 280 bc bs 370 374 L [] (245 + 4 * g) K R M Q := by
  obtain ⟨N, lw, A, im, t, w, f, hM⟩ := hM
  refine gm_sz (gm_p_load (pc := 374) (i := .aload_n 1) (sr := 2) (j := 1) (by decide +kernel) rfl hL.2.2.1 rfl) ?_
  refine rq_d (pc := 375) (ix := 158) (mj := 22) (xs := []) (st := []) (ds := []) (r := true) hb (by omega) hM (by decide +kernel) (by decide +kernel) (by decide +kernel) (by decide +kernel) (show 0 = gm_na 22 by decide +kernel) (show 1 ≤ gm_ml 22 by decide +kernel) (Nat.le_of_ble_eq_true rfl) ax_fault_s al_fault_s ax_fault_c al_fault_c ax_fault_v al_fault_v bc_in0 (fun _ h => nomatch h) (by omega) (by omega) ?_
  intro u1 la1 K1 R1 M1 hu1 hb1 hM1
  obtain ⟨y1, rfl⟩ : ∃ y, u1 = some (gm_vi y) := hu1
  show gm_Wp X LX 280 _ _ 370 378 L [gm_vi y1] (245 + 4 * g) K1 R1 M1 Q
  refine gm_sz (gm_p_pop (pc := 378) (by decide +kernel) (by simp [gm_sort])) ?_
  refine gm_sz (gm_p_load (pc := 379) (i := .aload_n 2) (sr := 2) (j := 2) (by decide +kernel) rfl hL.2.2.2.1 rfl) ?_
  refine rq_m (pc := 380) (ix := 161) (mj := 241) (xs := []) (st := []) (ds := []) (r := true) hb1 (by omega) hM1 (by decide +kernel) (by decide +kernel) (by decide +kernel) (by decide +kernel) (show 0 = gm_na 241 by decide +kernel) (show 1 ≤ gm_ml 241 by decide +kernel) (Nat.le_of_ble_eq_true rfl) am_fault_s am_fault_c am_fault_v bc_in0 (fun _ h => nomatch h) (by omega) (by omega) ?_
  intro u2 la2 K2 R2 M2 hu2 hb2 hM2
  obtain ⟨y2, rfl⟩ : ∃ y, u2 = some (gm_vi y) := hu2
  show gm_Wp X LX 280 _ _ 370 383 L [gm_vi y2] (245 + 4 * g) K2 R2 M2 Q
  refine gm_sz (gm_p_pop (pc := 383) (by decide +kernel) (by simp [gm_sort])) ?_
  refine gm_sz (gm_p_goto (pc := 384) (off := 1609) (by decide +kernel) (by decide)) ?_
  exact gm_Wp_wk (Nat.le_refl _) (by omega) (by omega) (rest g _ _ _ _ L hb2 (by omega) ⟨_, _, _, _, _, _, _, hM2⟩ hL)
theorem mc_5 (hb : bg g la K R M) (hg : g < 9990) (hM : RELW la K M) (hL : mn_L i L) (hi : 0 ≤ i ∧ i + 6 ≤ (LX : Int)) (hLX : LX ≤ 3072) (hX : ∀ j, gm_ir (X j)) (hbc : 12 ≤ bc) (hbs : 1200 ≤ bs) (rest : mn_R X LX bc bs i g Q) : gm_Wp X LX 280 bc bs 370 387 L [] (245 + 4 * g) K R M Q := by
  obtain ⟨N, lw, A, im, t, w, f, hM⟩ := hM
  refine gm_sz (gm_p_load (pc := 387) (i := .aload_n 1) (sr := 2) (j := 1) (by decide +kernel) rfl hL.2.2.1 rfl) ?_
  refine mn_arg (pc := 388) (j := 1) (by decide +kernel) (by decide +kernel) (by decide +kernel) (by decide +kernel) (by decide +kernel) hL hi (by decide) hLX ?_
  refine gm_sz (gm_p_load (pc := 394) (i := .aload_n 3) (sr := 2) (j := 3) (by decide +kernel) rfl hL.2.2.2.2.1 rfl) ?_
  refine rq_x (pc := 395) (ix := 162) (mj := 127) (xs := [X (i + 1)]) (st := []) (ds := [(-2147483648, 2147483647)]) (r := true) hb (by omega) hM (by decide +kernel) (by decide +kernel) (by decide +kernel) (by decide +kernel) (show 3 = gm_na 127 by decide +kernel) (show 3 ≤ gm_ml 127 by decide +kernel) (Nat.le_of_ble_eq_true rfl) ax_heat_s al_heat_s ax_heat_c al_heat_c ax_heat_v al_heat_v (bc_in1 (mn_w (hX _)) bc_in0) (List.forall_mem_cons.mpr ⟨hX _, (fun _ h => nomatch h)⟩) (by omega) (by omega) ?_
  intro u1 la1 K1 R1 M1 hu1 hb1 hM1
  obtain ⟨y1, rfl⟩ : ∃ y, u1 = some (gm_vi y) := hu1
  show gm_Wp X LX 280 _ _ 370 398 L [gm_vi y1] (245 + 4 * g) K1 R1 M1 Q
  refine gm_sz (gm_p_stor (pc := 398) (i := .istore 5) (sr := 0) (j := 5) (by decide +kernel) rfl (by show 5 + 0 < L.length; have := hL.1; omega) rfl) ?_
  have hL5 := mn_L_s (y := y1) hL (j := 5) (Or.inl rfl)
  have l55 := mn_l5 (y := y1) hL
  generalize gm_lst L 5 (gm_vi y1) = L5 at hL5 l55 ⊢
  refine gm_sz (gm_p_load (pc := 400) (i := .aload_n 2) (sr := 2) (j := 2) (by decide +kernel) rfl hL5.2.2.2.1 rfl) ?_
  refine mn_arg (pc := 401) (j := 1) (by decide +kernel) (by decide +kernel) (by decide +kernel) (by decide +kernel) (by decide +kernel) hL5 hi (by decide) hLX ?_
  refine rq_m (pc := 407) (ix := 165) (mj := 284) (xs := [X (i + 1)]) (st := []) (ds := [(-2147483648, 2147483647)]) (r := true) hb1 (by omega) hM1 (by decide +kernel) (by decide +kernel) (by decide +kernel) (by decide +kernel) (show 1 = gm_na 284 by decide +kernel) (show 2 ≤ gm_ml 284 by decide +kernel) (Nat.le_of_ble_eq_true rfl) am_heat_s am_heat_c am_heat_v (bc_in1 (mn_w (hX _)) bc_in0) (List.forall_mem_cons.mpr ⟨hX _, (fun _ h => nomatch h)⟩) (by omega) (by omega) ?_
  intro u2 la2 K2 R2 M2 hu2 hb2 hM2
  obtain ⟨y2, rfl⟩ : ∃ y, u2 = some (gm_vi y) := hu2
  show gm_Wp X LX 280 _ _ 370 410 L5 [gm_vi y2] (245 + 4 * g) K2 R2 M2 Q
  refine gm_sz (gm_p_stor (pc := 410) (i := .istore 6) (sr := 0) (j := 6) (by decide +kernel) rfl (by show 6 + 0 < L5.length; have := hL5.1; omega) rfl) ?_
  have hL6 := mn_L_s (y := y2) hL5 (j := 6) (Or.inr rfl)
  have l66 := mn_l6 (y := y2) hL5
  have l65 := mn_l65 (y := y2) l55
  generalize gm_lst L5 6 (gm_vi y2) = L6 at hL6 l66 l65 ⊢
  refine gm_sz (gm_p_goto (pc := 412) (off := 1581) (by decide +kernel) (by decide)) ?_
  exact gm_Wp_wk (Nat.le_refl _) (by omega) (by omega) (rest g _ _ _ _ L6 hb2 (by omega) ⟨_, _, _, _, _, _, _, hM2⟩ hL6)
theorem mc_6 (hb : bg g la K R M) (hg : g < 9990) (hM : RELW la K M) (hL : mn_L i L) (hi : 0 ≤ i ∧ i + 6 ≤ (LX : Int)) (hLX : LX ≤ 3072) (hX : ∀ j, gm_ir (X j)) (hbc : 12 ≤ bc) (hbs : 1200 ≤ bs) (rest : mn_R X LX bc bs i g Q) : gm_Wp X LX 280 bc bs 370 415 L [] (245 + 4 * g) K R M Q := by
  obtain ⟨N, lw, A, im, t, w, f, hM⟩ := hM
  refine gm_sz (gm_p_load (pc := 415) (i := .aload_n 1) (sr := 2) (j := 1) (by decide +kernel) rfl hL.2.2.1 rfl) ?_
  refine mn_arg (pc := 416) (j := 1) (by decide +kernel) (by decide +kernel) (by decide +kernel) (by decide +kernel) (by decide +kernel) hL hi (by decide) hLX ?_
  refine mn_arg (pc := 422) (j := 2) (by decide +kernel) (by decide +kernel) (by decide +kernel) (by decide +kernel) (by decide +kernel) hL hi (by decide) hLX ?_
  refine gm_sz (gm_p_load (pc := 428) (i := .aload_n 3) (sr := 2) (j := 3) (by decide +kernel) rfl hL.2.2.2.2.1 rfl) ?_
  refine rq_x (pc := 429) (ix := 166) (mj := 130) (xs := [X (i + 1), X (i + 2)]) (st := []) (ds := [(-2147483648, 2147483647), (-2147483648, 2147483647)]) (r := true) hb (by omega) hM (by decide +kernel) (by decide +kernel) (by decide +kernel) (by decide +kernel) (show 4 = gm_na 130 by decide +kernel) (show 4 ≤ gm_ml 130 by decide +kernel) (Nat.le_of_ble_eq_true rfl) ax_speed_s al_speed_s ax_speed_c al_speed_c ax_speed_v al_speed_v (bc_in1 (mn_w (hX _)) (bc_in1 (mn_w (hX _)) bc_in0)) (List.forall_mem_cons.mpr ⟨hX _, (List.forall_mem_cons.mpr ⟨hX _, (fun _ h => nomatch h)⟩)⟩) (by omega) (by omega) ?_
  intro u1 la1 K1 R1 M1 hu1 hb1 hM1
  obtain ⟨y1, rfl⟩ : ∃ y, u1 = some (gm_vi y) := hu1
  show gm_Wp X LX 280 _ _ 370 432 L [gm_vi y1] (245 + 4 * g) K1 R1 M1 Q
  refine gm_sz (gm_p_stor (pc := 432) (i := .istore 5) (sr := 0) (j := 5) (by decide +kernel) rfl (by show 5 + 0 < L.length; have := hL.1; omega) rfl) ?_
  have hL5 := mn_L_s (y := y1) hL (j := 5) (Or.inl rfl)
  have l55 := mn_l5 (y := y1) hL
  generalize gm_lst L 5 (gm_vi y1) = L5 at hL5 l55 ⊢
  refine gm_sz (gm_p_load (pc := 434) (i := .aload_n 2) (sr := 2) (j := 2) (by decide +kernel) rfl hL5.2.2.2.1 rfl) ?_
  refine mn_arg (pc := 435) (j := 1) (by decide +kernel) (by decide +kernel) (by decide +kernel) (by decide +kernel) (by decide +kernel) hL5 hi (by decide) hLX ?_
  refine mn_arg (pc := 441) (j := 2) (by decide +kernel) (by decide +kernel) (by decide +kernel) (by decide +kernel) (by decide +kernel) hL5 hi (by decide) hLX ?_
  refine rq_m (pc := 447) (ix := 169) (mj := 287) (xs := [X (i + 1), X (i + 2)]) (st := []) (ds := [(-2147483648, 2147483647), (-2147483648, 2147483647)]) (r := true) hb1 (by omega) hM1 (by decide +kernel) (by decide +kernel) (by decide +kernel) (by decide +kernel) (show 2 = gm_na 287 by decide +kernel) (show 3 ≤ gm_ml 287 by decide +kernel) (Nat.le_of_ble_eq_true rfl) am_speed_s am_speed_c am_speed_v (bc_in1 (mn_w (hX _)) (bc_in1 (mn_w (hX _)) bc_in0)) (List.forall_mem_cons.mpr ⟨hX _, (List.forall_mem_cons.mpr ⟨hX _, (fun _ h => nomatch h)⟩)⟩) (by omega) (by omega) ?_
  intro u2 la2 K2 R2 M2 hu2 hb2 hM2
  obtain ⟨y2, rfl⟩ : ∃ y, u2 = some (gm_vi y) := hu2
  show gm_Wp X LX 280 _ _ 370 450 L5 [gm_vi y2] (245 + 4 * g) K2 R2 M2 Q
  refine gm_sz (gm_p_stor (pc := 450) (i := .istore 6) (sr := 0) (j := 6) (by decide +kernel) rfl (by show 6 + 0 < L5.length; have := hL5.1; omega) rfl) ?_
  have hL6 := mn_L_s (y := y2) hL5 (j := 6) (Or.inr rfl)
  have l66 := mn_l6 (y := y2) hL5
  have l65 := mn_l65 (y := y2) l55
  generalize gm_lst L5 6 (gm_vi y2) = L6 at hL6 l66 l65 ⊢
  refine gm_sz (gm_p_goto (pc := 452) (off := 1541) (by decide +kernel) (by decide)) ?_
  exact gm_Wp_wk (Nat.le_refl _) (by omega) (by omega) (rest g _ _ _ _ L6 hb2 (by omega) ⟨_, _, _, _, _, _, _, hM2⟩ hL6)
theorem mc_7 (hb : bg g la K R M) (hg : g < 9990) (hM : RELW la K M) (hL : mn_L i L) (hi : 0 ≤ i ∧ i + 6 ≤ (LX : Int)) (hLX : LX ≤ 3072) (hX : ∀ j, gm_ir (X j)) (hbc : 12 ≤ bc) (hbs : 1200 ≤ bs) (rest : mn_R X LX bc bs i g Q) : gm_Wp X LX 280 bc bs 370 455 L [] (245 + 4 * g) K R M Q := by
  obtain ⟨N, lw, A, im, t, w, f, hM⟩ := hM
  refine gm_sz (gm_p_load (pc := 455) (i := .aload_n 1) (sr := 2) (j := 1) (by decide +kernel) rfl hL.2.2.1 rfl) ?_
  refine mn_arg (pc := 456) (j := 1) (by decide +kernel) (by decide +kernel) (by decide +kernel) (by decide +kernel) (by decide +kernel) hL hi (by decide) hLX ?_
  refine mn_arg (pc := 462) (j := 2) (by decide +kernel) (by decide +kernel) (by decide +kernel) (by decide +kernel) (by decide +kernel) hL hi (by decide) hLX ?_
  refine mn_arg (pc := 468) (j := 3) (by decide +kernel) (by decide +kernel) (by decide +kernel) (by decide +kernel) (by decide +kernel) hL hi (by decide) hLX ?_
  refine gm_sz (gm_p_load (pc := 474) (i := .aload_n 3) (sr := 2) (j := 3) (by decide +kernel) rfl hL.2.2.2.2.1 rfl) ?_
  refine rq_x (pc := 475) (ix := 170) (mj := 135) (xs := [X (i + 1), X (i + 2), X (i + 3)]) (st := []) (ds := [(-2147483648, 2147483647), (-2147483648, 2147483647), (-2147483648, 2147483647)]) (r := true) hb (by omega) hM (by decide +kernel) (by decide +kernel) (by decide +kernel) (by decide +kernel) (show 5 = gm_na 135 by decide +kernel) (show 5 ≤ gm_ml 135 by decide +kernel) (Nat.le_of_ble_eq_true rfl) ax_flow_s al_flow_s ax_flow_c al_flow_c ax_flow_v al_flow_v (bc_in1 (mn_w (hX _)) (bc_in1 (mn_w (hX _)) (bc_in1 (mn_w (hX _)) bc_in0))) (List.forall_mem_cons.mpr ⟨hX _, (List.forall_mem_cons.mpr ⟨hX _, (List.forall_mem_cons.mpr ⟨hX _, (fun _ h => nomatch h)⟩)⟩)⟩) (by omega) (by omega) ?_
  intro u1 la1 K1 R1 M1 hu1 hb1 hM1
  obtain ⟨y1, rfl⟩ : ∃ y, u1 = some (gm_vi y) := hu1
  show gm_Wp X LX 280 _ _ 370 478 L [gm_vi y1] (245 + 4 * g) K1 R1 M1 Q
  refine gm_sz (gm_p_stor (pc := 478) (i := .istore 5) (sr := 0) (j := 5) (by decide +kernel) rfl (by show 5 + 0 < L.length; have := hL.1; omega) rfl) ?_
  have hL5 := mn_L_s (y := y1) hL (j := 5) (Or.inl rfl)
  have l55 := mn_l5 (y := y1) hL
  generalize gm_lst L 5 (gm_vi y1) = L5 at hL5 l55 ⊢
  refine gm_sz (gm_p_load (pc := 480) (i := .aload_n 2) (sr := 2) (j := 2) (by decide +kernel) rfl hL5.2.2.2.1 rfl) ?_
  refine mn_arg (pc := 481) (j := 1) (by decide +kernel) (by decide +kernel) (by decide +kernel) (by decide +kernel) (by decide +kernel) hL5 hi (by decide) hLX ?_
  refine mn_arg (pc := 487) (j := 2) (by decide +kernel) (by decide +kernel) (by decide +kernel) (by decide +kernel) (by decide +kernel) hL5 hi (by decide) hLX ?_
  refine mn_arg (pc := 493) (j := 3) (by decide +kernel) (by decide +kernel) (by decide +kernel) (by decide +kernel) (by decide +kernel) hL5 hi (by decide) hLX ?_
  refine rq_m (pc := 499) (ix := 173) (mj := 291) (xs := [X (i + 1), X (i + 2), X (i + 3)]) (st := []) (ds := [(-2147483648, 2147483647), (-2147483648, 2147483647), (-2147483648, 2147483647)]) (r := true) hb1 (by omega) hM1 (by decide +kernel) (by decide +kernel) (by decide +kernel) (by decide +kernel) (show 3 = gm_na 291 by decide +kernel) (show 4 ≤ gm_ml 291 by decide +kernel) (Nat.le_of_ble_eq_true rfl) am_flow_s am_flow_c am_flow_v (bc_in1 (mn_w (hX _)) (bc_in1 (mn_w (hX _)) (bc_in1 (mn_w (hX _)) bc_in0))) (List.forall_mem_cons.mpr ⟨hX _, (List.forall_mem_cons.mpr ⟨hX _, (List.forall_mem_cons.mpr ⟨hX _, (fun _ h => nomatch h)⟩)⟩)⟩) (by omega) (by omega) ?_
  intro u2 la2 K2 R2 M2 hu2 hb2 hM2
  obtain ⟨y2, rfl⟩ : ∃ y, u2 = some (gm_vi y) := hu2
  show gm_Wp X LX 280 _ _ 370 502 L5 [gm_vi y2] (245 + 4 * g) K2 R2 M2 Q
  refine gm_sz (gm_p_stor (pc := 502) (i := .istore 6) (sr := 0) (j := 6) (by decide +kernel) rfl (by show 6 + 0 < L5.length; have := hL5.1; omega) rfl) ?_
  have hL6 := mn_L_s (y := y2) hL5 (j := 6) (Or.inr rfl)
  have l66 := mn_l6 (y := y2) hL5
  have l65 := mn_l65 (y := y2) l55
  generalize gm_lst L5 6 (gm_vi y2) = L6 at hL6 l66 l65 ⊢
  refine gm_sz (gm_p_goto (pc := 504) (off := 1489) (by decide +kernel) (by decide)) ?_
  exact gm_Wp_wk (Nat.le_refl _) (by omega) (by omega) (rest g _ _ _ _ L6 hb2 (by omega) ⟨_, _, _, _, _, _, _, hM2⟩ hL6)
theorem mc_8 (hb : bg g la K R M) (hg : g < 9990) (hM : RELW la K M) (hL : mn_L i L) (hi : 0 ≤ i ∧ i + 6 ≤ (LX : Int)) (hLX : LX ≤ 3072) (hX : ∀ j, gm_ir (X j)) (hbc : 12 ≤ bc) (hbs : 1200 ≤ bs) (rest : mn_R X LX bc bs i g Q) : gm_Wp X LX 280 bc bs 370 507 L [] (245 + 4 * g) K R M Q := by
  obtain ⟨N, lw, A, im, t, w, f, hM⟩ := hM
  refine gm_sz (gm_p_load (pc := 507) (i := .aload_n 1) (sr := 2) (j := 1) (by decide +kernel) rfl hL.2.2.1 rfl) ?_
  refine mn_arg (pc := 508) (j := 1) (by decide +kernel) (by decide +kernel) (by decide +kernel) (by decide +kernel) (by decide +kernel) hL hi (by decide) hLX ?_
  refine mn_arg (pc := 514) (j := 2) (by decide +kernel) (by decide +kernel) (by decide +kernel) (by decide +kernel) (by decide +kernel) hL hi (by decide) hLX ?_
  refine gm_sz (gm_p_load (pc := 520) (i := .aload_n 3) (sr := 2) (j := 3) (by decide +kernel) rfl hL.2.2.2.2.1 rfl) ?_
  refine rq_x (pc := 521) (ix := 174) (mj := 137) (xs := [X (i + 1), X (i + 2)]) (st := []) (ds := [(-2147483648, 2147483647), (-2147483648, 2147483647)]) (r := true) hb (by omega) hM (by decide +kernel) (by decide +kernel) (by decide +kernel) (by decide +kernel) (show 4 = gm_na 137 by decide +kernel) (show 4 ≤ gm_ml 137 by decide +kernel) (Nat.le_of_ble_eq_true rfl) ax_person_s al_person_s ax_person_c al_person_c ax_person_v al_person_v (bc_in1 (mn_w (hX _)) (bc_in1 (mn_w (hX _)) bc_in0)) (List.forall_mem_cons.mpr ⟨hX _, (List.forall_mem_cons.mpr ⟨hX _, (fun _ h => nomatch h)⟩)⟩) (by omega) (by omega) ?_
  intro u1 la1 K1 R1 M1 hu1 hb1 hM1
  obtain ⟨y1, rfl⟩ : ∃ y, u1 = some (gm_vi y) := hu1
  show gm_Wp X LX 280 _ _ 370 524 L [gm_vi y1] (245 + 4 * g) K1 R1 M1 Q
  refine gm_sz (gm_p_stor (pc := 524) (i := .istore 5) (sr := 0) (j := 5) (by decide +kernel) rfl (by show 5 + 0 < L.length; have := hL.1; omega) rfl) ?_
  have hL5 := mn_L_s (y := y1) hL (j := 5) (Or.inl rfl)
  have l55 := mn_l5 (y := y1) hL
  generalize gm_lst L 5 (gm_vi y1) = L5 at hL5 l55 ⊢
  refine gm_sz (gm_p_load (pc := 526) (i := .aload_n 2) (sr := 2) (j := 2) (by decide +kernel) rfl hL5.2.2.2.1 rfl) ?_
  refine mn_arg (pc := 527) (j := 1) (by decide +kernel) (by decide +kernel) (by decide +kernel) (by decide +kernel) (by decide +kernel) hL5 hi (by decide) hLX ?_
  refine mn_arg (pc := 533) (j := 2) (by decide +kernel) (by decide +kernel) (by decide +kernel) (by decide +kernel) (by decide +kernel) hL5 hi (by decide) hLX ?_
  refine rq_m (pc := 539) (ix := 176) (mj := 297) (xs := [X (i + 1), X (i + 2)]) (st := []) (ds := [(-2147483648, 2147483647), (-2147483648, 2147483647)]) (r := true) hb1 (by omega) hM1 (by decide +kernel) (by decide +kernel) (by decide +kernel) (by decide +kernel) (show 2 = gm_na 297 by decide +kernel) (show 3 ≤ gm_ml 297 by decide +kernel) (Nat.le_of_ble_eq_true rfl) am_person_s am_person_c am_person_v (bc_in1 (mn_w (hX _)) (bc_in1 (mn_w (hX _)) bc_in0)) (List.forall_mem_cons.mpr ⟨hX _, (List.forall_mem_cons.mpr ⟨hX _, (fun _ h => nomatch h)⟩)⟩) (by omega) (by omega) ?_
  intro u2 la2 K2 R2 M2 hu2 hb2 hM2
  obtain ⟨y2, rfl⟩ : ∃ y, u2 = some (gm_vi y) := hu2
  show gm_Wp X LX 280 _ _ 370 542 L5 [gm_vi y2] (245 + 4 * g) K2 R2 M2 Q
  refine gm_sz (gm_p_stor (pc := 542) (i := .istore 6) (sr := 0) (j := 6) (by decide +kernel) rfl (by show 6 + 0 < L5.length; have := hL5.1; omega) rfl) ?_
  have hL6 := mn_L_s (y := y2) hL5 (j := 6) (Or.inr rfl)
  have l66 := mn_l6 (y := y2) hL5
  have l65 := mn_l65 (y := y2) l55
  generalize gm_lst L5 6 (gm_vi y2) = L6 at hL6 l66 l65 ⊢
  refine gm_sz (gm_p_goto (pc := 544) (off := 1449) (by decide +kernel) (by decide)) ?_
  exact gm_Wp_wk (Nat.le_refl _) (by omega) (by omega) (rest g _ _ _ _ L6 hb2 (by omega) ⟨_, _, _, _, _, _, _, hM2⟩ hL6)
theorem mc_9 (hb : bg g la K R M) (hg : g < 9990) (hM : RELW la K M) (hL : mn_L i L) (hi : 0 ≤ i ∧ i + 6 ≤ (LX : Int)) (hLX : LX ≤ 3072) (hX : ∀ j, gm_ir (X j)) (hbc : 12 ≤ bc) (hbs : 1200 ≤ bs) (rest : mn_R X LX bc bs i g Q) : gm_Wp X LX 280 bc bs 370 547 L [] (245 + 4 * g) K R M Q := by
  obtain ⟨N, lw, A, im, t, w, f, hM⟩ := hM
  refine gm_sz (gm_p_load (pc := 547) (i := .aload_n 1) (sr := 2) (j := 1) (by decide +kernel) rfl hL.2.2.1 rfl) ?_
  refine mn_arg (pc := 548) (j := 1) (by decide +kernel) (by decide +kernel) (by decide +kernel) (by decide +kernel) (by decide +kernel) hL hi (by decide) hLX ?_
  refine mn_arg (pc := 554) (j := 2) (by decide +kernel) (by decide +kernel) (by decide +kernel) (by decide +kernel) (by decide +kernel) hL hi (by decide) hLX ?_
  refine gm_sz (gm_p_load (pc := 560) (i := .aload_n 3) (sr := 2) (j := 3) (by decide +kernel) rfl hL.2.2.2.2.1 rfl) ?_
  refine rq_x (pc := 561) (ix := 177) (mj := 141) (xs := [X (i + 1), X (i + 2)]) (st := []) (ds := [(-2147483648, 2147483647), (-2147483648, 2147483647)]) (r := true) hb (by omega) hM (by decide +kernel) (by decide +kernel) (by decide +kernel) (by decide +kernel) (show 4 = gm_na 141 by decide +kernel) (show 4 ≤ gm_ml 141 by decide +kernel) (Nat.le_of_ble_eq_true rfl) ax_letter_s al_letter_s ax_letter_c al_letter_c ax_letter_v al_letter_v (bc_in1 (mn_w (hX _)) (bc_in1 (mn_w (hX _)) bc_in0)) (List.forall_mem_cons.mpr ⟨hX _, (List.forall_mem_cons.mpr ⟨hX _, (fun _ h => nomatch h)⟩)⟩) (by omega) (by omega) ?_
  intro u1 la1 K1 R1 M1 hu1 hb1 hM1
  obtain ⟨y1, rfl⟩ : ∃ y, u1 = some (gm_vi y) := hu1
  show gm_Wp X LX 280 _ _ 370 564 L [gm_vi y1] (245 + 4 * g) K1 R1 M1 Q
  refine gm_sz (gm_p_stor (pc := 564) (i := .istore 5) (sr := 0) (j := 5) (by decide +kernel) rfl (by show 5 + 0 < L.length; have := hL.1; omega) rfl) ?_
  have hL5 := mn_L_s (y := y1) hL (j := 5) (Or.inl rfl)
  have l55 := mn_l5 (y := y1) hL
  generalize gm_lst L 5 (gm_vi y1) = L5 at hL5 l55 ⊢
  refine gm_sz (gm_p_load (pc := 566) (i := .aload_n 2) (sr := 2) (j := 2) (by decide +kernel) rfl hL5.2.2.2.1 rfl) ?_
  refine mn_arg (pc := 567) (j := 1) (by decide +kernel) (by decide +kernel) (by decide +kernel) (by decide +kernel) (by decide +kernel) hL5 hi (by decide) hLX ?_
  refine mn_arg (pc := 573) (j := 2) (by decide +kernel) (by decide +kernel) (by decide +kernel) (by decide +kernel) (by decide +kernel) hL5 hi (by decide) hLX ?_
  refine rq_m (pc := 579) (ix := 179) (mj := 308) (xs := [X (i + 1), X (i + 2)]) (st := []) (ds := [(-2147483648, 2147483647), (-2147483648, 2147483647)]) (r := true) hb1 (by omega) hM1 (by decide +kernel) (by decide +kernel) (by decide +kernel) (by decide +kernel) (show 2 = gm_na 308 by decide +kernel) (show 3 ≤ gm_ml 308 by decide +kernel) (Nat.le_of_ble_eq_true rfl) am_letter_s am_letter_c am_letter_v (bc_in1 (mn_w (hX _)) (bc_in1 (mn_w (hX _)) bc_in0)) (List.forall_mem_cons.mpr ⟨hX _, (List.forall_mem_cons.mpr ⟨hX _, (fun _ h => nomatch h)⟩)⟩) (by omega) (by omega) ?_
  intro u2 la2 K2 R2 M2 hu2 hb2 hM2
  obtain ⟨y2, rfl⟩ : ∃ y, u2 = some (gm_vi y) := hu2
  show gm_Wp X LX 280 _ _ 370 582 L5 [gm_vi y2] (245 + 4 * g) K2 R2 M2 Q
  refine gm_sz (gm_p_stor (pc := 582) (i := .istore 6) (sr := 0) (j := 6) (by decide +kernel) rfl (by show 6 + 0 < L5.length; have := hL5.1; omega) rfl) ?_
  have hL6 := mn_L_s (y := y2) hL5 (j := 6) (Or.inr rfl)
  have l66 := mn_l6 (y := y2) hL5
  have l65 := mn_l65 (y := y2) l55
  generalize gm_lst L5 6 (gm_vi y2) = L6 at hL6 l66 l65 ⊢
  refine gm_sz (gm_p_goto (pc := 584) (off := 1409) (by decide +kernel) (by decide)) ?_
  exact gm_Wp_wk (Nat.le_refl _) (by omega) (by omega) (rest g _ _ _ _ L6 hb2 (by omega) ⟨_, _, _, _, _, _, _, hM2⟩ hL6)
theorem mc_10 (hb : bg g la K R M) (hg : g < 9990) (hM : RELW la K M) (hL : mn_L i L) (hi : 0 ≤ i ∧ i + 6 ≤ (LX : Int)) (hLX : LX ≤ 3072) (hX : ∀ j, gm_ir (X j)) (hbc : 12 ≤ bc) (hbs : 1200 ≤ bs) (rest : mn_R X LX bc bs i g Q) : gm_Wp X LX 280 bc bs 370 587 L [] (245 + 4 * g) K R M Q := by
  obtain ⟨N, lw, A, im, t, w, f, hM⟩ := hM
  refine gm_sz (gm_p_load (pc := 587) (i := .aload_n 1) (sr := 2) (j := 1) (by decide +kernel) rfl hL.2.2.1 rfl) ?_
  refine mn_arg (pc := 588) (j := 1) (by decide +kernel) (by decide +kernel) (by decide +kernel) (by decide +kernel) (by decide +kernel) hL hi (by decide) hLX ?_
  refine mn_arg (pc := 594) (j := 2) (by decide +kernel) (by decide +kernel) (by decide +kernel) (by decide +kernel) (by decide +kernel) hL hi (by decide) hLX ?_
  refine gm_sz (gm_p_load (pc := 600) (i := .aload_n 3) (sr := 2) (j := 3) (by decide +kernel) rfl hL.2.2.2.2.1 rfl) ?_
  refine rq_x (pc := 601) (ix := 180) (mj := 146) (xs := [X (i + 1), X (i + 2)]) (st := []) (ds := [(-2147483648, 2147483647), (-2147483648, 2147483647)]) (r := true) hb (by omega) hM (by decide +kernel) (by decide +kernel) (by decide +kernel) (by decide +kernel) (show 4 = gm_na 146 by decide +kernel) (show 4 ≤ gm_ml 146 by decide +kernel) (Nat.le_of_ble_eq_true rfl) ax_where_s al_where_s ax_where_c al_where_c ax_where_v al_where_v (bc_in1 (mn_w (hX _)) (bc_in1 (mn_w (hX _)) bc_in0)) (List.forall_mem_cons.mpr ⟨hX _, (List.forall_mem_cons.mpr ⟨hX _, (fun _ h => nomatch h)⟩)⟩) (by omega) (by omega) ?_
  intro u1 la1 K1 R1 M1 hu1 hb1 hM1
  obtain ⟨y1, rfl⟩ : ∃ y, u1 = some (gm_vi y) := hu1
  show gm_Wp X LX 280 _ _ 370 604 L [gm_vi y1] (245 + 4 * g) K1 R1 M1 Q
  refine gm_sz (gm_p_stor (pc := 604) (i := .istore 5) (sr := 0) (j := 5) (by decide +kernel) rfl (by show 5 + 0 < L.length; have := hL.1; omega) rfl) ?_
  have hL5 := mn_L_s (y := y1) hL (j := 5) (Or.inl rfl)
  have l55 := mn_l5 (y := y1) hL
  generalize gm_lst L 5 (gm_vi y1) = L5 at hL5 l55 ⊢
  refine gm_sz (gm_p_load (pc := 606) (i := .aload_n 2) (sr := 2) (j := 2) (by decide +kernel) rfl hL5.2.2.2.1 rfl) ?_
  refine mn_arg (pc := 607) (j := 1) (by decide +kernel) (by decide +kernel) (by decide +kernel) (by decide +kernel) (by decide +kernel) hL5 hi (by decide) hLX ?_
  refine mn_arg (pc := 613) (j := 2) (by decide +kernel) (by decide +kernel) (by decide +kernel) (by decide +kernel) (by decide +kernel) hL5 hi (by decide) hLX ?_
  refine rq_m (pc := 619) (ix := 182) (mj := 313) (xs := [X (i + 1), X (i + 2)]) (st := []) (ds := [(-2147483648, 2147483647), (-2147483648, 2147483647)]) (r := true) hb1 (by omega) hM1 (by decide +kernel) (by decide +kernel) (by decide +kernel) (by decide +kernel) (show 2 = gm_na 313 by decide +kernel) (show 3 ≤ gm_ml 313 by decide +kernel) (Nat.le_of_ble_eq_true rfl) am_where_s am_where_c am_where_v (bc_in1 (mn_w (hX _)) (bc_in1 (mn_w (hX _)) bc_in0)) (List.forall_mem_cons.mpr ⟨hX _, (List.forall_mem_cons.mpr ⟨hX _, (fun _ h => nomatch h)⟩)⟩) (by omega) (by omega) ?_
  intro u2 la2 K2 R2 M2 hu2 hb2 hM2
  obtain ⟨y2, rfl⟩ : ∃ y, u2 = some (gm_vi y) := hu2
  show gm_Wp X LX 280 _ _ 370 622 L5 [gm_vi y2] (245 + 4 * g) K2 R2 M2 Q
  refine gm_sz (gm_p_stor (pc := 622) (i := .istore 6) (sr := 0) (j := 6) (by decide +kernel) rfl (by show 6 + 0 < L5.length; have := hL5.1; omega) rfl) ?_
  have hL6 := mn_L_s (y := y2) hL5 (j := 6) (Or.inr rfl)
  have l66 := mn_l6 (y := y2) hL5
  have l65 := mn_l65 (y := y2) l55
  generalize gm_lst L5 6 (gm_vi y2) = L6 at hL6 l66 l65 ⊢
  refine gm_sz (gm_p_goto (pc := 624) (off := 1369) (by decide +kernel) (by decide)) ?_
  exact gm_Wp_wk (Nat.le_refl _) (by omega) (by omega) (rest g _ _ _ _ L6 hb2 (by omega) ⟨_, _, _, _, _, _, _, hM2⟩ hL6)
theorem mc_11 (hb : bg g la K R M) (hg : g < 9990) (hM : RELW la K M) (hL : mn_L i L) (hi : 0 ≤ i ∧ i + 6 ≤ (LX : Int)) (hLX : LX ≤ 3072) (hX : ∀ j, gm_ir (X j)) (hbc : 12 ≤ bc) (hbs : 1200 ≤ bs) (rest : mn_R X LX bc bs i g Q) : gm_Wp X LX 280 bc bs 370 627 L [] (245 + 4 * g) K R M Q := by
  obtain ⟨N, lw, A, im, t, w, f, hM⟩ := hM
  refine gm_sz (gm_p_load (pc := 627) (i := .aload_n 1) (sr := 2) (j := 1) (by decide +kernel) rfl hL.2.2.1 rfl) ?_
  refine mn_arg (pc := 628) (j := 1) (by decide +kernel) (by decide +kernel) (by decide +kernel) (by decide +kernel) (by decide +kernel) hL hi (by decide) hLX ?_
  refine mn_arg (pc := 634) (j := 2) (by decide +kernel) (by decide +kernel) (by decide +kernel) (by decide +kernel) (by decide +kernel) hL hi (by decide) hLX ?_
  refine gm_sz (gm_p_load (pc := 640) (i := .aload_n 3) (sr := 2) (j := 3) (by decide +kernel) rfl hL.2.2.2.2.1 rfl) ?_
  refine rq_x (pc := 641) (ix := 183) (mj := 149) (xs := [X (i + 1), X (i + 2)]) (st := []) (ds := [(-2147483648, 2147483647), (-2147483648, 2147483647)]) (r := true) hb (by omega) hM (by decide +kernel) (by decide +kernel) (by decide +kernel) (by decide +kernel) (show 4 = gm_na 149 by decide +kernel) (show 4 ≤ gm_ml 149 by decide +kernel) (Nat.le_of_ble_eq_true rfl) ax_deep_s al_deep_s ax_deep_c al_deep_c ax_deep_v al_deep_v (bc_in1 (mn_w (hX _)) (bc_in1 (mn_w (hX _)) bc_in0)) (List.forall_mem_cons.mpr ⟨hX _, (List.forall_mem_cons.mpr ⟨hX _, (fun _ h => nomatch h)⟩)⟩) (by omega) (by omega) ?_
  intro u1 la1 K1 R1 M1 hu1 hb1 hM1
  obtain ⟨y1, rfl⟩ : ∃ y, u1 = some (gm_vi y) := hu1
  show gm_Wp X LX 280 _ _ 370 644 L [gm_vi y1] (245 + 4 * g) K1 R1 M1 Q
  refine gm_sz (gm_p_stor (pc := 644) (i := .istore 5) (sr := 0) (j := 5) (by decide +kernel) rfl (by show 5 + 0 < L.length; have := hL.1; omega) rfl) ?_
  have hL5 := mn_L_s (y := y1) hL (j := 5) (Or.inl rfl)
  have l55 := mn_l5 (y := y1) hL
  generalize gm_lst L 5 (gm_vi y1) = L5 at hL5 l55 ⊢
  refine gm_sz (gm_p_load (pc := 646) (i := .aload_n 2) (sr := 2) (j := 2) (by decide +kernel) rfl hL5.2.2.2.1 rfl) ?_
  refine mn_arg (pc := 647) (j := 1) (by decide +kernel) (by decide +kernel) (by decide +kernel) (by decide +kernel) (by decide +kernel) hL5 hi (by decide) hLX ?_
  refine mn_arg (pc := 653) (j := 2) (by decide +kernel) (by decide +kernel) (by decide +kernel) (by decide +kernel) (by decide +kernel) hL5 hi (by decide) hLX ?_
  refine rq_m (pc := 659) (ix := 185) (mj := 314) (xs := [X (i + 1), X (i + 2)]) (st := []) (ds := [(-2147483648, 2147483647), (-2147483648, 2147483647)]) (r := true) hb1 (by omega) hM1 (by decide +kernel) (by decide +kernel) (by decide +kernel) (by decide +kernel) (show 2 = gm_na 314 by decide +kernel) (show 3 ≤ gm_ml 314 by decide +kernel) (Nat.le_of_ble_eq_true rfl) am_deep_s am_deep_c am_deep_v (bc_in1 (mn_w (hX _)) (bc_in1 (mn_w (hX _)) bc_in0)) (List.forall_mem_cons.mpr ⟨hX _, (List.forall_mem_cons.mpr ⟨hX _, (fun _ h => nomatch h)⟩)⟩) (by omega) (by omega) ?_
  intro u2 la2 K2 R2 M2 hu2 hb2 hM2
  obtain ⟨y2, rfl⟩ : ∃ y, u2 = some (gm_vi y) := hu2
  show gm_Wp X LX 280 _ _ 370 662 L5 [gm_vi y2] (245 + 4 * g) K2 R2 M2 Q
  refine gm_sz (gm_p_stor (pc := 662) (i := .istore 6) (sr := 0) (j := 6) (by decide +kernel) rfl (by show 6 + 0 < L5.length; have := hL5.1; omega) rfl) ?_
  have hL6 := mn_L_s (y := y2) hL5 (j := 6) (Or.inr rfl)
  have l66 := mn_l6 (y := y2) hL5
  have l65 := mn_l65 (y := y2) l55
  generalize gm_lst L5 6 (gm_vi y2) = L6 at hL6 l66 l65 ⊢
  refine gm_sz (gm_p_goto (pc := 664) (off := 1329) (by decide +kernel) (by decide)) ?_
  exact gm_Wp_wk (Nat.le_refl _) (by omega) (by omega) (rest g _ _ _ _ L6 hb2 (by omega) ⟨_, _, _, _, _, _, _, hM2⟩ hL6)
theorem mc_12 (hb : bg g la K R M) (hg : g < 9990) (hM : RELW la K M) (hL : mn_L i L) (hi : 0 ≤ i ∧ i + 6 ≤ (LX : Int)) (hLX : LX ≤ 3072) (hX : ∀ j, gm_ir (X j)) (hbc : 12 ≤ bc) (hbs : 1200 ≤ bs) (rest : mn_R X LX bc bs i g Q) : gm_Wp X LX 280 bc bs 370 667 L [] (245 + 4 * g) K R M Q := by
  obtain ⟨N, lw, A, im, t, w, f, hM⟩ := hM
  refine gm_sz (gm_p_load (pc := 667) (i := .aload_n 1) (sr := 2) (j := 1) (by decide +kernel) rfl hL.2.2.1 rfl) ?_
  refine mn_arg (pc := 668) (j := 1) (by decide +kernel) (by decide +kernel) (by decide +kernel) (by decide +kernel) (by decide +kernel) hL hi (by decide) hLX ?_
  refine mn_arg (pc := 674) (j := 2) (by decide +kernel) (by decide +kernel) (by decide +kernel) (by decide +kernel) (by decide +kernel) hL hi (by decide) hLX ?_
  refine gm_sz (gm_p_load (pc := 680) (i := .aload_n 3) (sr := 2) (j := 3) (by decide +kernel) rfl hL.2.2.2.2.1 rfl) ?_
  refine ow_post (pc := 681) (ix := 186) (st := []) hb (by omega) hM (by decide +kernel) (by decide +kernel) (Nat.le_of_ble_eq_true rfl) ax_post_s al_post_s ax_post_c al_post_c ax_post_v al_post_v (bc_in1 (mn_w (hX _)) (bc_in1 (mn_w (hX _)) bc_in0)) (hX _) (hX _) (by omega) (by omega) ?_
  intro la1 K1 R1 M1 hb1 hM1 hv1
  show gm_Wp X LX 280 _ _ 370 684 L [gm_vi ((ap_post N A (X (i + 1)) (X (i + 2))).1)] (245 + 4 * g) K1 R1 M1 Q
  refine gm_sz (gm_p_stor (pc := 684) (i := .istore 5) (sr := 0) (j := 5) (by decide +kernel) rfl (by show 5 + 0 < L.length; have := hL.1; omega) rfl) ?_
  have hL5 := mn_L_s (y := (ap_post N A (X (i + 1)) (X (i + 2))).1) hL (j := 5) (Or.inl rfl)
  have l55 := mn_l5 (y := (ap_post N A (X (i + 1)) (X (i + 2))).1) hL
  generalize gm_lst L 5 (gm_vi (ap_post N A (X (i + 1)) (X (i + 2))).1) = L5 at hL5 l55 ⊢
  refine gm_sz (gm_p_load (pc := 686) (i := .aload_n 2) (sr := 2) (j := 2) (by decide +kernel) rfl hL5.2.2.2.1 rfl) ?_
  refine mn_arg (pc := 687) (j := 1) (by decide +kernel) (by decide +kernel) (by decide +kernel) (by decide +kernel) (by decide +kernel) hL5 hi (by decide) hLX ?_
  refine mn_arg (pc := 693) (j := 2) (by decide +kernel) (by decide +kernel) (by decide +kernel) (by decide +kernel) (by decide +kernel) hL5 hi (by decide) hLX ?_
  refine om_post (pc := 699) (ix := 188) (st := []) hb1 (by omega) hM1 (by decide +kernel) (by decide +kernel) (Nat.le_of_ble_eq_true rfl) am_post_s am_post_c am_post_v (bc_in1 (mn_w (hX _)) (bc_in1 (mn_w (hX _)) bc_in0)) (hX _) (hX _) (by omega) (by omega) ?_
  intro u2 la2 K2 R2 M2 hu2 hb2 hM2 h245 hth2
  obtain ⟨y2, rfl, hy2⟩ := hu2
  show gm_Wp X LX 280 _ _ 370 702 L5 [gm_vi y2] (245 + 4 * g) K2 R2 M2 Q
  refine gm_sz (gm_p_stor (pc := 702) (i := .istore 6) (sr := 0) (j := 6) (by decide +kernel) rfl (by show 6 + 0 < L5.length; have := hL5.1; omega) rfl) ?_
  have hL6 := mn_L_s (y := y2) hL5 (j := 6) (Or.inr rfl)
  have l66 := mn_l6 (y := y2) hL5
  have l65 := mn_l65 (y := y2) l55
  generalize gm_lst L5 6 (gm_vi y2) = L6 at hL6 l66 l65 ⊢
  refine gm_sz (gm_p_goto (pc := 704) (off := 1289) (by decide +kernel) (by decide)) ?_
  exact gm_Wp_wk (Nat.le_refl _) (by omega) (by omega) (rest g _ _ _ _ L6 hb2 (by omega) ⟨_, _, _, _, _, _, _, hM2⟩ hL6)
theorem mc_13 (hb : bg g la K R M) (hg : g < 9990) (hM : RELW la K M) (hL : mn_L i L) (hi : 0 ≤ i ∧ i + 6 ≤ (LX : Int)) (hLX : LX ≤ 3072) (hX : ∀ j, gm_ir (X j)) (hbc : 12 ≤ bc) (hbs : 1200 ≤ bs) (rest : mn_R X LX bc bs i g Q) : gm_Wp X LX 280 bc bs 370 707 L [] (245 + 4 * g) K R M Q := by
  obtain ⟨N, lw, A, im, t, w, f, hM⟩ := hM
  refine gm_sz (gm_p_load (pc := 707) (i := .aload_n 1) (sr := 2) (j := 1) (by decide +kernel) rfl hL.2.2.1 rfl) ?_
  refine mn_arg (pc := 708) (j := 1) (by decide +kernel) (by decide +kernel) (by decide +kernel) (by decide +kernel) (by decide +kernel) hL hi (by decide) hLX ?_
  refine mn_arg (pc := 714) (j := 2) (by decide +kernel) (by decide +kernel) (by decide +kernel) (by decide +kernel) (by decide +kernel) hL hi (by decide) hLX ?_
  refine gm_sz (gm_p_load (pc := 720) (i := .aload_n 3) (sr := 2) (j := 3) (by decide +kernel) rfl hL.2.2.2.2.1 rfl) ?_
  refine ow_watch (pc := 721) (ix := 189) (st := []) hb (by omega) hM (by decide +kernel) (by decide +kernel) (Nat.le_of_ble_eq_true rfl) ax_watch_s al_watch_s ax_watch_c al_watch_c ax_watch_v al_watch_v (bc_in1 (mn_w (hX _)) (bc_in1 (mn_w (hX _)) bc_in0)) (hX _) (hX _) (by omega) (by omega) ?_
  intro la1 K1 R1 M1 hb1 hM1 hv1
  show gm_Wp X LX 280 _ _ 370 724 L [gm_vi ((ap_watch N A (X (i + 1)) (X (i + 2))).1)] (245 + 4 * g) K1 R1 M1 Q
  refine gm_sz (gm_p_stor (pc := 724) (i := .istore 5) (sr := 0) (j := 5) (by decide +kernel) rfl (by show 5 + 0 < L.length; have := hL.1; omega) rfl) ?_
  have hL5 := mn_L_s (y := (ap_watch N A (X (i + 1)) (X (i + 2))).1) hL (j := 5) (Or.inl rfl)
  have l55 := mn_l5 (y := (ap_watch N A (X (i + 1)) (X (i + 2))).1) hL
  generalize gm_lst L 5 (gm_vi (ap_watch N A (X (i + 1)) (X (i + 2))).1) = L5 at hL5 l55 ⊢
  refine gm_sz (gm_p_load (pc := 726) (i := .aload_n 2) (sr := 2) (j := 2) (by decide +kernel) rfl hL5.2.2.2.1 rfl) ?_
  refine mn_arg (pc := 727) (j := 1) (by decide +kernel) (by decide +kernel) (by decide +kernel) (by decide +kernel) (by decide +kernel) hL5 hi (by decide) hLX ?_
  refine mn_arg (pc := 733) (j := 2) (by decide +kernel) (by decide +kernel) (by decide +kernel) (by decide +kernel) (by decide +kernel) hL5 hi (by decide) hLX ?_
  refine om_watch (pc := 739) (ix := 191) (st := []) hb1 (by omega) hM1 (by decide +kernel) (by decide +kernel) (Nat.le_of_ble_eq_true rfl) am_watch_s am_watch_c am_watch_v (bc_in1 (mn_w (hX _)) (bc_in1 (mn_w (hX _)) bc_in0)) (hX _) (hX _) (by omega) (by omega) ?_
  intro u2 la2 K2 R2 M2 hu2 hb2 hM2 h245 hth2
  obtain ⟨y2, rfl, hy2⟩ := hu2
  show gm_Wp X LX 280 _ _ 370 742 L5 [gm_vi y2] (245 + 4 * g) K2 R2 M2 Q
  refine gm_sz (gm_p_stor (pc := 742) (i := .istore 6) (sr := 0) (j := 6) (by decide +kernel) rfl (by show 6 + 0 < L5.length; have := hL5.1; omega) rfl) ?_
  have hL6 := mn_L_s (y := y2) hL5 (j := 6) (Or.inr rfl)
  have l66 := mn_l6 (y := y2) hL5
  have l65 := mn_l65 (y := y2) l55
  generalize gm_lst L5 6 (gm_vi y2) = L6 at hL6 l66 l65 ⊢
  refine gm_sz (gm_p_goto (pc := 744) (off := 1249) (by decide +kernel) (by decide)) ?_
  exact gm_Wp_wk (Nat.le_refl _) (by omega) (by omega) (rest g _ _ _ _ L6 hb2 (by omega) ⟨_, _, _, _, _, _, _, hM2⟩ hL6)
theorem mc_14 (hb : bg g la K R M) (hg : g < 9990) (hM : RELW la K M) (hL : mn_L i L) (hi : 0 ≤ i ∧ i + 6 ≤ (LX : Int)) (hLX : LX ≤ 3072) (hX : ∀ j, gm_ir (X j)) (hbc : 12 ≤ bc) (hbs : 1200 ≤ bs) (rest : mn_R X LX bc bs i g Q) : gm_Wp X LX 280 bc bs 370 747 L [] (245 + 4 * g) K R M Q := by
  obtain ⟨N, lw, A, im, t, w, f, hM⟩ := hM
  refine gm_sz (gm_p_load (pc := 747) (i := .aload_n 1) (sr := 2) (j := 1) (by decide +kernel) rfl hL.2.2.1 rfl) ?_
  refine mn_arg (pc := 748) (j := 1) (by decide +kernel) (by decide +kernel) (by decide +kernel) (by decide +kernel) (by decide +kernel) hL hi (by decide) hLX ?_
  refine gm_sz (gm_p_load (pc := 754) (i := .aload_n 3) (sr := 2) (j := 3) (by decide +kernel) rfl hL.2.2.2.2.1 rfl) ?_
  refine ow_open (pc := 755) (ix := 192) (st := []) hb (by omega) hM (by decide +kernel) (by decide +kernel) (Nat.le_of_ble_eq_true rfl) ax_open_s al_open_s ax_open_c al_open_c ax_open_v al_open_v (bc_in1 (mn_w (hX _)) bc_in0) (hX _) (by omega) (by omega) ?_
  intro la1 K1 R1 M1 hb1 hM1 hv1
  show gm_Wp X LX 280 _ _ 370 758 L [gm_vi ((ap_open lw N A (X (i + 1))).1)] (245 + 4 * g) K1 R1 M1 Q
  refine gm_sz (gm_p_stor (pc := 758) (i := .istore 5) (sr := 0) (j := 5) (by decide +kernel) rfl (by show 5 + 0 < L.length; have := hL.1; omega) rfl) ?_
  have hL5 := mn_L_s (y := (ap_open lw N A (X (i + 1))).1) hL (j := 5) (Or.inl rfl)
  have l55 := mn_l5 (y := (ap_open lw N A (X (i + 1))).1) hL
  generalize gm_lst L 5 (gm_vi (ap_open lw N A (X (i + 1))).1) = L5 at hL5 l55 ⊢
  refine gm_sz (gm_p_load (pc := 760) (i := .aload_n 2) (sr := 2) (j := 2) (by decide +kernel) rfl hL5.2.2.2.1 rfl) ?_
  refine mn_arg (pc := 761) (j := 1) (by decide +kernel) (by decide +kernel) (by decide +kernel) (by decide +kernel) (by decide +kernel) hL5 hi (by decide) hLX ?_
  refine om_open (pc := 767) (ix := 194) (st := []) hb1 (by omega) hM1 (by decide +kernel) (by decide +kernel) (Nat.le_of_ble_eq_true rfl) am_open_s am_open_c am_open_v (bc_in1 (mn_w (hX _)) bc_in0) (hX _) (by omega) (by omega) ?_
  intro u2 la2 K2 R2 M2 hu2 hb2 hM2 h245 hth2
  obtain ⟨y2, rfl, hy2⟩ := hu2
  show gm_Wp X LX 280 _ _ 370 770 L5 [gm_vi y2] (245 + 4 * g) K2 R2 M2 Q
  refine gm_sz (gm_p_stor (pc := 770) (i := .istore 6) (sr := 0) (j := 6) (by decide +kernel) rfl (by show 6 + 0 < L5.length; have := hL5.1; omega) rfl) ?_
  have hL6 := mn_L_s (y := y2) hL5 (j := 6) (Or.inr rfl)
  have l66 := mn_l6 (y := y2) hL5
  have l65 := mn_l65 (y := y2) l55
  generalize gm_lst L5 6 (gm_vi y2) = L6 at hL6 l66 l65 ⊢
  refine gm_sz (gm_p_goto (pc := 772) (off := 1221) (by decide +kernel) (by decide)) ?_
  exact gm_Wp_wk (Nat.le_refl _) (by omega) (by omega) (rest g _ _ _ _ L6 hb2 (by omega) ⟨_, _, _, _, _, _, _, hM2⟩ hL6)
theorem mc_15 (hb : bg g la K R M) (hg : g < 9990) (hM : RELW la K M) (hL : mn_L i L) (hi : 0 ≤ i ∧ i + 6 ≤ (LX : Int)) (hLX : LX ≤ 3072) (hX : ∀ j, gm_ir (X j)) (hbc : 12 ≤ bc) (hbs : 1200 ≤ bs) (rest : mn_R X LX bc bs i g Q) : gm_Wp X LX 280 bc bs 370 775 L [] (245 + 4 * g) K R M Q := by
  obtain ⟨N, lw, A, im, t, w, f, hM⟩ := hM
  refine gm_sz (gm_p_load (pc := 775) (i := .aload_n 1) (sr := 2) (j := 1) (by decide +kernel) rfl hL.2.2.1 rfl) ?_
  refine mn_arg (pc := 776) (j := 1) (by decide +kernel) (by decide +kernel) (by decide +kernel) (by decide +kernel) (by decide +kernel) hL hi (by decide) hLX ?_
  refine gm_sz (gm_p_load (pc := 782) (i := .aload_n 3) (sr := 2) (j := 3) (by decide +kernel) rfl hL.2.2.2.2.1 rfl) ?_
  refine ow_years (pc := 783) (ix := 195) (st := []) hb (by omega) hM (by decide +kernel) (by decide +kernel) (Nat.le_of_ble_eq_true rfl) ax_years_s al_years_s ax_years_c al_years_c ax_years_v al_years_v (bc_in1 (mn_w (hX _)) bc_in0) (hX _) (by omega) (by omega) ?_
  intro la1 K1 R1 M1 hb1 hM1 hv1
  show gm_Wp X LX 280 _ _ 370 786 L [gm_vi ((ap_years lw N A (X (i + 1))).1)] (245 + 4 * g) K1 R1 M1 Q
  refine gm_sz (gm_p_stor (pc := 786) (i := .istore 5) (sr := 0) (j := 5) (by decide +kernel) rfl (by show 5 + 0 < L.length; have := hL.1; omega) rfl) ?_
  have hL5 := mn_L_s (y := (ap_years lw N A (X (i + 1))).1) hL (j := 5) (Or.inl rfl)
  have l55 := mn_l5 (y := (ap_years lw N A (X (i + 1))).1) hL
  generalize gm_lst L 5 (gm_vi (ap_years lw N A (X (i + 1))).1) = L5 at hL5 l55 ⊢
  refine gm_sz (gm_p_load (pc := 788) (i := .aload_n 2) (sr := 2) (j := 2) (by decide +kernel) rfl hL5.2.2.2.1 rfl) ?_
  refine mn_arg (pc := 789) (j := 1) (by decide +kernel) (by decide +kernel) (by decide +kernel) (by decide +kernel) (by decide +kernel) hL5 hi (by decide) hLX ?_
  refine om_years (pc := 795) (ix := 197) (st := []) hb1 (by omega) hM1 (by decide +kernel) (by decide +kernel) (Nat.le_of_ble_eq_true rfl) am_years_s am_years_c am_years_v (bc_in1 (mn_w (hX _)) bc_in0) (hX _) (by omega) (by omega) ?_
  intro u2 la2 K2 R2 M2 hu2 hb2 hM2 h245 hth2
  obtain ⟨y2, rfl, hy2⟩ := hu2
  show gm_Wp X LX 280 _ _ 370 798 L5 [gm_vi y2] (245 + 4 * g) K2 R2 M2 Q
  refine gm_sz (gm_p_stor (pc := 798) (i := .istore 6) (sr := 0) (j := 6) (by decide +kernel) rfl (by show 6 + 0 < L5.length; have := hL5.1; omega) rfl) ?_
  have hL6 := mn_L_s (y := y2) hL5 (j := 6) (Or.inr rfl)
  have l66 := mn_l6 (y := y2) hL5
  have l65 := mn_l65 (y := y2) l55
  generalize gm_lst L5 6 (gm_vi y2) = L6 at hL6 l66 l65 ⊢
  refine gm_sz (gm_p_goto (pc := 800) (off := 1193) (by decide +kernel) (by decide)) ?_
  exact gm_Wp_wk (Nat.le_refl _) (by omega) (by omega) (rest g _ _ _ _ L6 hb2 (by omega) ⟨_, _, _, _, _, _, _, hM2⟩ hL6)
end MCC
end
/-! 7d02.mc -/
section
/-! THE LAW'S CASES, on. -/
section MCC
variable {X : Int → Int} {LX g bc bs : Nat} {i : Int} {la : Nat → Nat} {K : gm_K} {R : gm_R} {M : gm_M} {Q : gm_Q} {L : gm_L}
theorem mc_16 (hb : bg g la K R M) (hg : g < 9990) (hM : RELW la K M) (hL : mn_L i L) (hi : 0 ≤ i ∧ i + 6 ≤ (LX : Int)) (hLX : LX ≤ 3072) (hX : ∀ j, gm_ir (X j)) (hbc : 12 ≤ bc) (hbs : 1200 ≤ bs) (rest : mn_R X LX bc bs i g Q) : gm_Wp X LX 280 bc bs 370 803 L [] (245 + 4 * g) K R M Q := by
  obtain ⟨N, lw, A, im, t, w, f, hM⟩ := hM
  refine gm_sz (gm_p_load (pc := 803) (i := .aload_n 1) (sr := 2) (j := 1) (by decide +kernel) rfl hL.2.2.1 rfl) ?_
  refine mn_arg (pc := 804) (j := 1) (by decide +kernel) (by decide +kernel) (by decide +kernel) (by decide +kernel) (by decide +kernel) hL hi (by decide) hLX ?_
  refine mn_arg (pc := 810) (j := 2) (by decide +kernel) (by decide +kernel) (by decide +kernel) (by decide +kernel) (by decide +kernel) hL hi (by decide) hLX ?_
  refine mn_arg (pc := 816) (j := 3) (by decide +kernel) (by decide +kernel) (by decide +kernel) (by decide +kernel) (by decide +kernel) hL hi (by decide) hLX ?_
  refine mn_arg (pc := 822) (j := 4) (by decide +kernel) (by decide +kernel) (by decide +kernel) (by decide +kernel) (by decide +kernel) hL hi (by decide) hLX ?_
  refine gm_sz (gm_p_load (pc := 828) (i := .aload_n 3) (sr := 2) (j := 3) (by decide +kernel) rfl hL.2.2.2.2.1 rfl) ?_
  refine rq_x (pc := 829) (ix := 198) (mj := 166) (xs := [X (i + 1), X (i + 2), X (i + 3), X (i + 4)]) (st := []) (ds := [(-2147483648, 2147483647), (-2147483648, 2147483647), (-2147483648, 2147483647), (-2147483648, 2147483647)]) (r := true) hb (by omega) hM (by decide +kernel) (by decide +kernel) (by decide +kernel) (by decide +kernel) (show 6 = gm_na 166 by decide +kernel) (show 6 ≤ gm_ml 166 by decide +kernel) (Nat.le_of_ble_eq_true rfl) ax_throwsFor_s al_throwsFor_s ax_throwsFor_c al_throwsFor_c ax_throwsFor_v al_throwsFor_v (bc_in1 (mn_w (hX _)) (bc_in1 (mn_w (hX _)) (bc_in1 (mn_w (hX _)) (bc_in1 (mn_w (hX _)) bc_in0)))) (List.forall_mem_cons.mpr ⟨hX _, (List.forall_mem_cons.mpr ⟨hX _, (List.forall_mem_cons.mpr ⟨hX _, (List.forall_mem_cons.mpr ⟨hX _, (fun _ h => nomatch h)⟩)⟩)⟩)⟩) (by omega) (by omega) ?_
  intro u1 la1 K1 R1 M1 hu1 hb1 hM1
  obtain ⟨y1, rfl⟩ : ∃ y, u1 = some (gm_vi y) := hu1
  show gm_Wp X LX 280 _ _ 370 832 L [gm_vi y1] (245 + 4 * g) K1 R1 M1 Q
  refine gm_sz (gm_p_stor (pc := 832) (i := .istore 5) (sr := 0) (j := 5) (by decide +kernel) rfl (by show 5 + 0 < L.length; have := hL.1; omega) rfl) ?_
  have hL5 := mn_L_s (y := y1) hL (j := 5) (Or.inl rfl)
  have l55 := mn_l5 (y := y1) hL
  generalize gm_lst L 5 (gm_vi y1) = L5 at hL5 l55 ⊢
  refine gm_sz (gm_p_load (pc := 834) (i := .aload_n 2) (sr := 2) (j := 2) (by decide +kernel) rfl hL5.2.2.2.1 rfl) ?_
  refine mn_arg (pc := 835) (j := 1) (by decide +kernel) (by decide +kernel) (by decide +kernel) (by decide +kernel) (by decide +kernel) hL5 hi (by decide) hLX ?_
  refine mn_arg (pc := 841) (j := 2) (by decide +kernel) (by decide +kernel) (by decide +kernel) (by decide +kernel) (by decide +kernel) hL5 hi (by decide) hLX ?_
  refine mn_arg (pc := 847) (j := 3) (by decide +kernel) (by decide +kernel) (by decide +kernel) (by decide +kernel) (by decide +kernel) hL5 hi (by decide) hLX ?_
  refine mn_arg (pc := 853) (j := 4) (by decide +kernel) (by decide +kernel) (by decide +kernel) (by decide +kernel) (by decide +kernel) hL5 hi (by decide) hLX ?_
  refine rq_m (pc := 859) (ix := 201) (mj := 324) (xs := [X (i + 1), X (i + 2), X (i + 3), X (i + 4)]) (st := []) (ds := [(-2147483648, 2147483647), (-2147483648, 2147483647), (-2147483648, 2147483647), (-2147483648, 2147483647)]) (r := true) hb1 (by omega) hM1 (by decide +kernel) (by decide +kernel) (by decide +kernel) (by decide +kernel) (show 4 = gm_na 324 by decide +kernel) (show 5 ≤ gm_ml 324 by decide +kernel) (Nat.le_of_ble_eq_true rfl) am_throwsFor_s am_throwsFor_c am_throwsFor_v (bc_in1 (mn_w (hX _)) (bc_in1 (mn_w (hX _)) (bc_in1 (mn_w (hX _)) (bc_in1 (mn_w (hX _)) bc_in0)))) (List.forall_mem_cons.mpr ⟨hX _, (List.forall_mem_cons.mpr ⟨hX _, (List.forall_mem_cons.mpr ⟨hX _, (List.forall_mem_cons.mpr ⟨hX _, (fun _ h => nomatch h)⟩)⟩)⟩)⟩) (by omega) (by omega) ?_
  intro u2 la2 K2 R2 M2 hu2 hb2 hM2
  obtain ⟨y2, rfl⟩ : ∃ y, u2 = some (gm_vi y) := hu2
  show gm_Wp X LX 280 _ _ 370 862 L5 [gm_vi y2] (245 + 4 * g) K2 R2 M2 Q
  refine gm_sz (gm_p_stor (pc := 862) (i := .istore 6) (sr := 0) (j := 6) (by decide +kernel) rfl (by show 6 + 0 < L5.length; have := hL5.1; omega) rfl) ?_
  have hL6 := mn_L_s (y := y2) hL5 (j := 6) (Or.inr rfl)
  have l66 := mn_l6 (y := y2) hL5
  have l65 := mn_l65 (y := y2) l55
  generalize gm_lst L5 6 (gm_vi y2) = L6 at hL6 l66 l65 ⊢
  refine gm_sz (gm_p_goto (pc := 864) (off := 1129) (by decide +kernel) (by decide)) ?_
  exact gm_Wp_wk (Nat.le_refl _) (by omega) (by omega) (rest g _ _ _ _ L6 hb2 (by omega) ⟨_, _, _, _, _, _, _, hM2⟩ hL6)
theorem mc_17 (hb : bg g la K R M) (hg : g < 9990) (hM : RELW la K M) (hL : mn_L i L) (hi : 0 ≤ i ∧ i + 6 ≤ (LX : Int)) (hLX : LX ≤ 3072) (hX : ∀ j, gm_ir (X j)) (hbc : 12 ≤ bc) (hbs : 1200 ≤ bs) (rest : mn_R X LX bc bs i g Q) : gm_Wp X LX 280 bc bs 370 867 L [] (245 + 4 * g) K R M Q := by
  obtain ⟨N, lw, A, im, t, w, f, hM⟩ := hM
  refine gm_sz (gm_p_load (pc := 867) (i := .aload_n 1) (sr := 2) (j := 1) (by decide +kernel) rfl hL.2.2.1 rfl) ?_
  refine mn_arg (pc := 868) (j := 1) (by decide +kernel) (by decide +kernel) (by decide +kernel) (by decide +kernel) (by decide +kernel) hL hi (by decide) hLX ?_
  refine mn_arg (pc := 874) (j := 2) (by decide +kernel) (by decide +kernel) (by decide +kernel) (by decide +kernel) (by decide +kernel) hL hi (by decide) hLX ?_
  refine gm_sz (gm_p_load (pc := 880) (i := .aload_n 3) (sr := 2) (j := 3) (by decide +kernel) rfl hL.2.2.2.2.1 rfl) ?_
  refine rq_x (pc := 881) (ix := 202) (mj := 168) (xs := [X (i + 1), X (i + 2)]) (st := []) (ds := [(-2147483648, 2147483647), (-2147483648, 2147483647)]) (r := true) hb (by omega) hM (by decide +kernel) (by decide +kernel) (by decide +kernel) (by decide +kernel) (show 4 = gm_na 168 by decide +kernel) (show 4 ≤ gm_ml 168 by decide +kernel) (Nat.le_of_ble_eq_true rfl) ax_latest_s al_latest_s ax_latest_c al_latest_c ax_latest_v al_latest_v (bc_in1 (mn_w (hX _)) (bc_in1 (mn_w (hX _)) bc_in0)) (List.forall_mem_cons.mpr ⟨hX _, (List.forall_mem_cons.mpr ⟨hX _, (fun _ h => nomatch h)⟩)⟩) (by omega) (by omega) ?_
  intro u1 la1 K1 R1 M1 hu1 hb1 hM1
  obtain ⟨y1, rfl⟩ : ∃ y, u1 = some (gm_vi y) := hu1
  show gm_Wp X LX 280 _ _ 370 884 L [gm_vi y1] (245 + 4 * g) K1 R1 M1 Q
  refine gm_sz (gm_p_stor (pc := 884) (i := .istore 5) (sr := 0) (j := 5) (by decide +kernel) rfl (by show 5 + 0 < L.length; have := hL.1; omega) rfl) ?_
  have hL5 := mn_L_s (y := y1) hL (j := 5) (Or.inl rfl)
  have l55 := mn_l5 (y := y1) hL
  generalize gm_lst L 5 (gm_vi y1) = L5 at hL5 l55 ⊢
  refine gm_sz (gm_p_load (pc := 886) (i := .aload_n 2) (sr := 2) (j := 2) (by decide +kernel) rfl hL5.2.2.2.1 rfl) ?_
  refine mn_arg (pc := 887) (j := 1) (by decide +kernel) (by decide +kernel) (by decide +kernel) (by decide +kernel) (by decide +kernel) hL5 hi (by decide) hLX ?_
  refine mn_arg (pc := 893) (j := 2) (by decide +kernel) (by decide +kernel) (by decide +kernel) (by decide +kernel) (by decide +kernel) hL5 hi (by decide) hLX ?_
  refine rq_m (pc := 899) (ix := 204) (mj := 326) (xs := [X (i + 1), X (i + 2)]) (st := []) (ds := [(-2147483648, 2147483647), (-2147483648, 2147483647)]) (r := true) hb1 (by omega) hM1 (by decide +kernel) (by decide +kernel) (by decide +kernel) (by decide +kernel) (show 2 = gm_na 326 by decide +kernel) (show 3 ≤ gm_ml 326 by decide +kernel) (Nat.le_of_ble_eq_true rfl) am_latest_s am_latest_c am_latest_v (bc_in1 (mn_w (hX _)) (bc_in1 (mn_w (hX _)) bc_in0)) (List.forall_mem_cons.mpr ⟨hX _, (List.forall_mem_cons.mpr ⟨hX _, (fun _ h => nomatch h)⟩)⟩) (by omega) (by omega) ?_
  intro u2 la2 K2 R2 M2 hu2 hb2 hM2
  obtain ⟨y2, rfl⟩ : ∃ y, u2 = some (gm_vi y) := hu2
  show gm_Wp X LX 280 _ _ 370 902 L5 [gm_vi y2] (245 + 4 * g) K2 R2 M2 Q
  refine gm_sz (gm_p_stor (pc := 902) (i := .istore 6) (sr := 0) (j := 6) (by decide +kernel) rfl (by show 6 + 0 < L5.length; have := hL5.1; omega) rfl) ?_
  have hL6 := mn_L_s (y := y2) hL5 (j := 6) (Or.inr rfl)
  have l66 := mn_l6 (y := y2) hL5
  have l65 := mn_l65 (y := y2) l55
  generalize gm_lst L5 6 (gm_vi y2) = L6 at hL6 l66 l65 ⊢
  refine gm_sz (gm_p_goto (pc := 904) (off := 1089) (by decide +kernel) (by decide)) ?_
  exact gm_Wp_wk (Nat.le_refl _) (by omega) (by omega) (rest g _ _ _ _ L6 hb2 (by omega) ⟨_, _, _, _, _, _, _, hM2⟩ hL6)
theorem mc_18 (hb : bg g la K R M) (hg : g < 9990) (hM : RELW la K M) (hL : mn_L i L) (hi : 0 ≤ i ∧ i + 6 ≤ (LX : Int)) (hLX : LX ≤ 3072) (hX : ∀ j, gm_ir (X j)) (hbc : 12 ≤ bc) (hbs : 1200 ≤ bs) (rest : mn_R X LX bc bs i g Q) : gm_Wp X LX 280 bc bs 370 907 L [] (245 + 4 * g) K R M Q := by
  obtain ⟨N, lw, A, im, t, w, f, hM⟩ := hM
  refine gm_sz (gm_p_load (pc := 907) (i := .aload_n 1) (sr := 2) (j := 1) (by decide +kernel) rfl hL.2.2.1 rfl) ?_
  refine mn_arg (pc := 908) (j := 1) (by decide +kernel) (by decide +kernel) (by decide +kernel) (by decide +kernel) (by decide +kernel) hL hi (by decide) hLX ?_
  refine mn_arg (pc := 914) (j := 2) (by decide +kernel) (by decide +kernel) (by decide +kernel) (by decide +kernel) (by decide +kernel) hL hi (by decide) hLX ?_
  refine gm_sz (gm_p_load (pc := 920) (i := .aload_n 3) (sr := 2) (j := 3) (by decide +kernel) rfl hL.2.2.2.2.1 rfl) ?_
  refine rq_x (pc := 921) (ix := 205) (mj := 171) (xs := [X (i + 1), X (i + 2)]) (st := []) (ds := [(-2147483648, 2147483647), (-2147483648, 2147483647)]) (r := true) hb (by omega) hM (by decide +kernel) (by decide +kernel) (by decide +kernel) (by decide +kernel) (show 4 = gm_na 171 by decide +kernel) (show 4 ≤ gm_ml 171 by decide +kernel) (Nat.le_of_ble_eq_true rfl) ax_hut_s al_hut_s ax_hut_c al_hut_c ax_hut_v al_hut_v (bc_in1 (mn_w (hX _)) (bc_in1 (mn_w (hX _)) bc_in0)) (List.forall_mem_cons.mpr ⟨hX _, (List.forall_mem_cons.mpr ⟨hX _, (fun _ h => nomatch h)⟩)⟩) (by omega) (by omega) ?_
  intro u1 la1 K1 R1 M1 hu1 hb1 hM1
  obtain ⟨y1, rfl⟩ : ∃ y, u1 = some (gm_vi y) := hu1
  show gm_Wp X LX 280 _ _ 370 924 L [gm_vi y1] (245 + 4 * g) K1 R1 M1 Q
  refine gm_sz (gm_p_stor (pc := 924) (i := .istore 5) (sr := 0) (j := 5) (by decide +kernel) rfl (by show 5 + 0 < L.length; have := hL.1; omega) rfl) ?_
  have hL5 := mn_L_s (y := y1) hL (j := 5) (Or.inl rfl)
  have l55 := mn_l5 (y := y1) hL
  generalize gm_lst L 5 (gm_vi y1) = L5 at hL5 l55 ⊢
  refine gm_sz (gm_p_load (pc := 926) (i := .aload_n 2) (sr := 2) (j := 2) (by decide +kernel) rfl hL5.2.2.2.1 rfl) ?_
  refine mn_arg (pc := 927) (j := 1) (by decide +kernel) (by decide +kernel) (by decide +kernel) (by decide +kernel) (by decide +kernel) hL5 hi (by decide) hLX ?_
  refine mn_arg (pc := 933) (j := 2) (by decide +kernel) (by decide +kernel) (by decide +kernel) (by decide +kernel) (by decide +kernel) hL5 hi (by decide) hLX ?_
  refine rq_m (pc := 939) (ix := 207) (mj := 327) (xs := [X (i + 1), X (i + 2)]) (st := []) (ds := [(-2147483648, 2147483647), (-2147483648, 2147483647)]) (r := true) hb1 (by omega) hM1 (by decide +kernel) (by decide +kernel) (by decide +kernel) (by decide +kernel) (show 2 = gm_na 327 by decide +kernel) (show 3 ≤ gm_ml 327 by decide +kernel) (Nat.le_of_ble_eq_true rfl) am_hut_s am_hut_c am_hut_v (bc_in1 (mn_w (hX _)) (bc_in1 (mn_w (hX _)) bc_in0)) (List.forall_mem_cons.mpr ⟨hX _, (List.forall_mem_cons.mpr ⟨hX _, (fun _ h => nomatch h)⟩)⟩) (by omega) (by omega) ?_
  intro u2 la2 K2 R2 M2 hu2 hb2 hM2
  obtain ⟨y2, rfl⟩ : ∃ y, u2 = some (gm_vi y) := hu2
  show gm_Wp X LX 280 _ _ 370 942 L5 [gm_vi y2] (245 + 4 * g) K2 R2 M2 Q
  refine gm_sz (gm_p_stor (pc := 942) (i := .istore 6) (sr := 0) (j := 6) (by decide +kernel) rfl (by show 6 + 0 < L5.length; have := hL5.1; omega) rfl) ?_
  have hL6 := mn_L_s (y := y2) hL5 (j := 6) (Or.inr rfl)
  have l66 := mn_l6 (y := y2) hL5
  have l65 := mn_l65 (y := y2) l55
  generalize gm_lst L5 6 (gm_vi y2) = L6 at hL6 l66 l65 ⊢
  refine gm_sz (gm_p_goto (pc := 944) (off := 1049) (by decide +kernel) (by decide)) ?_
  exact gm_Wp_wk (Nat.le_refl _) (by omega) (by omega) (rest g _ _ _ _ L6 hb2 (by omega) ⟨_, _, _, _, _, _, _, hM2⟩ hL6)
theorem mc_19 (hb : bg g la K R M) (hg : g < 9990) (hM : RELW la K M) (hL : mn_L i L) (hi : 0 ≤ i ∧ i + 6 ≤ (LX : Int)) (hLX : LX ≤ 3072) (hX : ∀ j, gm_ir (X j)) (hbc : 12 ≤ bc) (hbs : 1200 ≤ bs) (rest : mn_R X LX bc bs i g Q) : gm_Wp X LX 280 bc bs 370 947 L [] (245 + 4 * g) K R M Q := by
  obtain ⟨N, lw, A, im, t, w, f, hM⟩ := hM
  refine gm_sz (gm_p_load (pc := 947) (i := .aload_n 1) (sr := 2) (j := 1) (by decide +kernel) rfl hL.2.2.1 rfl) ?_
  refine mn_arg (pc := 948) (j := 1) (by decide +kernel) (by decide +kernel) (by decide +kernel) (by decide +kernel) (by decide +kernel) hL hi (by decide) hLX ?_
  refine mn_arg (pc := 954) (j := 2) (by decide +kernel) (by decide +kernel) (by decide +kernel) (by decide +kernel) (by decide +kernel) hL hi (by decide) hLX ?_
  refine gm_sz (gm_p_load (pc := 960) (i := .aload_n 3) (sr := 2) (j := 3) (by decide +kernel) rfl hL.2.2.2.2.1 rfl) ?_
  refine rq_x (pc := 961) (ix := 208) (mj := 173) (xs := [X (i + 1), X (i + 2)]) (st := []) (ds := [(-2147483648, 2147483647), (-2147483648, 2147483647)]) (r := true) hb (by omega) hM (by decide +kernel) (by decide +kernel) (by decide +kernel) (by decide +kernel) (show 4 = gm_na 173 by decide +kernel) (show 4 ≤ gm_ml 173 by decide +kernel) (Nat.le_of_ble_eq_true rfl) ax_without_s al_without_s ax_without_c al_without_c ax_without_v al_without_v (bc_in1 (mn_w (hX _)) (bc_in1 (mn_w (hX _)) bc_in0)) (List.forall_mem_cons.mpr ⟨hX _, (List.forall_mem_cons.mpr ⟨hX _, (fun _ h => nomatch h)⟩)⟩) (by omega) (by omega) ?_
  intro u1 la1 K1 R1 M1 hu1 hb1 hM1
  obtain ⟨y1, rfl⟩ : ∃ y, u1 = some (gm_vi y) := hu1
  show gm_Wp X LX 280 _ _ 370 964 L [gm_vi y1] (245 + 4 * g) K1 R1 M1 Q
  refine gm_sz (gm_p_stor (pc := 964) (i := .istore 5) (sr := 0) (j := 5) (by decide +kernel) rfl (by show 5 + 0 < L.length; have := hL.1; omega) rfl) ?_
  have hL5 := mn_L_s (y := y1) hL (j := 5) (Or.inl rfl)
  have l55 := mn_l5 (y := y1) hL
  generalize gm_lst L 5 (gm_vi y1) = L5 at hL5 l55 ⊢
  refine gm_sz (gm_p_load (pc := 966) (i := .aload_n 2) (sr := 2) (j := 2) (by decide +kernel) rfl hL5.2.2.2.1 rfl) ?_
  refine mn_arg (pc := 967) (j := 1) (by decide +kernel) (by decide +kernel) (by decide +kernel) (by decide +kernel) (by decide +kernel) hL5 hi (by decide) hLX ?_
  refine mn_arg (pc := 973) (j := 2) (by decide +kernel) (by decide +kernel) (by decide +kernel) (by decide +kernel) (by decide +kernel) hL5 hi (by decide) hLX ?_
  refine rq_m (pc := 979) (ix := 210) (mj := 328) (xs := [X (i + 1), X (i + 2)]) (st := []) (ds := [(-2147483648, 2147483647), (-2147483648, 2147483647)]) (r := true) hb1 (by omega) hM1 (by decide +kernel) (by decide +kernel) (by decide +kernel) (by decide +kernel) (show 2 = gm_na 328 by decide +kernel) (show 3 ≤ gm_ml 328 by decide +kernel) (Nat.le_of_ble_eq_true rfl) am_without_s am_without_c am_without_v (bc_in1 (mn_w (hX _)) (bc_in1 (mn_w (hX _)) bc_in0)) (List.forall_mem_cons.mpr ⟨hX _, (List.forall_mem_cons.mpr ⟨hX _, (fun _ h => nomatch h)⟩)⟩) (by omega) (by omega) ?_
  intro u2 la2 K2 R2 M2 hu2 hb2 hM2
  obtain ⟨y2, rfl⟩ : ∃ y, u2 = some (gm_vi y) := hu2
  show gm_Wp X LX 280 _ _ 370 982 L5 [gm_vi y2] (245 + 4 * g) K2 R2 M2 Q
  refine gm_sz (gm_p_stor (pc := 982) (i := .istore 6) (sr := 0) (j := 6) (by decide +kernel) rfl (by show 6 + 0 < L5.length; have := hL5.1; omega) rfl) ?_
  have hL6 := mn_L_s (y := y2) hL5 (j := 6) (Or.inr rfl)
  have l66 := mn_l6 (y := y2) hL5
  have l65 := mn_l65 (y := y2) l55
  generalize gm_lst L5 6 (gm_vi y2) = L6 at hL6 l66 l65 ⊢
  refine gm_sz (gm_p_goto (pc := 984) (off := 1009) (by decide +kernel) (by decide)) ?_
  exact gm_Wp_wk (Nat.le_refl _) (by omega) (by omega) (rest g _ _ _ _ L6 hb2 (by omega) ⟨_, _, _, _, _, _, _, hM2⟩ hL6)
theorem mc_20 (hb : bg g la K R M) (hg : g < 9990) (hM : RELW la K M) (hL : mn_L i L) (hi : 0 ≤ i ∧ i + 6 ≤ (LX : Int)) (hLX : LX ≤ 3072) (hX : ∀ j, gm_ir (X j)) (hbc : 12 ≤ bc) (hbs : 1200 ≤ bs) (rest : mn_R X LX bc bs i g Q) : gm_Wp X LX 280 bc bs 370 987 L [] (245 + 4 * g) K R M Q := by
  obtain ⟨N, lw, A, im, t, w, f, hM⟩ := hM
  refine gm_sz (gm_p_load (pc := 987) (i := .aload_n 1) (sr := 2) (j := 1) (by decide +kernel) rfl hL.2.2.1 rfl) ?_
  refine mn_arg (pc := 988) (j := 1) (by decide +kernel) (by decide +kernel) (by decide +kernel) (by decide +kernel) (by decide +kernel) hL hi (by decide) hLX ?_
  refine gm_sz (gm_p_load (pc := 994) (i := .aload_n 3) (sr := 2) (j := 3) (by decide +kernel) rfl hL.2.2.2.2.1 rfl) ?_
  refine rq_x (pc := 995) (ix := 211) (mj := 176) (xs := [X (i + 1)]) (st := []) (ds := [(-2147483648, 2147483647)]) (r := true) hb (by omega) hM (by decide +kernel) (by decide +kernel) (by decide +kernel) (by decide +kernel) (show 3 = gm_na 176 by decide +kernel) (show 3 ≤ gm_ml 176 by decide +kernel) (Nat.le_of_ble_eq_true rfl) ax_moved_s al_moved_s ax_moved_c al_moved_c ax_moved_v al_moved_v (bc_in1 (mn_w (hX _)) bc_in0) (List.forall_mem_cons.mpr ⟨hX _, (fun _ h => nomatch h)⟩) (by omega) (by omega) ?_
  intro u1 la1 K1 R1 M1 hu1 hb1 hM1
  obtain ⟨y1, rfl⟩ : ∃ y, u1 = some (gm_vi y) := hu1
  show gm_Wp X LX 280 _ _ 370 998 L [gm_vi y1] (245 + 4 * g) K1 R1 M1 Q
  refine gm_sz (gm_p_stor (pc := 998) (i := .istore 5) (sr := 0) (j := 5) (by decide +kernel) rfl (by show 5 + 0 < L.length; have := hL.1; omega) rfl) ?_
  have hL5 := mn_L_s (y := y1) hL (j := 5) (Or.inl rfl)
  have l55 := mn_l5 (y := y1) hL
  generalize gm_lst L 5 (gm_vi y1) = L5 at hL5 l55 ⊢
  refine gm_sz (gm_p_load (pc := 1000) (i := .aload_n 2) (sr := 2) (j := 2) (by decide +kernel) rfl hL5.2.2.2.1 rfl) ?_
  refine mn_arg (pc := 1001) (j := 1) (by decide +kernel) (by decide +kernel) (by decide +kernel) (by decide +kernel) (by decide +kernel) hL5 hi (by decide) hLX ?_
  refine rq_m (pc := 1007) (ix := 213) (mj := 329) (xs := [X (i + 1)]) (st := []) (ds := [(-2147483648, 2147483647)]) (r := true) hb1 (by omega) hM1 (by decide +kernel) (by decide +kernel) (by decide +kernel) (by decide +kernel) (show 1 = gm_na 329 by decide +kernel) (show 2 ≤ gm_ml 329 by decide +kernel) (Nat.le_of_ble_eq_true rfl) am_moved_s am_moved_c am_moved_v (bc_in1 (mn_w (hX _)) bc_in0) (List.forall_mem_cons.mpr ⟨hX _, (fun _ h => nomatch h)⟩) (by omega) (by omega) ?_
  intro u2 la2 K2 R2 M2 hu2 hb2 hM2
  obtain ⟨y2, rfl⟩ : ∃ y, u2 = some (gm_vi y) := hu2
  show gm_Wp X LX 280 _ _ 370 1010 L5 [gm_vi y2] (245 + 4 * g) K2 R2 M2 Q
  refine gm_sz (gm_p_stor (pc := 1010) (i := .istore 6) (sr := 0) (j := 6) (by decide +kernel) rfl (by show 6 + 0 < L5.length; have := hL5.1; omega) rfl) ?_
  have hL6 := mn_L_s (y := y2) hL5 (j := 6) (Or.inr rfl)
  have l66 := mn_l6 (y := y2) hL5
  have l65 := mn_l65 (y := y2) l55
  generalize gm_lst L5 6 (gm_vi y2) = L6 at hL6 l66 l65 ⊢
  refine gm_sz (gm_p_goto (pc := 1012) (off := 981) (by decide +kernel) (by decide)) ?_
  exact gm_Wp_wk (Nat.le_refl _) (by omega) (by omega) (rest g _ _ _ _ L6 hb2 (by omega) ⟨_, _, _, _, _, _, _, hM2⟩ hL6)
theorem mc_21 (hb : bg g la K R M) (hg : g < 9990) (hM : RELW la K M) (hL : mn_L i L) (hi : 0 ≤ i ∧ i + 6 ≤ (LX : Int)) (hLX : LX ≤ 3072) (hX : ∀ j, gm_ir (X j)) (hbc : 12 ≤ bc) (hbs : 1200 ≤ bs) (rest : mn_R X LX bc bs i g Q) : gm_Wp X LX 280 bc bs 370 1015 L [] (245 + 4 * g) K R M Q := by
  obtain ⟨N, lw, A, im, t, w, f, hM⟩ := hM
  refine gm_sz (gm_p_load (pc := 1015) (i := .aload_n 1) (sr := 2) (j := 1) (by decide +kernel) rfl hL.2.2.1 rfl) ?_
  refine rq_d (pc := 1016) (ix := 214) (mj := 23) (xs := []) (st := []) (ds := []) (r := true) hb (by omega) hM (by decide +kernel) (by decide +kernel) (by decide +kernel) (by decide +kernel) (show 0 = gm_na 23 by decide +kernel) (show 1 ≤ gm_ml 23 by decide +kernel) (Nat.le_of_ble_eq_true rfl) ax_lost_s al_lost_s ax_lost_c al_lost_c ax_lost_v al_lost_v bc_in0 (fun _ h => nomatch h) (by omega) (by omega) ?_
  intro u1 la1 K1 R1 M1 hu1 hb1 hM1
  obtain ⟨y1, rfl⟩ : ∃ y, u1 = some (gm_vi y) := hu1
  show gm_Wp X LX 280 _ _ 370 1019 L [gm_vi y1] (245 + 4 * g) K1 R1 M1 Q
  refine gm_sz (gm_p_pop (pc := 1019) (by decide +kernel) (by simp [gm_sort])) ?_
  refine gm_sz (gm_p_load (pc := 1020) (i := .aload_n 2) (sr := 2) (j := 2) (by decide +kernel) rfl hL.2.2.2.1 rfl) ?_
  refine rq_m (pc := 1021) (ix := 217) (mj := 330) (xs := []) (st := []) (ds := []) (r := true) hb1 (by omega) hM1 (by decide +kernel) (by decide +kernel) (by decide +kernel) (by decide +kernel) (show 0 = gm_na 330 by decide +kernel) (show 1 ≤ gm_ml 330 by decide +kernel) (Nat.le_of_ble_eq_true rfl) am_lost_s am_lost_c am_lost_v bc_in0 (fun _ h => nomatch h) (by omega) (by omega) ?_
  intro u2 la2 K2 R2 M2 hu2 hb2 hM2
  obtain ⟨y2, rfl⟩ : ∃ y, u2 = some (gm_vi y) := hu2
  show gm_Wp X LX 280 _ _ 370 1024 L [gm_vi y2] (245 + 4 * g) K2 R2 M2 Q
  refine gm_sz (gm_p_pop (pc := 1024) (by decide +kernel) (by simp [gm_sort])) ?_
  refine gm_sz (gm_p_goto (pc := 1025) (off := 968) (by decide +kernel) (by decide)) ?_
  exact gm_Wp_wk (Nat.le_refl _) (by omega) (by omega) (rest g _ _ _ _ L hb2 (by omega) ⟨_, _, _, _, _, _, _, hM2⟩ hL)
theorem mc_22 (hb : bg g la K R M) (hg : g < 9990) (hM : RELW la K M) (hL : mn_L i L) (hi : 0 ≤ i ∧ i + 6 ≤ (LX : Int)) (hLX : LX ≤ 3072) (hX : ∀ j, gm_ir (X j)) (hbc : 12 ≤ bc) (hbs : 1200 ≤ bs) (rest : mn_R X LX bc bs i g Q) : gm_Wp X LX 280 bc bs 370 1028 L [] (245 + 4 * g) K R M Q := by
  obtain ⟨N, lw, A, im, t, w, f, hM⟩ := hM
  refine gm_sz (gm_p_load (pc := 1028) (i := .aload_n 1) (sr := 2) (j := 1) (by decide +kernel) rfl hL.2.2.1 rfl) ?_
  refine mn_arg (pc := 1029) (j := 1) (by decide +kernel) (by decide +kernel) (by decide +kernel) (by decide +kernel) (by decide +kernel) hL hi (by decide) hLX ?_
  refine mn_bool (pc := 1035) (by decide +kernel) (by decide +kernel) (by decide +kernel) (by decide +kernel) ?_
  refine rq_d (pc := 1043) (ix := 218) (mj := 46) (xs := [bz (X (i + 1))]) (st := []) (ds := [(0, 1)]) (r := true) hb (by omega) hM (by decide +kernel) (by decide +kernel) (by decide +kernel) (by decide +kernel) (show 1 = gm_na 46 by decide +kernel) (show 2 ≤ gm_ml 46 by decide +kernel) (Nat.le_of_ble_eq_true rfl) ax_market_s al_market_s ax_market_c al_market_c ax_market_v al_market_v (bc_in1 ⟨bz_0, bz_1⟩ bc_in0) (List.forall_mem_cons.mpr ⟨⟨Int.le_trans (by decide) bz_0, Int.lt_of_le_of_lt bz_1 (by decide)⟩, (fun _ h => nomatch h)⟩) (by omega) (by omega) ?_
  intro u1 la1 K1 R1 M1 hu1 hb1 hM1
  obtain ⟨y1, rfl⟩ : ∃ y, u1 = some (gm_vi y) := hu1
  show gm_Wp X LX 280 _ _ 370 1046 L [gm_vi y1] (245 + 4 * g) K1 R1 M1 Q
  refine gm_sz (gm_p_pop (pc := 1046) (by decide +kernel) (by simp [gm_sort])) ?_
  refine gm_sz (gm_p_load (pc := 1047) (i := .aload_n 2) (sr := 2) (j := 2) (by decide +kernel) rfl hL.2.2.2.1 rfl) ?_
  refine mn_arg (pc := 1048) (j := 1) (by decide +kernel) (by decide +kernel) (by decide +kernel) (by decide +kernel) (by decide +kernel) hL hi (by decide) hLX ?_
  refine mn_bool (pc := 1054) (by decide +kernel) (by decide +kernel) (by decide +kernel) (by decide +kernel) ?_
  refine rq_m (pc := 1062) (ix := 222) (mj := 331) (xs := [bz (X (i + 1))]) (st := []) (ds := [(0, 1)]) (r := true) hb1 (by omega) hM1 (by decide +kernel) (by decide +kernel) (by decide +kernel) (by decide +kernel) (show 1 = gm_na 331 by decide +kernel) (show 2 ≤ gm_ml 331 by decide +kernel) (Nat.le_of_ble_eq_true rfl) am_market_s am_market_c am_market_v (bc_in1 ⟨bz_0, bz_1⟩ bc_in0) (List.forall_mem_cons.mpr ⟨⟨Int.le_trans (by decide) bz_0, Int.lt_of_le_of_lt bz_1 (by decide)⟩, (fun _ h => nomatch h)⟩) (by omega) (by omega) ?_
  intro u2 la2 K2 R2 M2 hu2 hb2 hM2
  obtain ⟨y2, rfl⟩ : ∃ y, u2 = some (gm_vi y) := hu2
  show gm_Wp X LX 280 _ _ 370 1065 L [gm_vi y2] (245 + 4 * g) K2 R2 M2 Q
  refine gm_sz (gm_p_pop (pc := 1065) (by decide +kernel) (by simp [gm_sort])) ?_
  refine gm_sz (gm_p_goto (pc := 1066) (off := 927) (by decide +kernel) (by decide)) ?_
  exact gm_Wp_wk (Nat.le_refl _) (by omega) (by omega) (rest g _ _ _ _ L hb2 (by omega) ⟨_, _, _, _, _, _, _, hM2⟩ hL)
theorem mc_23 (hb : bg g la K R M) (hg : g < 9990) (hM : RELW la K M) (hL : mn_L i L) (hi : 0 ≤ i ∧ i + 6 ≤ (LX : Int)) (hLX : LX ≤ 3072) (hX : ∀ j, gm_ir (X j)) (hbc : 12 ≤ bc) (hbs : 1200 ≤ bs) (rest : mn_R X LX bc bs i g Q) : gm_Wp X LX 280 bc bs 370 1069 L [] (245 + 4 * g) K R M Q := by
  obtain ⟨N, lw, A, im, t, w, f, hM⟩ := hM
  refine gm_sz (gm_p_load (pc := 1069) (i := .aload_n 1) (sr := 2) (j := 1) (by decide +kernel) rfl hL.2.2.1 rfl) ?_
  refine mn_arg (pc := 1070) (j := 1) (by decide +kernel) (by decide +kernel) (by decide +kernel) (by decide +kernel) (by decide +kernel) hL hi (by decide) hLX ?_
  refine gm_sz (gm_p_load (pc := 1076) (i := .aload_n 3) (sr := 2) (j := 3) (by decide +kernel) rfl hL.2.2.2.2.1 rfl) ?_
  refine rq_x (pc := 1077) (ix := 223) (mj := 178) (xs := [X (i + 1)]) (st := []) (ds := [(-2147483648, 2147483647)]) (r := true) hb (by omega) hM (by decide +kernel) (by decide +kernel) (by decide +kernel) (by decide +kernel) (show 3 = gm_na 178 by decide +kernel) (show 3 ≤ gm_ml 178 by decide +kernel) (Nat.le_of_ble_eq_true rfl) ax_passes_s al_passes_s ax_passes_c al_passes_c ax_passes_v al_passes_v (bc_in1 (mn_w (hX _)) bc_in0) (List.forall_mem_cons.mpr ⟨hX _, (fun _ h => nomatch h)⟩) (by omega) (by omega) ?_
  intro u1 la1 K1 R1 M1 hu1 hb1 hM1
  obtain ⟨y1, rfl⟩ : ∃ y, u1 = some (gm_vi y) := hu1
  show gm_Wp X LX 280 _ _ 370 1080 L [gm_vi y1] (245 + 4 * g) K1 R1 M1 Q
  refine gm_sz (gm_p_stor (pc := 1080) (i := .istore 5) (sr := 0) (j := 5) (by decide +kernel) rfl (by show 5 + 0 < L.length; have := hL.1; omega) rfl) ?_
  have hL5 := mn_L_s (y := y1) hL (j := 5) (Or.inl rfl)
  have l55 := mn_l5 (y := y1) hL
  generalize gm_lst L 5 (gm_vi y1) = L5 at hL5 l55 ⊢
  refine gm_sz (gm_p_load (pc := 1082) (i := .aload_n 2) (sr := 2) (j := 2) (by decide +kernel) rfl hL5.2.2.2.1 rfl) ?_
  refine mn_arg (pc := 1083) (j := 1) (by decide +kernel) (by decide +kernel) (by decide +kernel) (by decide +kernel) (by decide +kernel) hL5 hi (by decide) hLX ?_
  refine rq_m (pc := 1089) (ix := 225) (mj := 334) (xs := [X (i + 1)]) (st := []) (ds := [(-2147483648, 2147483647)]) (r := true) hb1 (by omega) hM1 (by decide +kernel) (by decide +kernel) (by decide +kernel) (by decide +kernel) (show 1 = gm_na 334 by decide +kernel) (show 2 ≤ gm_ml 334 by decide +kernel) (Nat.le_of_ble_eq_true rfl) am_passes_s am_passes_c am_passes_v (bc_in1 (mn_w (hX _)) bc_in0) (List.forall_mem_cons.mpr ⟨hX _, (fun _ h => nomatch h)⟩) (by omega) (by omega) ?_
  intro u2 la2 K2 R2 M2 hu2 hb2 hM2
  obtain ⟨y2, rfl⟩ : ∃ y, u2 = some (gm_vi y) := hu2
  show gm_Wp X LX 280 _ _ 370 1092 L5 [gm_vi y2] (245 + 4 * g) K2 R2 M2 Q
  refine gm_sz (gm_p_stor (pc := 1092) (i := .istore 6) (sr := 0) (j := 6) (by decide +kernel) rfl (by show 6 + 0 < L5.length; have := hL5.1; omega) rfl) ?_
  have hL6 := mn_L_s (y := y2) hL5 (j := 6) (Or.inr rfl)
  have l66 := mn_l6 (y := y2) hL5
  have l65 := mn_l65 (y := y2) l55
  generalize gm_lst L5 6 (gm_vi y2) = L6 at hL6 l66 l65 ⊢
  refine gm_sz (gm_p_goto (pc := 1094) (off := 899) (by decide +kernel) (by decide)) ?_
  exact gm_Wp_wk (Nat.le_refl _) (by omega) (by omega) (rest g _ _ _ _ L6 hb2 (by omega) ⟨_, _, _, _, _, _, _, hM2⟩ hL6)
theorem mc_24 (hb : bg g la K R M) (hg : g < 9990) (hM : RELW la K M) (hL : mn_L i L) (hi : 0 ≤ i ∧ i + 6 ≤ (LX : Int)) (hLX : LX ≤ 3072) (hX : ∀ j, gm_ir (X j)) (hbc : 12 ≤ bc) (hbs : 1200 ≤ bs) (rest : mn_R X LX bc bs i g Q) : gm_Wp X LX 280 bc bs 370 1097 L [] (245 + 4 * g) K R M Q := by
  obtain ⟨N, lw, A, im, t, w, f, hM⟩ := hM
  refine gm_sz (gm_p_load (pc := 1097) (i := .aload_n 1) (sr := 2) (j := 1) (by decide +kernel) rfl hL.2.2.1 rfl) ?_
  refine mn_arg (pc := 1098) (j := 1) (by decide +kernel) (by decide +kernel) (by decide +kernel) (by decide +kernel) (by decide +kernel) hL hi (by decide) hLX ?_
  refine mn_arg (pc := 1104) (j := 2) (by decide +kernel) (by decide +kernel) (by decide +kernel) (by decide +kernel) (by decide +kernel) hL hi (by decide) hLX ?_
  refine mn_arg (pc := 1110) (j := 3) (by decide +kernel) (by decide +kernel) (by decide +kernel) (by decide +kernel) (by decide +kernel) hL hi (by decide) hLX ?_
  refine gm_sz (gm_p_load (pc := 1116) (i := .aload_n 3) (sr := 2) (j := 3) (by decide +kernel) rfl hL.2.2.2.2.1 rfl) ?_
  refine rf_x (pc := 1117) (ix := 226) (mj := 185) (xs := [X (i + 1), X (i + 2), X (i + 3)]) (st := []) (ds := [(-2147483648, 2147483647), (-2147483648, 2147483647), (-2147483648, 2147483647)]) (c := (q_writers lw N (X (i + 1)) (X (i + 2)) (X (i + 3))).1) (ov := oV (q_writers lw N (X (i + 1)) (X (i + 2)) (X (i + 3))).1 (q_writers lw N (X (i + 1)) (X (i + 2)) (X (i + 3))).2) hb (by omega) hM (by decide +kernel) (by decide +kernel) (by decide +kernel) (by decide +kernel) (show 5 = gm_na 185 by decide +kernel) (show 5 ≤ gm_ml 185 by decide +kernel) (Nat.le_of_ble_eq_true rfl) ax_writers_s al_writers_s ax_writers_c al_writers_c ax_writers_v al_writers_v (bc_in1 (mn_w (hX _)) (bc_in1 (mn_w (hX _)) (bc_in1 (mn_w (hX _)) bc_in0))) (List.forall_mem_cons.mpr ⟨hX _, (List.forall_mem_cons.mpr ⟨hX _, (List.forall_mem_cons.mpr ⟨hX _, (fun _ h => nomatch h)⟩)⟩)⟩) (by omega) (by omega) (fw_writers hb hM (hX _) (hX _) (hX _)) ?_
  intro u1 la1 K1 R1 M1 hu1 hb1 hM1
  obtain ⟨y1, rfl, hy1, hv1⟩ := hu1
  show gm_Wp X LX 280 _ _ 370 1120 L [gm_vi y1] (245 + 4 * g) K1 R1 M1 Q
  refine gm_sz (gm_p_stor (pc := 1120) (i := .istore 5) (sr := 0) (j := 5) (by decide +kernel) rfl (by show 5 + 0 < L.length; have := hL.1; omega) rfl) ?_
  have hL5 := mn_L_s (y := y1) hL (j := 5) (Or.inl rfl)
  have l55 := mn_l5 (y := y1) hL
  generalize gm_lst L 5 (gm_vi y1) = L5 at hL5 l55 ⊢
  refine gm_sz (gm_p_load (pc := 1122) (i := .aload_n 2) (sr := 2) (j := 2) (by decide +kernel) rfl hL5.2.2.2.1 rfl) ?_
  refine mn_arg (pc := 1123) (j := 1) (by decide +kernel) (by decide +kernel) (by decide +kernel) (by decide +kernel) (by decide +kernel) hL5 hi (by decide) hLX ?_
  refine mn_arg (pc := 1129) (j := 2) (by decide +kernel) (by decide +kernel) (by decide +kernel) (by decide +kernel) (by decide +kernel) hL5 hi (by decide) hLX ?_
  refine mn_arg (pc := 1135) (j := 3) (by decide +kernel) (by decide +kernel) (by decide +kernel) (by decide +kernel) (by decide +kernel) hL5 hi (by decide) hLX ?_
  refine rf_m (pc := 1141) (ix := 228) (mj := 338) (xs := [X (i + 1), X (i + 2), X (i + 3)]) (st := []) (ds := [(-2147483648, 2147483647), (-2147483648, 2147483647), (-2147483648, 2147483647)]) (c := (q_writers lw N (X (i + 1)) (X (i + 2)) (X (i + 3))).1) (v := (q_writers lw N (X (i + 1)) (X (i + 2)) (X (i + 3))).2) hb1 (by omega) hM1 (by decide +kernel) (by decide +kernel) (by decide +kernel) (by decide +kernel) (show 3 = gm_na 338 by decide +kernel) (show 4 ≤ gm_ml 338 by decide +kernel) (Nat.le_of_ble_eq_true rfl) am_writers_s am_writers_c2 am_writers_v (bc_in1 (mn_w (hX _)) (bc_in1 (mn_w (hX _)) (bc_in1 (mn_w (hX _)) bc_in0))) (List.forall_mem_cons.mpr ⟨hX _, (List.forall_mem_cons.mpr ⟨hX _, (List.forall_mem_cons.mpr ⟨hX _, (fun _ h => nomatch h)⟩)⟩)⟩) (by omega) (by omega) (fm_writers hb1 hM1 (hX _) (hX _) (hX _)) ?_
  intro u2 la2 K2 R2 M2 hu2 hb2 hM2
  obtain ⟨y2, rfl, hy2, hth2, h245⟩ := hu2
  show gm_Wp X LX 280 _ _ 370 1144 L5 [gm_vi y2] (245 + 4 * g) K2 R2 M2 Q
  refine gm_sz (gm_p_stor (pc := 1144) (i := .istore 6) (sr := 0) (j := 6) (by decide +kernel) rfl (by show 6 + 0 < L5.length; have := hL5.1; omega) rfl) ?_
  have hL6 := mn_L_s (y := y2) hL5 (j := 6) (Or.inr rfl)
  have l66 := mn_l6 (y := y2) hL5
  have l65 := mn_l65 (y := y2) l55
  generalize gm_lst L5 6 (gm_vi y2) = L6 at hL6 l66 l65 ⊢
  refine mn_cmpA (p := 1146) (mj := 369) (ixt := 229) (jt := 3) hb2 hL6 l65 l66 (by decide +kernel) (by decide +kernel) (by decide +kernel) (by decide +kernel) (by decide +kernel) (by decide +kernel) (by decide +kernel) (by decide +kernel) (by decide +kernel) (by decide +kernel) (by decide +kernel) (by decide +kernel) (by decide +kernel) (by decide +kernel) (by decide +kernel) (by decide +kernel) (by decide +kernel) (by decide +kernel) (by decide +kernel) (by decide +kernel) (by decide +kernel) (by decide +kernel) (by decide +kernel) (by decide +kernel) (by decide +kernel) ?_ ?_ ?_
  · exact hth2.trans hy1.symm
  · exact qf_cmp iq_writers hy1 (fun v e => by rw [h245]; exact hv1 v e) hy2
  · refine gm_sz (gm_p_goto (pc := 1174) (off := 819) (by decide +kernel) (by decide)) ?_
    exact gm_Wp_wk (Nat.le_refl _) (by omega) (by omega) (rest g _ _ _ _ L6 hb2 (by omega) ⟨_, _, _, _, _, _, _, hM2⟩ hL6)
theorem mc_25 (hb : bg g la K R M) (hg : g < 9990) (hM : RELW la K M) (hL : mn_L i L) (hi : 0 ≤ i ∧ i + 6 ≤ (LX : Int)) (hLX : LX ≤ 3072) (hX : ∀ j, gm_ir (X j)) (hbc : 12 ≤ bc) (hbs : 1200 ≤ bs) (rest : mn_R X LX bc bs i g Q) : gm_Wp X LX 280 bc bs 370 1177 L [] (245 + 4 * g) K R M Q := by
  obtain ⟨N, lw, A, im, t, w, f, hM⟩ := hM
  refine gm_sz (gm_p_load (pc := 1177) (i := .aload_n 1) (sr := 2) (j := 1) (by decide +kernel) rfl hL.2.2.1 rfl) ?_
  refine mn_arg (pc := 1178) (j := 1) (by decide +kernel) (by decide +kernel) (by decide +kernel) (by decide +kernel) (by decide +kernel) hL hi (by decide) hLX ?_
  refine mn_arg (pc := 1184) (j := 2) (by decide +kernel) (by decide +kernel) (by decide +kernel) (by decide +kernel) (by decide +kernel) hL hi (by decide) hLX ?_
  refine mn_arg (pc := 1190) (j := 3) (by decide +kernel) (by decide +kernel) (by decide +kernel) (by decide +kernel) (by decide +kernel) hL hi (by decide) hLX ?_
  refine mn_arg (pc := 1196) (j := 4) (by decide +kernel) (by decide +kernel) (by decide +kernel) (by decide +kernel) (by decide +kernel) hL hi (by decide) hLX ?_
  refine gm_sz (gm_p_load (pc := 1202) (i := .aload_n 3) (sr := 2) (j := 3) (by decide +kernel) rfl hL.2.2.2.2.1 rfl) ?_
  refine rq_x (pc := 1203) (ix := 232) (mj := 189) (xs := [X (i + 1), X (i + 2), X (i + 3), X (i + 4)]) (st := []) (ds := [(-2147483648, 2147483647), (-2147483648, 2147483647), (-2147483648, 2147483647), (-2147483648, 2147483647)]) (r := true) hb (by omega) hM (by decide +kernel) (by decide +kernel) (by decide +kernel) (by decide +kernel) (show 6 = gm_na 189 by decide +kernel) (show 6 ≤ gm_ml 189 by decide +kernel) (Nat.le_of_ble_eq_true rfl) ax_wrote_s al_wrote_s ax_wrote_c al_wrote_c ax_wrote_v al_wrote_v (bc_in1 (mn_w (hX _)) (bc_in1 (mn_w (hX _)) (bc_in1 (mn_w (hX _)) (bc_in1 (mn_w (hX _)) bc_in0)))) (List.forall_mem_cons.mpr ⟨hX _, (List.forall_mem_cons.mpr ⟨hX _, (List.forall_mem_cons.mpr ⟨hX _, (List.forall_mem_cons.mpr ⟨hX _, (fun _ h => nomatch h)⟩)⟩)⟩)⟩) (by omega) (by omega) ?_
  intro u1 la1 K1 R1 M1 hu1 hb1 hM1
  obtain ⟨y1, rfl⟩ : ∃ y, u1 = some (gm_vi y) := hu1
  show gm_Wp X LX 280 _ _ 370 1206 L [gm_vi y1] (245 + 4 * g) K1 R1 M1 Q
  refine gm_sz (gm_p_stor (pc := 1206) (i := .istore 5) (sr := 0) (j := 5) (by decide +kernel) rfl (by show 5 + 0 < L.length; have := hL.1; omega) rfl) ?_
  have hL5 := mn_L_s (y := y1) hL (j := 5) (Or.inl rfl)
  have l55 := mn_l5 (y := y1) hL
  generalize gm_lst L 5 (gm_vi y1) = L5 at hL5 l55 ⊢
  refine gm_sz (gm_p_load (pc := 1208) (i := .aload_n 2) (sr := 2) (j := 2) (by decide +kernel) rfl hL5.2.2.2.1 rfl) ?_
  refine mn_arg (pc := 1209) (j := 1) (by decide +kernel) (by decide +kernel) (by decide +kernel) (by decide +kernel) (by decide +kernel) hL5 hi (by decide) hLX ?_
  refine mn_arg (pc := 1215) (j := 2) (by decide +kernel) (by decide +kernel) (by decide +kernel) (by decide +kernel) (by decide +kernel) hL5 hi (by decide) hLX ?_
  refine mn_arg (pc := 1221) (j := 3) (by decide +kernel) (by decide +kernel) (by decide +kernel) (by decide +kernel) (by decide +kernel) hL5 hi (by decide) hLX ?_
  refine mn_arg (pc := 1227) (j := 4) (by decide +kernel) (by decide +kernel) (by decide +kernel) (by decide +kernel) (by decide +kernel) hL5 hi (by decide) hLX ?_
  refine rq_m (pc := 1233) (ix := 234) (mj := 340) (xs := [X (i + 1), X (i + 2), X (i + 3), X (i + 4)]) (st := []) (ds := [(-2147483648, 2147483647), (-2147483648, 2147483647), (-2147483648, 2147483647), (-2147483648, 2147483647)]) (r := true) hb1 (by omega) hM1 (by decide +kernel) (by decide +kernel) (by decide +kernel) (by decide +kernel) (show 4 = gm_na 340 by decide +kernel) (show 5 ≤ gm_ml 340 by decide +kernel) (Nat.le_of_ble_eq_true rfl) am_wrote_s am_wrote_c am_wrote_v (bc_in1 (mn_w (hX _)) (bc_in1 (mn_w (hX _)) (bc_in1 (mn_w (hX _)) (bc_in1 (mn_w (hX _)) bc_in0)))) (List.forall_mem_cons.mpr ⟨hX _, (List.forall_mem_cons.mpr ⟨hX _, (List.forall_mem_cons.mpr ⟨hX _, (List.forall_mem_cons.mpr ⟨hX _, (fun _ h => nomatch h)⟩)⟩)⟩)⟩) (by omega) (by omega) ?_
  intro u2 la2 K2 R2 M2 hu2 hb2 hM2
  obtain ⟨y2, rfl⟩ : ∃ y, u2 = some (gm_vi y) := hu2
  show gm_Wp X LX 280 _ _ 370 1236 L5 [gm_vi y2] (245 + 4 * g) K2 R2 M2 Q
  refine gm_sz (gm_p_stor (pc := 1236) (i := .istore 6) (sr := 0) (j := 6) (by decide +kernel) rfl (by show 6 + 0 < L5.length; have := hL5.1; omega) rfl) ?_
  have hL6 := mn_L_s (y := y2) hL5 (j := 6) (Or.inr rfl)
  have l66 := mn_l6 (y := y2) hL5
  have l65 := mn_l65 (y := y2) l55
  generalize gm_lst L5 6 (gm_vi y2) = L6 at hL6 l66 l65 ⊢
  refine gm_sz (gm_p_goto (pc := 1238) (off := 755) (by decide +kernel) (by decide)) ?_
  exact gm_Wp_wk (Nat.le_refl _) (by omega) (by omega) (rest g _ _ _ _ L6 hb2 (by omega) ⟨_, _, _, _, _, _, _, hM2⟩ hL6)
theorem mc_26 (hb : bg g la K R M) (hg : g < 9990) (hM : RELW la K M) (hL : mn_L i L) (hi : 0 ≤ i ∧ i + 6 ≤ (LX : Int)) (hLX : LX ≤ 3072) (hX : ∀ j, gm_ir (X j)) (hbc : 12 ≤ bc) (hbs : 1200 ≤ bs) (rest : mn_R X LX bc bs i g Q) : gm_Wp X LX 280 bc bs 370 1241 L [] (245 + 4 * g) K R M Q := by
  obtain ⟨N, lw, A, im, t, w, f, hM⟩ := hM
  refine gm_sz (gm_p_load (pc := 1241) (i := .aload_n 1) (sr := 2) (j := 1) (by decide +kernel) rfl hL.2.2.1 rfl) ?_
  refine mn_arg (pc := 1242) (j := 1) (by decide +kernel) (by decide +kernel) (by decide +kernel) (by decide +kernel) (by decide +kernel) hL hi (by decide) hLX ?_
  refine mn_arg (pc := 1248) (j := 2) (by decide +kernel) (by decide +kernel) (by decide +kernel) (by decide +kernel) (by decide +kernel) hL hi (by decide) hLX ?_
  refine gm_sz (gm_p_load (pc := 1254) (i := .aload_n 3) (sr := 2) (j := 3) (by decide +kernel) rfl hL.2.2.2.2.1 rfl) ?_
  refine rq_x (pc := 1255) (ix := 235) (mj := 191) (xs := [X (i + 1), X (i + 2)]) (st := []) (ds := [(-2147483648, 2147483647), (-2147483648, 2147483647)]) (r := true) hb (by omega) hM (by decide +kernel) (by decide +kernel) (by decide +kernel) (by decide +kernel) (show 4 = gm_na 191 by decide +kernel) (show 4 ≤ gm_ml 191 by decide +kernel) (Nat.le_of_ble_eq_true rfl) ax_table_s al_table_s ax_table_c al_table_c ax_table_v al_table_v (bc_in1 (mn_w (hX _)) (bc_in1 (mn_w (hX _)) bc_in0)) (List.forall_mem_cons.mpr ⟨hX _, (List.forall_mem_cons.mpr ⟨hX _, (fun _ h => nomatch h)⟩)⟩) (by omega) (by omega) ?_
  intro u1 la1 K1 R1 M1 hu1 hb1 hM1
  obtain ⟨y1, rfl⟩ : ∃ y, u1 = some (gm_vi y) := hu1
  show gm_Wp X LX 280 _ _ 370 1258 L [gm_vi y1] (245 + 4 * g) K1 R1 M1 Q
  refine gm_sz (gm_p_stor (pc := 1258) (i := .istore 5) (sr := 0) (j := 5) (by decide +kernel) rfl (by show 5 + 0 < L.length; have := hL.1; omega) rfl) ?_
  have hL5 := mn_L_s (y := y1) hL (j := 5) (Or.inl rfl)
  have l55 := mn_l5 (y := y1) hL
  generalize gm_lst L 5 (gm_vi y1) = L5 at hL5 l55 ⊢
  refine gm_sz (gm_p_load (pc := 1260) (i := .aload_n 2) (sr := 2) (j := 2) (by decide +kernel) rfl hL5.2.2.2.1 rfl) ?_
  refine mn_arg (pc := 1261) (j := 1) (by decide +kernel) (by decide +kernel) (by decide +kernel) (by decide +kernel) (by decide +kernel) hL5 hi (by decide) hLX ?_
  refine mn_arg (pc := 1267) (j := 2) (by decide +kernel) (by decide +kernel) (by decide +kernel) (by decide +kernel) (by decide +kernel) hL5 hi (by decide) hLX ?_
  refine rq_m (pc := 1273) (ix := 237) (mj := 341) (xs := [X (i + 1), X (i + 2)]) (st := []) (ds := [(-2147483648, 2147483647), (-2147483648, 2147483647)]) (r := true) hb1 (by omega) hM1 (by decide +kernel) (by decide +kernel) (by decide +kernel) (by decide +kernel) (show 2 = gm_na 341 by decide +kernel) (show 3 ≤ gm_ml 341 by decide +kernel) (Nat.le_of_ble_eq_true rfl) am_table_s am_table_c am_table_v (bc_in1 (mn_w (hX _)) (bc_in1 (mn_w (hX _)) bc_in0)) (List.forall_mem_cons.mpr ⟨hX _, (List.forall_mem_cons.mpr ⟨hX _, (fun _ h => nomatch h)⟩)⟩) (by omega) (by omega) ?_
  intro u2 la2 K2 R2 M2 hu2 hb2 hM2
  obtain ⟨y2, rfl⟩ : ∃ y, u2 = some (gm_vi y) := hu2
  show gm_Wp X LX 280 _ _ 370 1276 L5 [gm_vi y2] (245 + 4 * g) K2 R2 M2 Q
  refine gm_sz (gm_p_stor (pc := 1276) (i := .istore 6) (sr := 0) (j := 6) (by decide +kernel) rfl (by show 6 + 0 < L5.length; have := hL5.1; omega) rfl) ?_
  have hL6 := mn_L_s (y := y2) hL5 (j := 6) (Or.inr rfl)
  have l66 := mn_l6 (y := y2) hL5
  have l65 := mn_l65 (y := y2) l55
  generalize gm_lst L5 6 (gm_vi y2) = L6 at hL6 l66 l65 ⊢
  refine gm_sz (gm_p_goto (pc := 1278) (off := 715) (by decide +kernel) (by decide)) ?_
  exact gm_Wp_wk (Nat.le_refl _) (by omega) (by omega) (rest g _ _ _ _ L6 hb2 (by omega) ⟨_, _, _, _, _, _, _, hM2⟩ hL6)
theorem mc_27 (hb : bg g la K R M) (hg : g < 9990) (hM : RELW la K M) (hL : mn_L i L) (hi : 0 ≤ i ∧ i + 6 ≤ (LX : Int)) (hLX : LX ≤ 3072) (hX : ∀ j, gm_ir (X j)) (hbc : 12 ≤ bc) (hbs : 1200 ≤ bs) (rest : mn_R X LX bc bs i g Q) : gm_Wp X LX 280 bc bs 370 1281 L [] (245 + 4 * g) K R M Q := by
  obtain ⟨N, lw, A, im, t, w, f, hM⟩ := hM
  refine gm_sz (gm_p_load (pc := 1281) (i := .aload_n 1) (sr := 2) (j := 1) (by decide +kernel) rfl hL.2.2.1 rfl) ?_
  refine mn_arg (pc := 1282) (j := 1) (by decide +kernel) (by decide +kernel) (by decide +kernel) (by decide +kernel) (by decide +kernel) hL hi (by decide) hLX ?_
  refine mn_arg (pc := 1288) (j := 2) (by decide +kernel) (by decide +kernel) (by decide +kernel) (by decide +kernel) (by decide +kernel) hL hi (by decide) hLX ?_
  refine mn_arg (pc := 1294) (j := 3) (by decide +kernel) (by decide +kernel) (by decide +kernel) (by decide +kernel) (by decide +kernel) hL hi (by decide) hLX ?_
  refine gm_sz (gm_p_load (pc := 1300) (i := .aload_n 3) (sr := 2) (j := 3) (by decide +kernel) rfl hL.2.2.2.2.1 rfl) ?_
  refine rq_x (pc := 1301) (ix := 238) (mj := 194) (xs := [X (i + 1), X (i + 2), X (i + 3)]) (st := []) (ds := [(-2147483648, 2147483647), (-2147483648, 2147483647), (-2147483648, 2147483647)]) (r := true) hb (by omega) hM (by decide +kernel) (by decide +kernel) (by decide +kernel) (by decide +kernel) (show 5 = gm_na 194 by decide +kernel) (show 5 ≤ gm_ml 194 by decide +kernel) (Nat.le_of_ble_eq_true rfl) ax_apart_s al_apart_s ax_apart_c al_apart_c ax_apart_v al_apart_v (bc_in1 (mn_w (hX _)) (bc_in1 (mn_w (hX _)) (bc_in1 (mn_w (hX _)) bc_in0))) (List.forall_mem_cons.mpr ⟨hX _, (List.forall_mem_cons.mpr ⟨hX _, (List.forall_mem_cons.mpr ⟨hX _, (fun _ h => nomatch h)⟩)⟩)⟩) (by omega) (by omega) ?_
  intro u1 la1 K1 R1 M1 hu1 hb1 hM1
  obtain ⟨y1, rfl⟩ : ∃ y, u1 = some (gm_vi y) := hu1
  show gm_Wp X LX 280 _ _ 370 1304 L [gm_vi y1] (245 + 4 * g) K1 R1 M1 Q
  refine gm_sz (gm_p_stor (pc := 1304) (i := .istore 5) (sr := 0) (j := 5) (by decide +kernel) rfl (by show 5 + 0 < L.length; have := hL.1; omega) rfl) ?_
  have hL5 := mn_L_s (y := y1) hL (j := 5) (Or.inl rfl)
  have l55 := mn_l5 (y := y1) hL
  generalize gm_lst L 5 (gm_vi y1) = L5 at hL5 l55 ⊢
  refine gm_sz (gm_p_load (pc := 1306) (i := .aload_n 2) (sr := 2) (j := 2) (by decide +kernel) rfl hL5.2.2.2.1 rfl) ?_
  refine mn_arg (pc := 1307) (j := 1) (by decide +kernel) (by decide +kernel) (by decide +kernel) (by decide +kernel) (by decide +kernel) hL5 hi (by decide) hLX ?_
  refine mn_arg (pc := 1313) (j := 2) (by decide +kernel) (by decide +kernel) (by decide +kernel) (by decide +kernel) (by decide +kernel) hL5 hi (by decide) hLX ?_
  refine mn_arg (pc := 1319) (j := 3) (by decide +kernel) (by decide +kernel) (by decide +kernel) (by decide +kernel) (by decide +kernel) hL5 hi (by decide) hLX ?_
  refine rq_m (pc := 1325) (ix := 240) (mj := 344) (xs := [X (i + 1), X (i + 2), X (i + 3)]) (st := []) (ds := [(-2147483648, 2147483647), (-2147483648, 2147483647), (-2147483648, 2147483647)]) (r := true) hb1 (by omega) hM1 (by decide +kernel) (by decide +kernel) (by decide +kernel) (by decide +kernel) (show 3 = gm_na 344 by decide +kernel) (show 4 ≤ gm_ml 344 by decide +kernel) (Nat.le_of_ble_eq_true rfl) am_apart_s am_apart_c am_apart_v (bc_in1 (mn_w (hX _)) (bc_in1 (mn_w (hX _)) (bc_in1 (mn_w (hX _)) bc_in0))) (List.forall_mem_cons.mpr ⟨hX _, (List.forall_mem_cons.mpr ⟨hX _, (List.forall_mem_cons.mpr ⟨hX _, (fun _ h => nomatch h)⟩)⟩)⟩) (by omega) (by omega) ?_
  intro u2 la2 K2 R2 M2 hu2 hb2 hM2
  obtain ⟨y2, rfl⟩ : ∃ y, u2 = some (gm_vi y) := hu2
  show gm_Wp X LX 280 _ _ 370 1328 L5 [gm_vi y2] (245 + 4 * g) K2 R2 M2 Q
  refine gm_sz (gm_p_stor (pc := 1328) (i := .istore 6) (sr := 0) (j := 6) (by decide +kernel) rfl (by show 6 + 0 < L5.length; have := hL5.1; omega) rfl) ?_
  have hL6 := mn_L_s (y := y2) hL5 (j := 6) (Or.inr rfl)
  have l66 := mn_l6 (y := y2) hL5
  have l65 := mn_l65 (y := y2) l55
  generalize gm_lst L5 6 (gm_vi y2) = L6 at hL6 l66 l65 ⊢
  refine gm_sz (gm_p_goto (pc := 1330) (off := 663) (by decide +kernel) (by decide)) ?_
  exact gm_Wp_wk (Nat.le_refl _) (by omega) (by omega) (rest g _ _ _ _ L6 hb2 (by omega) ⟨_, _, _, _, _, _, _, hM2⟩ hL6)
theorem mc_28 (hb : bg g la K R M) (hg : g < 9990) (hM : RELW la K M) (hL : mn_L i L) (hi : 0 ≤ i ∧ i + 6 ≤ (LX : Int)) (hLX : LX ≤ 3072) (hX : ∀ j, gm_ir (X j)) (hbc : 12 ≤ bc) (hbs : 1200 ≤ bs) (rest : mn_R X LX bc bs i g Q) : gm_Wp X LX 280 bc bs 370 1333 L [] (245 + 4 * g) K R M Q := by
  obtain ⟨N, lw, A, im, t, w, f, hM⟩ := hM
  refine gm_sz (gm_p_load (pc := 1333) (i := .aload_n 1) (sr := 2) (j := 1) (by decide +kernel) rfl hL.2.2.1 rfl) ?_
  refine rq_d (pc := 1334) (ix := 241) (mj := 48) (xs := []) (st := []) (ds := []) (r := true) hb (by omega) hM (by decide +kernel) (by decide +kernel) (by decide +kernel) (by decide +kernel) (show 0 = gm_na 48 by decide +kernel) (show 1 ≤ gm_ml 48 by decide +kernel) (Nat.le_of_ble_eq_true rfl) ax_poles_s al_poles_s ax_poles_c al_poles_c ax_poles_v al_poles_v bc_in0 (fun _ h => nomatch h) (by omega) (by omega) ?_
  intro u1 la1 K1 R1 M1 hu1 hb1 hM1
  obtain ⟨y1, rfl⟩ : ∃ y, u1 = some (gm_vi y) := hu1
  show gm_Wp X LX 280 _ _ 370 1337 L [gm_vi y1] (245 + 4 * g) K1 R1 M1 Q
  refine gm_sz (gm_p_pop (pc := 1337) (by decide +kernel) (by simp [gm_sort])) ?_
  refine gm_sz (gm_p_load (pc := 1338) (i := .aload_n 2) (sr := 2) (j := 2) (by decide +kernel) rfl hL.2.2.2.1 rfl) ?_
  refine rq_m (pc := 1339) (ix := 244) (mj := 347) (xs := []) (st := []) (ds := []) (r := true) hb1 (by omega) hM1 (by decide +kernel) (by decide +kernel) (by decide +kernel) (by decide +kernel) (show 0 = gm_na 347 by decide +kernel) (show 1 ≤ gm_ml 347 by decide +kernel) (Nat.le_of_ble_eq_true rfl) am_poles_s am_poles_c am_poles_v bc_in0 (fun _ h => nomatch h) (by omega) (by omega) ?_
  intro u2 la2 K2 R2 M2 hu2 hb2 hM2
  obtain ⟨y2, rfl⟩ : ∃ y, u2 = some (gm_vi y) := hu2
  show gm_Wp X LX 280 _ _ 370 1342 L [gm_vi y2] (245 + 4 * g) K2 R2 M2 Q
  refine gm_sz (gm_p_pop (pc := 1342) (by decide +kernel) (by simp [gm_sort])) ?_
  refine gm_sz (gm_p_goto (pc := 1343) (off := 650) (by decide +kernel) (by decide)) ?_
  exact gm_Wp_wk (Nat.le_refl _) (by omega) (by omega) (rest g _ _ _ _ L hb2 (by omega) ⟨_, _, _, _, _, _, _, hM2⟩ hL)
theorem mc_29 (hb : bg g la K R M) (hg : g < 9990) (hM : RELW la K M) (hL : mn_L i L) (hi : 0 ≤ i ∧ i + 6 ≤ (LX : Int)) (hLX : LX ≤ 3072) (hX : ∀ j, gm_ir (X j)) (hbc : 12 ≤ bc) (hbs : 1200 ≤ bs) (rest : mn_R X LX bc bs i g Q) : gm_Wp X LX 280 bc bs 370 1346 L [] (245 + 4 * g) K R M Q := by
  obtain ⟨N, lw, A, im, t, w, f, hM⟩ := hM
  refine gm_sz (gm_p_load (pc := 1346) (i := .aload_n 1) (sr := 2) (j := 1) (by decide +kernel) rfl hL.2.2.1 rfl) ?_
  refine gm_sz (gm_p_load (pc := 1347) (i := .aload_n 3) (sr := 2) (j := 3) (by decide +kernel) rfl hL.2.2.2.2.1 rfl) ?_
  refine ft_x (pc := 1348) (ix := 245) (mj := 196) (xs := []) (st := []) (ds := []) (r := true) hb (by omega) hM (by decide +kernel) (by decide +kernel) (by decide +kernel) (by decide +kernel) (show 2 = gm_na 196 by decide +kernel) (show 2 ≤ gm_ml 196 by decide +kernel) (Nat.le_of_ble_eq_true rfl) ax_fit_s al_fit_s ax_fit_c al_fit_c ax_fit_v al_fit_v bc_in0 (fun _ h => nomatch h) (by omega) (by omega) ?_
  intro u1 la1 K1 R1 M1 hu1 hb1 hM1
  obtain ⟨y1, rfl⟩ : ∃ y, u1 = some (gm_vi y) := hu1
  show gm_Wp X LX 280 _ _ 370 1351 L [gm_vi y1] (245 + 4 * g) K1 R1 M1 Q
  refine gm_sz (gm_p_stor (pc := 1351) (i := .istore 5) (sr := 0) (j := 5) (by decide +kernel) rfl (by show 5 + 0 < L.length; have := hL.1; omega) rfl) ?_
  have hL5 := mn_L_s (y := y1) hL (j := 5) (Or.inl rfl)
  have l55 := mn_l5 (y := y1) hL
  generalize gm_lst L 5 (gm_vi y1) = L5 at hL5 l55 ⊢
  refine gm_sz (gm_p_load (pc := 1353) (i := .aload_n 2) (sr := 2) (j := 2) (by decide +kernel) rfl hL5.2.2.2.1 rfl) ?_
  refine ft_m (pc := 1354) (ix := 247) (mj := 348) (xs := []) (st := []) (ds := []) (r := true) hb1 (by omega) hM1 (by decide +kernel) (by decide +kernel) (by decide +kernel) (by decide +kernel) (show 0 = gm_na 348 by decide +kernel) (show 1 ≤ gm_ml 348 by decide +kernel) (Nat.le_of_ble_eq_true rfl) am_fit_s am_fit_c am_fit_v bc_in0 (fun _ h => nomatch h) (by omega) (by omega) ?_
  intro u2 la2 K2 R2 M2 hu2 hb2 hM2
  obtain ⟨y2, rfl⟩ : ∃ y, u2 = some (gm_vi y) := hu2
  show gm_Wp X LX 280 _ _ 370 1357 L5 [gm_vi y2] (245 + 4 * g) K2 R2 M2 Q
  refine gm_sz (gm_p_stor (pc := 1357) (i := .istore 6) (sr := 0) (j := 6) (by decide +kernel) rfl (by show 6 + 0 < L5.length; have := hL5.1; omega) rfl) ?_
  have hL6 := mn_L_s (y := y2) hL5 (j := 6) (Or.inr rfl)
  have l66 := mn_l6 (y := y2) hL5
  have l65 := mn_l65 (y := y2) l55
  generalize gm_lst L5 6 (gm_vi y2) = L6 at hL6 l66 l65 ⊢
  refine gm_sz (gm_p_goto (pc := 1359) (off := 634) (by decide +kernel) (by decide)) ?_
  exact gm_Wp_wk (Nat.le_refl _) (by omega) (by omega) (rest g _ _ _ _ L6 hb2 (by omega) ⟨_, _, _, _, _, _, _, hM2⟩ hL6)
theorem mc_30 (hb : bg g la K R M) (hg : g < 9990) (hM : RELW la K M) (hL : mn_L i L) (hi : 0 ≤ i ∧ i + 6 ≤ (LX : Int)) (hLX : LX ≤ 3072) (hX : ∀ j, gm_ir (X j)) (hbc : 12 ≤ bc) (hbs : 1200 ≤ bs) (rest : mn_R X LX bc bs i g Q) : gm_Wp X LX 280 bc bs 370 1362 L [] (245 + 4 * g) K R M Q := by
  obtain ⟨N, lw, A, im, t, w, f, hM⟩ := hM
  refine gm_sz (gm_p_load (pc := 1362) (i := .aload_n 1) (sr := 2) (j := 1) (by decide +kernel) rfl hL.2.2.1 rfl) ?_
  refine mn_arg (pc := 1363) (j := 1) (by decide +kernel) (by decide +kernel) (by decide +kernel) (by decide +kernel) (by decide +kernel) hL hi (by decide) hLX ?_
  refine mn_arg (pc := 1369) (j := 2) (by decide +kernel) (by decide +kernel) (by decide +kernel) (by decide +kernel) (by decide +kernel) hL hi (by decide) hLX ?_
  refine mn_arg (pc := 1375) (j := 3) (by decide +kernel) (by decide +kernel) (by decide +kernel) (by decide +kernel) (by decide +kernel) hL hi (by decide) hLX ?_
  refine mn_bool (pc := 1381) (by decide +kernel) (by decide +kernel) (by decide +kernel) (by decide +kernel) ?_
  refine gm_sz (gm_p_load (pc := 1389) (i := .aload_n 3) (sr := 2) (j := 3) (by decide +kernel) rfl hL.2.2.2.2.1 rfl) ?_
  refine rq_x (pc := 1390) (ix := 248) (mj := 200) (xs := [X (i + 1), X (i + 2), bz (X (i + 3))]) (st := []) (ds := [(-2147483648, 2147483647), (-2147483648, 2147483647), (0, 1)]) (r := true) hb (by omega) hM (by decide +kernel) (by decide +kernel) (by decide +kernel) (by decide +kernel) (show 5 = gm_na 200 by decide +kernel) (show 5 ≤ gm_ml 200 by decide +kernel) (Nat.le_of_ble_eq_true rfl) ax_soonest_s al_soonest_s ax_soonest_c al_soonest_c ax_soonest_v al_soonest_v (bc_in1 (mn_w (hX _)) (bc_in1 (mn_w (hX _)) (bc_in1 ⟨bz_0, bz_1⟩ bc_in0))) (List.forall_mem_cons.mpr ⟨hX _, (List.forall_mem_cons.mpr ⟨hX _, (List.forall_mem_cons.mpr ⟨⟨Int.le_trans (by decide) bz_0, Int.lt_of_le_of_lt bz_1 (by decide)⟩, (fun _ h => nomatch h)⟩)⟩)⟩) (by omega) (by omega) ?_
  intro u1 la1 K1 R1 M1 hu1 hb1 hM1
  obtain ⟨y1, rfl⟩ : ∃ y, u1 = some (gm_vi y) := hu1
  show gm_Wp X LX 280 _ _ 370 1393 L [gm_vi y1] (245 + 4 * g) K1 R1 M1 Q
  refine gm_sz (gm_p_stor (pc := 1393) (i := .istore 5) (sr := 0) (j := 5) (by decide +kernel) rfl (by show 5 + 0 < L.length; have := hL.1; omega) rfl) ?_
  have hL5 := mn_L_s (y := y1) hL (j := 5) (Or.inl rfl)
  have l55 := mn_l5 (y := y1) hL
  generalize gm_lst L 5 (gm_vi y1) = L5 at hL5 l55 ⊢
  refine gm_sz (gm_p_load (pc := 1395) (i := .aload_n 2) (sr := 2) (j := 2) (by decide +kernel) rfl hL5.2.2.2.1 rfl) ?_
  refine mn_arg (pc := 1396) (j := 1) (by decide +kernel) (by decide +kernel) (by decide +kernel) (by decide +kernel) (by decide +kernel) hL5 hi (by decide) hLX ?_
  refine mn_arg (pc := 1402) (j := 2) (by decide +kernel) (by decide +kernel) (by decide +kernel) (by decide +kernel) (by decide +kernel) hL5 hi (by decide) hLX ?_
  refine mn_arg (pc := 1408) (j := 3) (by decide +kernel) (by decide +kernel) (by decide +kernel) (by decide +kernel) (by decide +kernel) hL5 hi (by decide) hLX ?_
  refine mn_bool (pc := 1414) (by decide +kernel) (by decide +kernel) (by decide +kernel) (by decide +kernel) ?_
  refine rq_m (pc := 1422) (ix := 251) (mj := 349) (xs := [X (i + 1), X (i + 2), bz (X (i + 3))]) (st := []) (ds := [(-2147483648, 2147483647), (-2147483648, 2147483647), (0, 1)]) (r := true) hb1 (by omega) hM1 (by decide +kernel) (by decide +kernel) (by decide +kernel) (by decide +kernel) (show 3 = gm_na 349 by decide +kernel) (show 4 ≤ gm_ml 349 by decide +kernel) (Nat.le_of_ble_eq_true rfl) am_soonest_s am_soonest_c am_soonest_v (bc_in1 (mn_w (hX _)) (bc_in1 (mn_w (hX _)) (bc_in1 ⟨bz_0, bz_1⟩ bc_in0))) (List.forall_mem_cons.mpr ⟨hX _, (List.forall_mem_cons.mpr ⟨hX _, (List.forall_mem_cons.mpr ⟨⟨Int.le_trans (by decide) bz_0, Int.lt_of_le_of_lt bz_1 (by decide)⟩, (fun _ h => nomatch h)⟩)⟩)⟩) (by omega) (by omega) ?_
  intro u2 la2 K2 R2 M2 hu2 hb2 hM2
  obtain ⟨y2, rfl⟩ : ∃ y, u2 = some (gm_vi y) := hu2
  show gm_Wp X LX 280 _ _ 370 1425 L5 [gm_vi y2] (245 + 4 * g) K2 R2 M2 Q
  refine gm_sz (gm_p_stor (pc := 1425) (i := .istore 6) (sr := 0) (j := 6) (by decide +kernel) rfl (by show 6 + 0 < L5.length; have := hL5.1; omega) rfl) ?_
  have hL6 := mn_L_s (y := y2) hL5 (j := 6) (Or.inr rfl)
  have l66 := mn_l6 (y := y2) hL5
  have l65 := mn_l65 (y := y2) l55
  generalize gm_lst L5 6 (gm_vi y2) = L6 at hL6 l66 l65 ⊢
  refine gm_sz (gm_p_goto (pc := 1427) (off := 566) (by decide +kernel) (by decide)) ?_
  exact gm_Wp_wk (Nat.le_refl _) (by omega) (by omega) (rest g _ _ _ _ L6 hb2 (by omega) ⟨_, _, _, _, _, _, _, hM2⟩ hL6)
theorem mc_31 (hb : bg g la K R M) (hg : g < 9990) (hM : RELW la K M) (hL : mn_L i L) (hi : 0 ≤ i ∧ i + 6 ≤ (LX : Int)) (hLX : LX ≤ 3072) (hX : ∀ j, gm_ir (X j)) (hbc : 12 ≤ bc) (hbs : 1200 ≤ bs) (rest : mn_R X LX bc bs i g Q) : gm_Wp X LX 280 bc bs 370 1430 L [] (245 + 4 * g) K R M Q := by
  obtain ⟨N, lw, A, im, t, w, f, hM⟩ := hM
  refine gm_sz (gm_p_load (pc := 1430) (i := .aload_n 1) (sr := 2) (j := 1) (by decide +kernel) rfl hL.2.2.1 rfl) ?_
  refine mn_arg (pc := 1431) (j := 1) (by decide +kernel) (by decide +kernel) (by decide +kernel) (by decide +kernel) (by decide +kernel) hL hi (by decide) hLX ?_
  refine mn_arg (pc := 1437) (j := 2) (by decide +kernel) (by decide +kernel) (by decide +kernel) (by decide +kernel) (by decide +kernel) hL hi (by decide) hLX ?_
  refine mn_arg (pc := 1443) (j := 3) (by decide +kernel) (by decide +kernel) (by decide +kernel) (by decide +kernel) (by decide +kernel) hL hi (by decide) hLX ?_
  refine gm_sz (gm_p_load (pc := 1449) (i := .aload_n 3) (sr := 2) (j := 3) (by decide +kernel) rfl hL.2.2.2.2.1 rfl) ?_
  refine rq_x (pc := 1450) (ix := 252) (mj := 206) (xs := [X (i + 1), X (i + 2), X (i + 3)]) (st := []) (ds := [(-2147483648, 2147483647), (-2147483648, 2147483647), (-2147483648, 2147483647)]) (r := true) hb (by omega) hM (by decide +kernel) (by decide +kernel) (by decide +kernel) (by decide +kernel) (show 5 = gm_na 206 by decide +kernel) (show 5 ≤ gm_ml 206 by decide +kernel) (Nat.le_of_ble_eq_true rfl) ax_chain_s al_chain_s ax_chain_c al_chain_c ax_chain_v al_chain_v (bc_in1 (mn_w (hX _)) (bc_in1 (mn_w (hX _)) (bc_in1 (mn_w (hX _)) bc_in0))) (List.forall_mem_cons.mpr ⟨hX _, (List.forall_mem_cons.mpr ⟨hX _, (List.forall_mem_cons.mpr ⟨hX _, (fun _ h => nomatch h)⟩)⟩)⟩) (by omega) (by omega) ?_
  intro u1 la1 K1 R1 M1 hu1 hb1 hM1
  obtain ⟨y1, rfl⟩ : ∃ y, u1 = some (gm_vi y) := hu1
  show gm_Wp X LX 280 _ _ 370 1453 L [gm_vi y1] (245 + 4 * g) K1 R1 M1 Q
  refine gm_sz (gm_p_stor (pc := 1453) (i := .istore 5) (sr := 0) (j := 5) (by decide +kernel) rfl (by show 5 + 0 < L.length; have := hL.1; omega) rfl) ?_
  have hL5 := mn_L_s (y := y1) hL (j := 5) (Or.inl rfl)
  have l55 := mn_l5 (y := y1) hL
  generalize gm_lst L 5 (gm_vi y1) = L5 at hL5 l55 ⊢
  refine gm_sz (gm_p_load (pc := 1455) (i := .aload_n 2) (sr := 2) (j := 2) (by decide +kernel) rfl hL5.2.2.2.1 rfl) ?_
  refine mn_arg (pc := 1456) (j := 1) (by decide +kernel) (by decide +kernel) (by decide +kernel) (by decide +kernel) (by decide +kernel) hL5 hi (by decide) hLX ?_
  refine mn_arg (pc := 1462) (j := 2) (by decide +kernel) (by decide +kernel) (by decide +kernel) (by decide +kernel) (by decide +kernel) hL5 hi (by decide) hLX ?_
  refine mn_arg (pc := 1468) (j := 3) (by decide +kernel) (by decide +kernel) (by decide +kernel) (by decide +kernel) (by decide +kernel) hL5 hi (by decide) hLX ?_
  refine rq_m (pc := 1474) (ix := 254) (mj := 354) (xs := [X (i + 1), X (i + 2), X (i + 3)]) (st := []) (ds := [(-2147483648, 2147483647), (-2147483648, 2147483647), (-2147483648, 2147483647)]) (r := true) hb1 (by omega) hM1 (by decide +kernel) (by decide +kernel) (by decide +kernel) (by decide +kernel) (show 3 = gm_na 354 by decide +kernel) (show 4 ≤ gm_ml 354 by decide +kernel) (Nat.le_of_ble_eq_true rfl) am_chain_s am_chain_c am_chain_v (bc_in1 (mn_w (hX _)) (bc_in1 (mn_w (hX _)) (bc_in1 (mn_w (hX _)) bc_in0))) (List.forall_mem_cons.mpr ⟨hX _, (List.forall_mem_cons.mpr ⟨hX _, (List.forall_mem_cons.mpr ⟨hX _, (fun _ h => nomatch h)⟩)⟩)⟩) (by omega) (by omega) ?_
  intro u2 la2 K2 R2 M2 hu2 hb2 hM2
  obtain ⟨y2, rfl⟩ : ∃ y, u2 = some (gm_vi y) := hu2
  show gm_Wp X LX 280 _ _ 370 1477 L5 [gm_vi y2] (245 + 4 * g) K2 R2 M2 Q
  refine gm_sz (gm_p_stor (pc := 1477) (i := .istore 6) (sr := 0) (j := 6) (by decide +kernel) rfl (by show 6 + 0 < L5.length; have := hL5.1; omega) rfl) ?_
  have hL6 := mn_L_s (y := y2) hL5 (j := 6) (Or.inr rfl)
  have l66 := mn_l6 (y := y2) hL5
  have l65 := mn_l65 (y := y2) l55
  generalize gm_lst L5 6 (gm_vi y2) = L6 at hL6 l66 l65 ⊢
  refine gm_sz (gm_p_goto (pc := 1479) (off := 514) (by decide +kernel) (by decide)) ?_
  exact gm_Wp_wk (Nat.le_refl _) (by omega) (by omega) (rest g _ _ _ _ L6 hb2 (by omega) ⟨_, _, _, _, _, _, _, hM2⟩ hL6)
end MCC
end
