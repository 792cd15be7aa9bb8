/-! THE LAW, from its entry on. -/
set_option maxRecDepth 100000 in
theorem p2_law : gm_Law := by
  intro X LX hLX hX
  refine gm_sp (gm_p_new (pc := 0) (ix := 8) (ci := 0) (by decide) (by decide +kernel) (by decide +kernel)) (by decide) (by decide +kernel) ?_
  refine gm_sz (gm_p_dup (pc := 3) (by decide +kernel) (by simp [gm_sort])) ?_
  refine gm_c_init (kd := 1) (mj := 0) (ix := 135) (pc := 4) (k := 1) (as := []) (st := [gm_vr 1]) (d' := 4) (bc' := 224) (bs' := 28493) (by decide +kernel) (by decide +kernel) (Or.inl rfl) (by decide +kernel) (by decide +kernel) ⟨by decide, by decide⟩ (show 0 = gm_na 0 by decide +kernel) (fun v hv => nomatch hv) (show 0 + 1 ≤ gm_ml 0 by decide +kernel) (Nat.le_of_ble_eq_true rfl) (by decide) (by decide) (by decide +kernel) ?_
  refine gm_Wp_mono (fun o n K2 R2 M2 h => ?_) (pc_s130_s 4 (fun _ => 0) [gm_vr 1] 1 _ _ _ (Nat.le_refl _) rfl ⟨_, _, rfl, rfl, rfl⟩ (fun _ h => nomatch h) ck_F0 ⟨fun q hq => by rw [List.mem_singleton.mp hq]; exact ⟨⟨by decide, by decide⟩, rfl⟩, (fun _ h => nomatch h), (fun _ h => nomatch h)⟩)
  obtain ⟨-, f2, oc, f3, f4, f5, f6⟩ := h
  rw [st_o1.1] at f3
  rw [List.mem_singleton.mp f3] at f4 f5 f6
  have f5 : n = 225 := f5
  subst f5
  have f6 : ck_gf (fun _ => 0) st_A 225 K2 R2 M2 := f6
  have e1 : K2 1 = (4, 0) := f2.2.1 1 (by decide)
  rcases o with (_ | v) | x
  case inl.some => exact absurd f4 id
  case inr => exact absurd f4 id
  show gm_Wp X LX 280 _ _ 370 7 (gm_ent 370 [gm_vo 2000]) [gm_vr 1] 225 K2 R2 M2 _
  refine gm_sz (gm_p_stor (pc := 7) (i := .astore_n 1) (sr := 2) (j := 1) (by decide +kernel) rfl (by decide +kernel) rfl) ?_
  refine gm_sp (gm_p_new (pc := 8) (ix := 136) (ci := 11) (by decide) (by decide +kernel) (by decide +kernel)) (by decide) (by decide +kernel) ?_
  refine gm_sz (gm_p_dup (pc := 11) (by decide +kernel) (by simp [gm_sort])) ?_
  refine gm_c_init (kd := 1) (mj := 234) (ix := 138) (pc := 12) (k := 226) (as := []) (st := [gm_vr 226]) (d' := 1) (bc' := 18) (bs' := 48286) (by decide +kernel) (by decide +kernel) (Or.inl rfl) (by decide +kernel) (by decide +kernel) ⟨by decide, by decide⟩ (show 0 = gm_na 234 by decide +kernel) (fun v hv => nomatch hv) (show 0 + 1 ≤ gm_ml 234 by decide +kernel) (Nat.le_of_ble_eq_true rfl) (by decide) (by decide) (by decide +kernel) ?_
  have k3 : gm_nK K2 225 15 0 226 = (15, 0) := by unfold gm_nK; rw [if_pos rfl]
  have kl : ∀ k, k ≤ 225 → gm_nK K2 225 15 0 k = K2 k := fun k hk => by unfold gm_nK; rw [if_neg (by omega)]
  have rl : ∀ k j, k ≤ 225 → gm_nR R2 225 k j = R2 k j := fun k j hk => by unfold gm_nR; rw [if_neg (by omega)]
  have ml : ∀ k j, k ≤ 225 → gm_nM M2 225 k j = M2 k j := fun k j hk => by unfold gm_nM; rw [if_neg (by omega)]
  have m0 : ∀ j, gm_nM M2 225 226 j = 0 := fun j => by unfold gm_nM; rw [if_pos rfl]
  refine gm_Wp_mono (fun o n K4 R4 M4 h => ?_) (pc_s132_s 1 (fun _ => 0) [gm_vr 226] 226 (gm_nK K2 225 15 0) (gm_nR R2 225) (gm_nM M2 225) (Nat.le_refl _) rfl ⟨_, _, rfl, rfl, rfl⟩ (fun _ h => nomatch h) ck_F0 ⟨fun q hq => by rw [List.mem_singleton.mp hq]; exact ⟨⟨by decide, by decide⟩, k3⟩, (fun _ h => nomatch h), fun q hq => by
    have hq : q ∈ [((226 : Nat), (26 : Int), (26 : Int), ck_one 0)] := hq
    rw [List.mem_singleton.mp hq]
    exact ⟨by decide, fun j j1 j2 => by show gm_ir (gm_nM M2 225 226 j) ∧ ck_gi _ (ck_one 0) (gm_nM M2 225 226 j); rw [m0 j]; exact ⟨⟨by decide, by decide⟩, ck_one_s 0⟩⟩⟩)
  obtain ⟨-, g2, oc, g3, g4, g5, g6⟩ := h
  rw [st_o1.2] at g3
  rw [List.mem_singleton.mp g3] at g4 g5 g6
  have g5 : n = 244 := g5
  subst g5
  have g6 : ck_gf (fun _ => 0) st_B 244 K4 R4 M4 := g6
  have g2 : ck_fr pc_s132.2.2.2.2.1 226 (gm_nK K2 225 15 0) (gm_nR R2 225) (gm_nM M2 225) 244 K4 R4 M4 := g2
  rcases o with (_ | v) | x
  case inl.some => exact absurd g4 id
  case inr => exact absurd g4 id
  show gm_Wp X LX 280 _ _ 370 15 (gm_lst (gm_ent 370 [gm_vo 2000]) 1 (gm_vr 1)) [gm_vr 226] 244 K4 R4 M4 _
  refine gm_sz (gm_p_stor (pc := 15) (i := .astore_n 2) (sr := 2) (j := 2) (by decide +kernel) rfl (by decide +kernel) rfl) ?_
  refine gm_sz (gm_p_const (pc := 16) (i := .iconst 1) (v := gm_vi 1) (by decide +kernel) (by decide +kernel)) ?_
  refine gm_sp (gm_p_newa (pc := 17) (at0 := .long) (kd := 2) (e0 := 1) (by decide) (by decide +kernel) (Or.inr (Or.inr ⟨rfl, rfl⟩)) ⟨by decide, by decide⟩) (by decide) (by decide +kernel) ?_
  refine gm_sz (gm_p_stor (pc := 19) (i := .astore_n 3) (sr := 2) (j := 3) (by decide +kernel) rfl (by decide +kernel) rfl) ?_
  refine gm_sz (gm_p_const (pc := 20) (i := .iconst 0) (v := gm_vi 0) (by decide +kernel) (by decide +kernel)) ?_
  refine gm_sz (gm_p_stor (pc := 21) (i := .istore 4) (sr := 0) (j := 4) (by decide +kernel) rfl (by decide +kernel) rfl) ?_
  have hw := st_w1.1
  simp only [Bool.and_eq_true] at hw
  have kn : ∀ k, k ≤ 244 → gm_nK K4 244 2 1 k = K4 k := fun k hk => by unfold gm_nK; rw [if_neg (by omega)]
  have rn : ∀ k j, k ≤ 244 → gm_nR R4 244 k j = R4 k j := fun k j hk => by unfold gm_nR; rw [if_neg (by omega)]
  have mn : ∀ k j, k ≤ 244 → gm_nM M4 244 k j = M4 k j := fun k j hk => by unfold gm_nM; rw [if_neg (by omega)]
  have kA : ∀ k, k ≤ 225 → gm_nK K4 244 2 1 k = K2 k := fun k hk => (kn k (by omega)).trans ((g2.2.1 k (by omega)).trans (kl k hk))
  have rA : ∀ k j, k ≤ 225 → gm_nR R4 244 k j = R2 k j := fun k j hk => (rn k j (by omega)).trans ((g2.2.2.2 k j (by omega) (fun hm => by
    have := of_decide_eq_true (List.all_eq_true.mp hw.2 (k, j) hm)
    omega)).trans (rl k j hk))
  have mA : ∀ k j, k ≤ 225 → gm_nM M4 244 k j = M2 k j := fun k j hk => (mn k j (by omega)).trans ((g2.2.2.1 k j (by omega) (fun w hm hh => by
    have := of_decide_eq_true (List.all_eq_true.mp hw.1 w hm)
    omega)).trans (ml k j hk))
  have m6 : ∀ j : Int, ¬ j = 13 → ¬ j = 26 → gm_nM M4 244 226 j = 0 := fun j h1 h2 => (mn 226 j (by decide)).trans ((g2.2.2.1 226 j (by decide) (fun w hm hh => by
    have := of_decide_eq_true (List.all_eq_true.mp hw.1 w hm)
    omega)).trans (m0 j))
  have hA := st_mv (n' := 245) f6 st_w1.2 (by decide) kA rA mA
  have hf : ck_gf (fun _ => 0) st_F 245 (gm_nK K4 244 2 1) (gm_nR R4 244) (gm_nM M4 244) := by
    refine ⟨fun q hq => ?_, fun q hq => ?_, fun q hq => ?_⟩
    · have hq : q ∈ st_A.1 ++ (st_B.1 ++ [(1, 4, 0), (226, 15, 0), (245, 2, 1)]) := hq
      rcases List.mem_append.mp hq with hq | hq
      · exact hA.1 q hq
      rcases List.mem_append.mp hq with hq | hq
      · obtain ⟨a, b⟩ := g6.1 q hq
        exact ⟨⟨a.1, by omega⟩, (kn _ a.2).trans b⟩
      simp only [List.mem_cons, List.not_mem_nil, or_false] at hq
      rcases hq with rfl | rfl | rfl
      · exact ⟨⟨by decide, by decide⟩, (kA 1 (by decide)).trans e1⟩
      · exact ⟨⟨by decide, by decide⟩, (kn 226 (by decide)).trans ((g2.2.1 226 (by decide)).trans k3)⟩
      · exact ⟨⟨by decide, by decide⟩, by unfold gm_nK; rw [if_pos rfl]⟩
    · have hq : q ∈ st_A.2.1 ++ st_B.2.1 := hq
      rcases List.mem_append.mp hq with hq | hq
      · exact hA.2.1 q hq
      · obtain ⟨a, b⟩ := g6.2.1 q hq
        exact ⟨by omega, (rn _ _ a).trans b⟩
    · have hq : q ∈ st_A.2.2 ++ (st_B.2.2 ++ [(226, 0, 12, ck_one 0), (226, 14, 25, ck_one 0), (226, 27, 60, ck_one 0), (245, 0, 0, ck_one 0)]) := hq
      rcases List.mem_append.mp hq with hq | hq
      · exact hA.2.2 q hq
      rcases List.mem_append.mp hq with hq | hq
      · obtain ⟨a, b⟩ := g6.2.2 q hq
        refine ⟨by omega, fun j j1 j2 => ?_⟩
        rw [mn _ _ a]
        exact b j j1 j2
      simp only [List.mem_cons, List.not_mem_nil, or_false] at hq
      have z0 : ∀ {v : Int}, v = 0 → gm_ir v ∧ ck_gi (fun _ => 0) (ck_one 0) v := fun h => by rw [h]; exact ⟨⟨by decide, by decide⟩, ck_one_s 0⟩
      rcases hq with rfl | rfl | rfl | rfl
      · exact ⟨by decide, fun j j1 j2 => z0 (m6 j (by have j2 : j ≤ 12 := j2; omega) (by have j2 : j ≤ 12 := j2; omega))⟩
      · exact ⟨by decide, fun j j1 j2 => z0 (m6 j (by have j1 : 14 ≤ j := j1; omega) (by have j2 : j ≤ 25 := j2; omega))⟩
      · exact ⟨by decide, fun j j1 j2 => z0 (m6 j (by have j1 : 27 ≤ j := j1; omega) (by have j1 : 27 ≤ j := j1; omega))⟩
      · exact ⟨by decide, fun j j1 j2 => z0 (by unfold gm_nM; rw [if_pos rfl])⟩
  obtain ⟨hb, hn, h18⟩ := st_bg hf
  refine gm_Wp_nR hn (bg_Rv (g := 0) (by decide) (fun s _ => Nat.le_refl _)) ?_
  exact mn_lp hLX hX (fun _ _ _ _ => rfl) 512 0 0 _ _ (fun _ => 0) _ _ _ _ (by omega) (by decide) (by omega) (by decide) (by decide) (by decide +kernel) hb h18 ⟨by decide +kernel, rfl, rfl, rfl, rfl, rfl⟩
