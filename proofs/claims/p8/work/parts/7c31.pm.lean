/-! TWO TRAVELLERS, a letter's first bare YEAR: loops over steps under a law. -/
section PM31
variable {X : Int → Int} {LX d n2 : Nat} {K K0 K2 : gm_K} {R R0 R2 : gm_R} {M M0 M2 : gm_M} {Q : gm_Q} {i j l a b y v : Int}
theorem sp_e {c : Nat} {V : List (Nat × Int × Int) × List (Nat × Int)} (h2 : ck_fr V 249 K R M n2 K2 R2 M2) (hc : c ≤ 249) (hw : V.1.all (fun w => decide (¬ w.1 = c)) = true) (hs : SPc c i M) : SPc c i M2 := by
  have e : ∀ j, M2 c j = M c j := fun j => h2.2.2.1 c j hc (fun w hw9 hh => of_decide_eq_true (List.all_eq_true.mp hw w hw9) hh.1)
  unfold SPc at hs ⊢
  rw [e, e, e]
  exact hs
noncomputable def q31_W : List (Nat × Int × Int) × List (Nat × Int) := ([(200, 6, 6), (204, 0, 9), (205, 0, 14849), (206, 2, 8), (207, 2, 8)], [])
theorem r8_f (h8 : R0 3 8 = 246) (h : ck_fr q31_W 249 K0 R0 M0 249 K R M) : R 3 8 = 246 := (h.2.2.2 3 8 (by decide) (fun h => nomatch h)).trans h8
theorem q27_206_c (hS : ck_Ok qL_O X LX 27 q27_206) (hd : 2 ≤ d) (hF : gm_Fx qL_O 249 K R M) (hl : 0 ≤ l ∧ l ≤ 23) (q : ∀ i K2 R2 M2, i ≤ 299 → gm_Fx qL_O 249 K2 R2 M2 → ck_fr ([(206, 2, 8)], []) 249 K R M 249 K2 R2 M2 → SPc 206 i M2 → Q (.inl none) 249 K2 R2 M2) : gm_Wp X LX d 0 0 27 0 (gm_ent 27 [gm_vr 206, gm_vi l]) [] 249 K R M Q := by
  have hσ := ck_sn_s (σ := fun _ => 0) (M := M) qL_nmu
  refine gm_Wp_mono (fun o n' K' R' M' hq => ?_) (hS d (ck_sn qL_O (fun _ => 0) M) [gm_vr 206, gm_vi l] 249 K R M hd rfl ⟨_, _, rfl, rfl, _, _, rfl, ⟨l, rfl, ⟨by omega, by omega⟩, hl.1, hl.2, fun _ h => nomatch h⟩, rfl⟩ hσ hF ⟨(fun _ h => nomatch h), (fun _ h => nomatch h), (fun _ h => nomatch h)⟩)
  obtain ⟨hF2, hfr, oc, hoc, ho, hn, hf⟩ := hq
  have hoc : oc ∈ [_, _] := hoc
  simp only [List.mem_cons, List.not_mem_nil, or_false] at hoc
  rcases hoc with rfl | rfl
  · have hn : n' = 249 := hn
    subst hn
    rcases o with (_ | v) | x
    · have f7 := ((hf.2.2 (206, 7, 7, (0, 299, [])) (List.mem_cons_of_mem _ (List.mem_cons_of_mem _ (List.mem_cons_of_mem _ List.mem_cons_self)))).2 7 (Int.le_refl _) (Int.le_refl _)).2
      have f5 := ((hf.2.2 (206, 5, 5, (0, 98, [])) (List.mem_cons_of_mem _ (List.mem_cons_of_mem _ (List.mem_cons_of_mem _ (List.mem_cons_of_mem _ List.mem_cons_self))))).2 5 (Int.le_refl _) (Int.le_refl _)).2
      have f2 := ((hf.2.2 (206, 2, 2, (0, 6, [])) (List.mem_cons_of_mem _ (List.mem_cons_of_mem _ (List.mem_cons_of_mem _ (List.mem_cons_of_mem _ (List.mem_cons_of_mem _ List.mem_cons_self)))))).2 2 (Int.le_refl _) (Int.le_refl _)).2
      have g7 : (0 : Int) ≤ M' 206 7 ∧ M' 206 7 ≤ (299 : Int) := ⟨f7.1, f7.2.1⟩
      have g5 : (0 : Int) ≤ M' 206 5 ∧ M' 206 5 ≤ (98 : Int) := ⟨f5.1, f5.2.1⟩
      have g2 : (0 : Int) ≤ M' 206 2 ∧ M' 206 2 ≤ (6 : Int) := ⟨f2.1, f2.2.1⟩
      exact q (M' 206 7) _ _ _ (by omega) hF2 hfr ⟨by omega, by omega, rfl⟩
    · exact absurd ho id
    · exact absurd ho id
  · have hn : n' = 249 := hn
    subst hn
    rcases o with (_ | v) | x
    · have f7 := ((hf.2.2 (206, 7, 7, ((-1), (-1), [])) (List.mem_cons_of_mem _ (List.mem_cons_of_mem _ (List.mem_cons_of_mem _ List.mem_cons_self)))).2 7 (Int.le_refl _) (Int.le_refl _)).2
      have f5 := ((hf.2.2 (206, 5, 5, ((-1), (-1), [])) (List.mem_cons_of_mem _ (List.mem_cons_of_mem _ (List.mem_cons_of_mem _ (List.mem_cons_of_mem _ List.mem_cons_self))))).2 5 (Int.le_refl _) (Int.le_refl _)).2
      have f2 := ((hf.2.2 (206, 2, 2, ((-1), (-1), [])) (List.mem_cons_of_mem _ (List.mem_cons_of_mem _ (List.mem_cons_of_mem _ (List.mem_cons_of_mem _ (List.mem_cons_of_mem _ List.mem_cons_self)))))).2 2 (Int.le_refl _) (Int.le_refl _)).2
      have g7 : ((-1) : Int) ≤ M' 206 7 ∧ M' 206 7 ≤ ((-1) : Int) := ⟨f7.1, f7.2.1⟩
      have g5 : ((-1) : Int) ≤ M' 206 5 ∧ M' 206 5 ≤ ((-1) : Int) := ⟨f5.1, f5.2.1⟩
      have g2 : ((-1) : Int) ≤ M' 206 2 ∧ M' 206 2 ≤ ((-1) : Int) := ⟨f2.1, f2.2.1⟩
      exact q (M' 206 7) _ _ _ (by omega) hF2 hfr ⟨by omega, by omega, rfl⟩
    · exact absurd ho id
    · exact absurd ho id
theorem q27_207_c (hS : ck_Ok qL_O X LX 27 q27_207) (hd : 2 ≤ d) (hF : gm_Fx qL_O 249 K R M) (hl : 0 ≤ l ∧ l ≤ 23) (q : ∀ i K2 R2 M2, i ≤ 299 → gm_Fx qL_O 249 K2 R2 M2 → ck_fr ([(207, 2, 8)], []) 249 K R M 249 K2 R2 M2 → SPc 207 i M2 → Q (.inl none) 249 K2 R2 M2) : gm_Wp X LX d 0 0 27 0 (gm_ent 27 [gm_vr 207, gm_vi l]) [] 249 K R M Q := by
  have hσ := ck_sn_s (σ := fun _ => 0) (M := M) qL_nmu
  refine gm_Wp_mono (fun o n' K' R' M' hq => ?_) (hS d (ck_sn qL_O (fun _ => 0) M) [gm_vr 207, gm_vi l] 249 K R M hd rfl ⟨_, _, rfl, rfl, _, _, rfl, ⟨l, rfl, ⟨by omega, by omega⟩, hl.1, hl.2, fun _ h => nomatch h⟩, rfl⟩ hσ hF ⟨(fun _ h => nomatch h), (fun _ h => nomatch h), (fun _ h => nomatch h)⟩)
  obtain ⟨hF2, hfr, oc, hoc, ho, hn, hf⟩ := hq
  have hoc : oc ∈ [_, _] := hoc
  simp only [List.mem_cons, List.not_mem_nil, or_false] at hoc
  rcases hoc with rfl | rfl
  · have hn : n' = 249 := hn
    subst hn
    rcases o with (_ | v) | x
    · have f7 := ((hf.2.2 (207, 7, 7, (0, 299, [])) (List.mem_cons_of_mem _ (List.mem_cons_of_mem _ List.mem_cons_self))).2 7 (Int.le_refl _) (Int.le_refl _)).2
      have f5 := ((hf.2.2 (207, 5, 5, (0, 98, [])) (List.mem_cons_of_mem _ (List.mem_cons_of_mem _ (List.mem_cons_of_mem _ List.mem_cons_self)))).2 5 (Int.le_refl _) (Int.le_refl _)).2
      have f2 := ((hf.2.2 (207, 2, 2, (0, 6, [])) (List.mem_cons_of_mem _ (List.mem_cons_of_mem _ (List.mem_cons_of_mem _ (List.mem_cons_of_mem _ List.mem_cons_self))))).2 2 (Int.le_refl _) (Int.le_refl _)).2
      have g7 : (0 : Int) ≤ M' 207 7 ∧ M' 207 7 ≤ (299 : Int) := ⟨f7.1, f7.2.1⟩
      have g5 : (0 : Int) ≤ M' 207 5 ∧ M' 207 5 ≤ (98 : Int) := ⟨f5.1, f5.2.1⟩
      have g2 : (0 : Int) ≤ M' 207 2 ∧ M' 207 2 ≤ (6 : Int) := ⟨f2.1, f2.2.1⟩
      exact q (M' 207 7) _ _ _ (by omega) hF2 hfr ⟨by omega, by omega, rfl⟩
    · exact absurd ho id
    · exact absurd ho id
  · have hn : n' = 249 := hn
    subst hn
    rcases o with (_ | v) | x
    · have f7 := ((hf.2.2 (207, 7, 7, ((-1), (-1), [])) (List.mem_cons_of_mem _ (List.mem_cons_of_mem _ List.mem_cons_self))).2 7 (Int.le_refl _) (Int.le_refl _)).2
      have f5 := ((hf.2.2 (207, 5, 5, ((-1), (-1), [])) (List.mem_cons_of_mem _ (List.mem_cons_of_mem _ (List.mem_cons_of_mem _ List.mem_cons_self)))).2 5 (Int.le_refl _) (Int.le_refl _)).2
      have f2 := ((hf.2.2 (207, 2, 2, ((-1), (-1), [])) (List.mem_cons_of_mem _ (List.mem_cons_of_mem _ (List.mem_cons_of_mem _ (List.mem_cons_of_mem _ List.mem_cons_self))))).2 2 (Int.le_refl _) (Int.le_refl _)).2
      have g7 : ((-1) : Int) ≤ M' 207 7 ∧ M' 207 7 ≤ ((-1) : Int) := ⟨f7.1, f7.2.1⟩
      have g5 : ((-1) : Int) ≤ M' 207 5 ∧ M' 207 5 ≤ ((-1) : Int) := ⟨f5.1, f5.2.1⟩
      have g2 : ((-1) : Int) ≤ M' 207 2 ∧ M' 207 2 ≤ ((-1) : Int) := ⟨f2.1, f2.2.1⟩
      exact q (M' 207 7) _ _ _ (by omega) hF2 hfr ⟨by omega, by omega, rfl⟩
    · exact absurd ho id
    · exact absurd ho id
theorem q184_c (h6 : s32_206 X LX) (h7 : s32_207 X LX) (hd : 14 ≤ d) (hF : gm_Fx qL_O 249 K R M) (h8 : R 3 8 = 246) (hs6 : SPc 206 i M) (hs7 : SPc 207 j M) (hi : i ≤ 299) (hj : j ≤ 299) (q : ∀ K2 R2 M2, gm_Fx qL_O 249 K2 R2 M2 → ck_fr q31_W 249 K R M 249 K2 R2 M2 → SPc 206 (i + 1) M2 → SPc 207 (j + 1) M2 → Q (.inl none) 249 K2 R2 M2) : gm_Wp X LX d 0 0 184 0 (gm_ent 184 [gm_vr 1]) [] 249 K R M Q := by
  refine gm_sz (gm_p_load (pc := 0) (i := .aload_n 0) (sr := 2) (j := 0) (by decide +kernel) rfl rfl rfl) ?_
  refine gm_sz (fw_gr (pc := 1) (ix := 58) (ci := 0) (j := 9) (r := 206) (by decide +kernel) (e0k (e0F (pl_o (qL_p hF))) (k := 1) (c := 0) (by decide +kernel)) (by decide +kernel) (by decide +kernel) (e0r (e0F (pl_o (qL_p hF))) (k := 1) (j := 9) (r := 206) (by decide +kernel))) ?_
  refine gm_c_virt (k := 206) (ci := 5) (mj := 32) (ix := 447) (pc := 4) (as := []) (st := []) (d' := 13) (bc' := 0) (bs' := 0) (by decide +kernel) (by decide +kernel) (by decide +kernel) (by decide +kernel) (e0k (e0F (pl_o (qL_p hF))) (k := 206) (c := 5) (by decide +kernel)).1 (e0k (e0F (pl_o (qL_p hF))) (k := 206) (c := 5) (by decide +kernel)).2 (by decide) (by decide +kernel) (show 0 = gm_na 32 by decide +kernel) fw_c0 (show 0 + 1 ≤ gm_ml 32 by decide +kernel) (Nat.le_of_ble_eq_true rfl) (by omega) (Nat.zero_le _) (Nat.zero_le _) ?_
  refine q32_206_c h6 (Nat.le_refl _) hF h8 hs6 hi (fun K2 R2 M2 hF2 hf2 hs62 => ?_)
  have hfr2 : ck_fr q31_W 249 K R M 249 K2 R2 M2 := ck_fr_tr ck_fr_0 hf2 (by decide) (by decide)
  show gm_Wp X LX d 0 0 184 7 [some (gm_vr 1)] [] 249 K2 R2 M2 Q
  refine gm_sz (gm_p_load (pc := 7) (i := .aload_n 0) (sr := 2) (j := 0) (by decide +kernel) rfl rfl rfl) ?_
  refine gm_sz (fw_gr (pc := 8) (ix := 62) (ci := 0) (j := 10) (r := 207) (by decide +kernel) (e0k (e0F (pl_o (qL_p hF2))) (k := 1) (c := 0) (by decide +kernel)) (by decide +kernel) (by decide +kernel) (e0r (e0F (pl_o (qL_p hF2))) (k := 1) (j := 10) (r := 207) (by decide +kernel))) ?_
  refine gm_c_virt (k := 207) (ci := 5) (mj := 32) (ix := 447) (pc := 11) (as := []) (st := []) (d' := 13) (bc' := 0) (bs' := 0) (by decide +kernel) (by decide +kernel) (by decide +kernel) (by decide +kernel) (e0k (e0F (pl_o (qL_p hF2))) (k := 207) (c := 5) (by decide +kernel)).1 (e0k (e0F (pl_o (qL_p hF2))) (k := 207) (c := 5) (by decide +kernel)).2 (by decide) (by decide +kernel) (show 0 = gm_na 32 by decide +kernel) fw_c0 (show 0 + 1 ≤ gm_ml 32 by decide +kernel) (Nat.le_of_ble_eq_true rfl) (by omega) (Nat.zero_le _) (Nat.zero_le _) ?_
  refine q32_207_c h7 (Nat.le_refl _) hF2 (r8_f h8 hfr2) (sp_e hf2 (by decide) (by decide) hs7) hj (fun K3 R3 M3 hF3 hf3 hs73 => ?_)
  show gm_Wp X LX d 0 0 184 14 [some (gm_vr 1)] [] 249 K3 R3 M3 Q
  exact gm_r_void (pc := 14) (by decide +kernel) (by decide +kernel) (q _ _ _ hF3 (ck_fr_tr hfr2 hf3 (by decide) (by decide)) (sp_e hf3 (by decide) (by decide) hs62) hs73)
theorem q182_c (h6 : s32_206 X LX) (h7 : s32_207 X LX) (s6 : ck_Ok qL_O X LX 27 q27_206) (s7 : ck_Ok qL_O X LX 27 q27_207) (hd : 15 ≤ d) (hF : gm_Fx qL_O 249 K R M) (h8 : R 3 8 = 246) (ha : 0 ≤ a ∧ a ≤ 23) (hb : 0 ≤ b ∧ b ≤ 23) (hy : 0 ≤ y ∧ y ≤ 299) (q : ∀ v K2 R2 M2, 0 ≤ v → v ≤ 299 → gm_Fx qL_O 249 K2 R2 M2 → ck_fr q31_W 249 K R M 249 K2 R2 M2 → SPc 206 v M2 → SPc 207 v M2 → Q (.inl (some (gm_vi v))) 249 K2 R2 M2) : gm_Wp X LX d 0 0 182 0 (gm_ent 182 [gm_vr 1, gm_vi a, gm_vi b, gm_vi y]) [] 249 K R M Q := by
  refine gm_sz (gm_p_load (pc := 0) (i := .aload_n 0) (sr := 2) (j := 0) (by decide +kernel) rfl rfl rfl) ?_
  refine gm_sz (fw_gr (pc := 1) (ix := 58) (ci := 0) (j := 9) (r := 206) (by decide +kernel) (e0k (e0F (pl_o (qL_p hF))) (k := 1) (c := 0) (by decide +kernel)) (by decide +kernel) (by decide +kernel) (e0r (e0F (pl_o (qL_p hF))) (k := 1) (j := 9) (r := 206) (by decide +kernel))) ?_
  refine gm_sz (gm_p_load (pc := 4) (i := .iload_n 1) (sr := 0) (j := 1) (by decide +kernel) rfl rfl rfl) ?_
  refine gm_c_virt (k := 206) (ci := 5) (mj := 27) (ix := 217) (pc := 5) (as := [gm_vi a]) (st := []) (d' := 2) (bc' := 0) (bs' := 0) (by decide +kernel) (by decide +kernel) (by decide +kernel) (by decide +kernel) (e0k (e0F (pl_o (qL_p hF))) (k := 206) (c := 5) (by decide +kernel)).1 (e0k (e0F (pl_o (qL_p hF))) (k := 206) (c := 5) (by decide +kernel)).2 (by decide) (by decide +kernel) (show 1 = gm_na 27 by decide +kernel) (fw_c1 (by simp [gm_sort])) (show 1 + 1 ≤ gm_ml 27 by decide +kernel) (Nat.le_of_ble_eq_true rfl) (by omega) (Nat.zero_le _) (Nat.zero_le _) ?_
  refine q27_206_c s6 (Nat.le_refl _) hF ha (fun i K2 R2 M2 hi hF2 hf2 hs62 => ?_)
  have hfr2 : ck_fr q31_W 249 K R M 249 K2 R2 M2 := ck_fr_tr ck_fr_0 hf2 (by decide) (by decide)
  show gm_Wp X LX d 0 0 182 8 [some (gm_vr 1), some (gm_vi a), some (gm_vi b), some (gm_vi y), none] [] 249 K2 R2 M2 Q
  refine gm_sz (gm_p_load (pc := 8) (i := .aload_n 0) (sr := 2) (j := 0) (by decide +kernel) rfl rfl rfl) ?_
  refine gm_sz (fw_gr (pc := 9) (ix := 62) (ci := 0) (j := 10) (r := 207) (by decide +kernel) (e0k (e0F (pl_o (qL_p hF2))) (k := 1) (c := 0) (by decide +kernel)) (by decide +kernel) (by decide +kernel) (e0r (e0F (pl_o (qL_p hF2))) (k := 1) (j := 10) (r := 207) (by decide +kernel))) ?_
  refine gm_sz (gm_p_load (pc := 12) (i := .iload_n 2) (sr := 0) (j := 2) (by decide +kernel) rfl rfl rfl) ?_
  refine gm_c_virt (k := 207) (ci := 5) (mj := 27) (ix := 217) (pc := 13) (as := [gm_vi b]) (st := []) (d' := 2) (bc' := 0) (bs' := 0) (by decide +kernel) (by decide +kernel) (by decide +kernel) (by decide +kernel) (e0k (e0F (pl_o (qL_p hF2))) (k := 207) (c := 5) (by decide +kernel)).1 (e0k (e0F (pl_o (qL_p hF2))) (k := 207) (c := 5) (by decide +kernel)).2 (by decide) (by decide +kernel) (show 1 = gm_na 27 by decide +kernel) (fw_c1 (by simp [gm_sort])) (show 1 + 1 ≤ gm_ml 27 by decide +kernel) (Nat.le_of_ble_eq_true rfl) (by omega) (Nat.zero_le _) (Nat.zero_le _) ?_
  refine q27_207_c s7 (Nat.le_refl _) hF2 hb (fun j K3 R3 M3 hj hF3 hf3 hs73 => ?_)
  have hfr3 : ck_fr q31_W 249 K R M 249 K3 R3 M3 := ck_fr_tr hfr2 hf3 (by decide) (by decide)
  have hs63 : SPc 206 i M3 := sp_e hf3 (by decide) (by decide) hs62
  have bi := spc_b hs63
  have bj := spc_b hs73
  show gm_Wp X LX d 0 0 182 16 [some (gm_vr 1), some (gm_vi a), some (gm_vi b), some (gm_vi y), none] [] 249 K3 R3 M3 Q
  refine gm_sz (gm_p_load (pc := 16) (i := .iload_n 3) (sr := 0) (j := 3) (by decide +kernel) rfl rfl rfl) ?_
  refine gm_sz (gm_p_load (pc := 17) (i := .aload_n 0) (sr := 2) (j := 0) (by decide +kernel) rfl rfl rfl) ?_
  refine gm_sz (fw_gr (pc := 18) (ix := 58) (ci := 0) (j := 9) (r := 206) (by decide +kernel) (e0k (e0F (pl_o (qL_p hF3))) (k := 1) (c := 0) (by decide +kernel)) (by decide +kernel) (by decide +kernel) (e0r (e0F (pl_o (qL_p hF3))) (k := 1) (j := 9) (r := 206) (by decide +kernel))) ?_
  refine gm_sz (fw_gi (pc := 21) (ix := 444) (ci := 5) (j := 7) (x := i) (by decide +kernel) (e0k (e0F (pl_o (qL_p hF3))) (k := 206) (c := 5) (by decide +kernel)) (by decide +kernel) (by decide +kernel) hs63.2.2) ?_
  refine gm_sz (gm_p_load (pc := 24) (i := .aload_n 0) (sr := 2) (j := 0) (by decide +kernel) rfl rfl rfl) ?_
  refine gm_sz (fw_gr (pc := 25) (ix := 62) (ci := 0) (j := 10) (r := 207) (by decide +kernel) (e0k (e0F (pl_o (qL_p hF3))) (k := 1) (c := 0) (by decide +kernel)) (by decide +kernel) (by decide +kernel) (e0r (e0F (pl_o (qL_p hF3))) (k := 1) (j := 10) (r := 207) (by decide +kernel))) ?_
  refine gm_sz (fw_gi (pc := 28) (ix := 444) (ci := 5) (j := 7) (x := j) (by decide +kernel) (e0k (e0F (pl_o (qL_p hF3))) (k := 207) (c := 5) (by decide +kernel)) (by decide +kernel) (by decide +kernel) hs73.2.2) ?_
  refine gm_sz (gm_p_max (pc := 31) (ix := 396) (x := i) (y := j) (by decide +kernel) (by decide +kernel) (gm_w_id (by omega) (by omega)) (gm_w_id (by omega) (by omega)) (Nat.le_of_ble_eq_true rfl) (by omega)) ?_
  refine gm_sz (gm_p_max (pc := 34) (ix := 396) (x := y) (y := max i j) (by decide +kernel) (by decide +kernel) (gm_w_id (by omega) (by omega)) (gm_w_id (by omega) (by omega)) (Nat.le_of_ble_eq_true rfl) (by omega)) ?_
  generalize hv : max y (max i j) = v
  have bv : (0 ≤ v ∧ v ≤ 299) ∧ i ≤ v ∧ j ≤ v := by omega
  refine gm_sz (gm_p_stor (pc := 37) (i := .istore 4) (sr := 0) (j := 4) (by decide +kernel) rfl (show 5 ≤ _ from Nat.le_of_ble_eq_true rfl) rfl) ?_
  show gm_Wp X LX d 0 0 182 39 [some (gm_vr 1), some (gm_vi a), some (gm_vi b), some (gm_vi y), some (gm_vi v)] [] 249 K3 R3 M3 Q
  refine gm_sz (gm_p_load (pc := 39) (i := .aload_n 0) (sr := 2) (j := 0) (by decide +kernel) rfl rfl rfl) ?_
  refine gm_sz (fw_gr (pc := 40) (ix := 58) (ci := 0) (j := 9) (r := 206) (by decide +kernel) (e0k (e0F (pl_o (qL_p hF3))) (k := 1) (c := 0) (by decide +kernel)) (by decide +kernel) (by decide +kernel) (e0r (e0F (pl_o (qL_p hF3))) (k := 1) (j := 9) (r := 206) (by decide +kernel))) ?_
  refine gm_sz (gm_p_load (pc := 43) (i := .iload 4) (sr := 0) (j := 4) (by decide +kernel) rfl rfl rfl) ?_
  refine gm_c_virt (k := 206) (ci := 5) (mj := 148) (ix := 220) (pc := 45) (as := [gm_vi v]) (st := []) (d' := 14) (bc' := 0) (bs' := 0) (by decide +kernel) (by decide +kernel) (by decide +kernel) (by decide +kernel) (e0k (e0F (pl_o (qL_p hF3))) (k := 206) (c := 5) (by decide +kernel)).1 (e0k (e0F (pl_o (qL_p hF3))) (k := 206) (c := 5) (by decide +kernel)).2 (by decide) (by decide +kernel) (show 1 = gm_na 148 by decide +kernel) (fw_c1 (by simp [gm_sort])) (show 1 + 1 ≤ gm_ml 148 by decide +kernel) (Nat.le_of_ble_eq_true rfl) (by omega) (Nat.zero_le _) (Nat.zero_le _) ?_
  refine q148_206_c h6 (Nat.le_refl _) hF3 (r8_f h8 hfr3) hs63 bv.1 bv.2.1 (fun K4 R4 M4 hF4 hf4 hs64 => ?_)
  have hfr4 : ck_fr q31_W 249 K R M 249 K4 R4 M4 := ck_fr_tr hfr3 hf4 (by decide) (by decide)
  show gm_Wp X LX d 0 0 182 48 [some (gm_vr 1), some (gm_vi a), some (gm_vi b), some (gm_vi y), some (gm_vi v)] [] 249 K4 R4 M4 Q
  refine gm_sz (gm_p_load (pc := 48) (i := .aload_n 0) (sr := 2) (j := 0) (by decide +kernel) rfl rfl rfl) ?_
  refine gm_sz (fw_gr (pc := 49) (ix := 62) (ci := 0) (j := 10) (r := 207) (by decide +kernel) (e0k (e0F (pl_o (qL_p hF4))) (k := 1) (c := 0) (by decide +kernel)) (by decide +kernel) (by decide +kernel) (e0r (e0F (pl_o (qL_p hF4))) (k := 1) (j := 10) (r := 207) (by decide +kernel))) ?_
  refine gm_sz (gm_p_load (pc := 52) (i := .iload 4) (sr := 0) (j := 4) (by decide +kernel) rfl rfl rfl) ?_
  refine gm_c_virt (k := 207) (ci := 5) (mj := 148) (ix := 220) (pc := 54) (as := [gm_vi v]) (st := []) (d' := 14) (bc' := 0) (bs' := 0) (by decide +kernel) (by decide +kernel) (by decide +kernel) (by decide +kernel) (e0k (e0F (pl_o (qL_p hF4))) (k := 207) (c := 5) (by decide +kernel)).1 (e0k (e0F (pl_o (qL_p hF4))) (k := 207) (c := 5) (by decide +kernel)).2 (by decide) (by decide +kernel) (show 1 = gm_na 148 by decide +kernel) (fw_c1 (by simp [gm_sort])) (show 1 + 1 ≤ gm_ml 148 by decide +kernel) (Nat.le_of_ble_eq_true rfl) (by omega) (Nat.zero_le _) (Nat.zero_le _) ?_
  refine q148_207_c h7 (Nat.le_refl _) hF4 (r8_f h8 hfr4) (sp_e hf4 (by decide) (by decide) hs73) bv.1 bv.2.2 (fun K5 R5 M5 hF5 hf5 hs75 => ?_)
  show gm_Wp X LX d 0 0 182 57 [some (gm_vr 1), some (gm_vi a), some (gm_vi b), some (gm_vi y), some (gm_vi v)] [] 249 K5 R5 M5 Q
  refine gm_sz (gm_p_load (pc := 57) (i := .iload 4) (sr := 0) (j := 4) (by decide +kernel) rfl rfl rfl) ?_
  exact gm_r_int (pc := 59) (by decide +kernel) (Or.inl (by decide +kernel)) (q v _ _ _ bv.1.1 bv.1.2 hF5 (ck_fr_tr hfr4 hf5 (by decide) (by decide)) (sp_e hf5 (by decide) (by decide) hs64) hs75)
noncomputable def q183 : ck_Sum := ((1, 0, 0), 249, [.inr (.inr (.inl 1))], ([], [], [(206, 5, 5, ((-1), 300, [])), (207, 5, 5, ((-1), 300, []))]), ([], []), [(.inr (some (.inl (0, 1, []))), 249, ([], [], []))])
theorem q183_s : ck_Ok qL_O X LX 183 q183 := ck_ok_s (O := qL_O) (X := X) (LX := LX) (E := [(31, [q31n_206, q31n_207])]) (mi := 183) (cuts := []) (f := 120) (S := q183) (lx := none) (XF := []) ⟨qL_nmu, ck_E1 (ck_S1 q31n_206_s (ck_S1 q31n_207_s ck_S0)) ck_E0⟩ ck_X0 ck_l0 (by decide +kernel)
theorem q183_c (hd : 1 ≤ d) (hF : gm_Fx qL_O 249 K R M) (h6 : SPc 206 i M) (h7 : SPc 207 j M) (q : ∀ v K2 R2 M2, 0 ≤ v → v ≤ 1 → gm_Fx qL_O 249 K2 R2 M2 → ck_fr ([], []) 249 K R M 249 K2 R2 M2 → Q (.inl (some (gm_vi v))) 249 K2 R2 M2) : gm_Wp X LX d 0 0 183 0 (gm_ent 183 [gm_vr 1]) [] 249 K R M Q := by
  have hσ := ck_sn_s (σ := fun _ => 0) (M := M) qL_nmu
  have b6 := (spc_b h6).1
  have b7 := (spc_b h7).1
  refine gm_Wp_mono (fun o n' K' R' M' hq => ?_) (q183_s d (ck_sn qL_O (fun _ => 0) M) [gm_vr 1] 249 K R M hd rfl ⟨_, _, rfl, rfl, rfl⟩ hσ hF ⟨(fun _ h => nomatch h), (fun _ h => nomatch h), fun q hq => ?_⟩)
  · obtain ⟨hF2, hfr, oc, hoc, ho, hn, hf⟩ := hq
    have hoc := List.mem_singleton.mp hoc
    subst hoc
    have hn : n' = 249 := hn
    subst hn
    rcases o with (_ | v) | x
    · exact absurd ho id
    · obtain ⟨y, rfl, -, y0, y1, -⟩ := ho
      exact q y _ _ _ y0 y1 hF2 hfr
    · exact absurd ho id
  · simp only [List.mem_cons, List.not_mem_nil, or_false, q183] at hq
    rcases hq with rfl | rfl
    · refine ⟨by show 206 ≤ 249; decide, fun j j1 j2 => ?_⟩
      have ej : j = 5 := Int.le_antisymm j2 j1
      subst ej
      exact ⟨(show gm_ir (M 206 5) from ⟨by omega, by omega⟩), b6.1, b6.2, fun _ h => nomatch h⟩
    · refine ⟨by show 207 ≤ 249; decide, fun j j1 j2 => ?_⟩
      have ej : j = 5 := Int.le_antisymm j2 j1
      subst ej
      exact ⟨(show gm_ir (M 207 5) from ⟨by omega, by omega⟩), b7.1, b7.2, fun _ h => nomatch h⟩
end PM31
