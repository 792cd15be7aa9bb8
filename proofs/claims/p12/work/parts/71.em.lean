/-! 71.em -/
section
/-! THE REFERENCE'S law(): steps that are laid down, lines that begin and end, by hand. -/
theorem gm_Ft_W {O : gm_Or} {n : Nat} {M : gm_M} {k : Nat} {j v a b lo hi : Int} (hF : gm_Ft O n M) (h : gm_tyv O k lo hi a b = true) (h1 : lo ≤ j) (h2 : j ≤ hi) (h3 : a ≤ v) (h4 : v ≤ b) : gm_Ft O n (gm_uM M k j v) := by
  intro c r hr
  obtain ⟨g1, g2⟩ := hF c r hr
  refine ⟨g1, fun i h5 h6 => ?_⟩
  unfold gm_uM
  split
  · rename_i e
    obtain ⟨rfl, rfl⟩ := e
    have h7 := List.all_eq_true.mp (gm_tyv_def.symm.trans h) r hr
    simp only [Bool.or_eq_true, Bool.and_eq_true, decide_eq_true_eq] at h7
    rcases h7 with h7 | h7 | ⟨h7, h8, h9, h10⟩
    · omega
    · omega
    · exact ⟨⟨by omega, by omega⟩, by omega, by omega⟩
  · exact g2 i h5 h6
theorem ck_gf_cws {σ : Nat → Int} {F : ck_F} {n : Nat} {K : gm_K} {R : gm_R} {M M' : gm_M} {ws : List (Nat × Int × Int)} (h : ck_gf σ F n K R M) (hM : ∀ c j, (∀ w ∈ ws, ¬ (w.1 = c ∧ w.2.1 ≤ j ∧ j ≤ w.2.2)) → M' c j = M c j) : ∀ q ∈ ck_cws ws F.2.2, q.1 ≤ n ∧ ∀ j, q.2.1 ≤ j → j ≤ q.2.2.1 → gm_ir (M' q.1 j) ∧ ck_gi σ q.2.2.2 (M' q.1 j) := by
  intro q hq
  obtain ⟨p, hp, e1, e2, e3⟩ := ck_cws_s (ws := ws) (l := F.2.2) hq
  have h3 := h.2.2 p hp
  refine ⟨by rw [e1]; exact h3.1, fun j h4 h5 => ?_⟩
  obtain ⟨h6, h7⟩ := e3 j h4 h5
  rw [hM q.1 j (fun w hw => by rw [e1]; exact h7 w hw), e1, e2]
  exact h3.2 j h6.1 h6.2
theorem ck_f1 {σ : Nat → Int} {n : Nat} {M : gm_M} {k : Nat} {j : Int} {a : ck_I} (hk : k ≤ n) (hr : gm_ir (M k j)) (hv : ck_gi σ a (M k j)) : ((k, j, j, a) : Nat × Int × Int × ck_I).1 ≤ n ∧ ∀ i, ((k, j, j, a) : Nat × Int × Int × ck_I).2.1 ≤ i → i ≤ ((k, j, j, a) : Nat × Int × Int × ck_I).2.2.1 → gm_ir (M ((k, j, j, a) : Nat × Int × Int × ck_I).1 i) ∧ ck_gi σ ((k, j, j, a) : Nat × Int × Int × ck_I).2.2.2 (M ((k, j, j, a) : Nat × Int × Int × ck_I).1 i) := by
  refine ⟨hk, fun i h1 h2 => ?_⟩
  have h1 : j ≤ i := h1
  have h2 : i ≤ j := h2
  have h3 : i = j := by omega
  subst h3
  exact ⟨hr, hv⟩
theorem ck_gt1 {σ : Nat → Int} {s : Nat} {z x : Int} (hs : s < 1000000) (h : x = σ s + z) : ck_gt σ [(s, z)] x := fun q hq => by
  rw [List.mem_singleton.mp hq]
  exact ⟨fun _ => h, fun h => absurd hs (Nat.not_lt.mpr h)⟩
theorem jfp_b {k : Nat} {r : Int × Int} (h : r ∈ j_fp k) : 227 ≤ k ∧ (k = 227 → r.2 ≤ 1243) := by
  by_cases e : k = 227
  · subst e
    exact ⟨by decide, fun _ => of_decide_eq_true (List.all_eq_true.mp (show (j_fp 227).all (fun r => decide (r.2 ≤ 1243)) = true by decide +kernel) r h)⟩
  · refine ⟨?_, fun e2 => absurd e2 e⟩
    unfold j_fp at h
    split at h
    · omega
    · split at h
      · omega
      · split at h
        · omega
        · split at h
          · omega
          · cases h
theorem j_J_w {t : List (Int × Int × Int × Int)} {K : gm_K} {M M' : gm_M} (h : ∀ k j, 227 ≤ k → (k = 227 → j ≤ 1243) → M' k j = M k j) (hJ : j_J t K M) : j_J t K M' := j_h K K M M' (fun _ _ _ => rfl) (fun k r hr j _ j2 => h k j (jfp_b hr).1 (fun e => by have := (jfp_b hr).2 e; omega)) hJ
theorem pg_t0 {j a b : Int} : gm_tyv pg_O 0 j j a b = true := by
  rw [gm_tyv_def]
  rw [show pg_O.2.2.ty 0 = [] by decide +kernel]
  rfl
theorem pg_ts : gm_tyv pg_O 227 1293 2092 (-1) 999 = true := by decide +kernel
theorem pg_t15 : gm_tyv pg_O 226 15 15 0 400 = true := by decide +kernel
theorem pg_p9 : gm_tyr pg_O 226 9 9 = some (0, 400) := by decide +kernel
theorem pg_p11 : gm_tyr pg_O 226 11 11 = some (0, 400) := by decide +kernel
theorem pg_tl : (List.range 12).all (fun (n : Nat) => gm_tyv pg_O 227 (1247 + 4 * (n : Int)) (1247 + 4 * (n : Int)) 0 400 && gm_tyv pg_O 227 (1248 + 4 * (n : Int)) (1248 + 4 * (n : Int)) 0 400) = true := by decide +kernel
section EM
variable {X : Int → Int} {LX : Nat}
noncomputable def em_M (M : gm_M) (st s nn h : Int) : gm_M := gm_uM (gm_uM (gm_uM (gm_uM (gm_uM (gm_uM M 227 (1293 + 2 * st) s) 227 (1293 + 2 * st + 1) nn) 226 15 (st + 1)) 0 0 h) 0 3 (M 0 3 - 1)) 0 5 (M 0 5 - 1)
noncomputable def em_W : List (Nat × Int × Int) × List (Nat × Int) := ([(0, 0, 0), (0, 3, 3), (0, 5, 5), (226, 15, 15), (227, 1293, 2092)], [])
noncomputable def em_S (lo hi h0 dh h1 h2 : Int) : ck_Sum := ((1, 0, 0), 245, [.inr (.inr (.inl 226)), .inl (lo, hi, []), .inl (-1, 999, [])], ([], [], [(0, 0, 0, (h0, 400, [(30, 0)])), (0, 3, 3, (-400, 400, [(31, 0)])), (0, 5, 5, (1, 400, [(33, 0)]))]), em_W, [(.inr none, 245, ([], [], [(0, 0, 0, (h1, h2, [(30, dh)])), (0, 3, 3, (-400, 399, [(31, -1)])), (0, 5, 5, (0, 399, [(33, -1)])), (226, 15, 15, (1, 400, [(2, 1)]))]))])
theorem em_s {lo hi h0 dh h1 h2 : Int} (hlo : -1 ≤ lo ∧ hi ≤ 999) (hk : ∀ s h, lo ≤ s → s ≤ hi → h0 ≤ h → jS s h (h + dh)) (hh1 : (0 ≤ h0 ∧ 0 ≤ h1) ∧ h1 ≤ h0 + dh) (hh2 : 400 ≤ h2 ∨ 400 + dh ≤ h2) : ck_Ok pg_O X LX 279 (em_S lo hi h0 dh h1 h2) := by
  intro d σ vs n K R M hd hn hvs hnm hF hf
  obtain ⟨_, _, rfl, rfl, _, _, rfl, ⟨s, rfl, -, u1, u2, -⟩, _, _, rfl, ⟨nn, rfl, -, u3, u4, -⟩, rfl⟩ := hvs
  have u1 : lo ≤ s := u1
  have u2 : s ≤ hi := u2
  have u3 : (-1 : Int) ≤ nn := u3
  have u4 : nn ≤ (999 : Int) := u4
  have hn : n = 245 := hn
  subst hn
  have hP := pg_p2 hF
  have f0 := (hf.2.2 (0, 0, 0, (h0, 400, [(30, 0)])) List.mem_cons_self).2 0 (Int.le_refl _) (Int.le_refl _)
  have f01 : h0 ≤ M 0 0 := f0.2.1
  have f02 : M 0 0 ≤ (400 : Int) := f0.2.2.1
  have f3 := (hf.2.2 (0, 3, 3, (-400, 400, [(31, 0)])) (List.mem_cons_of_mem _ List.mem_cons_self)).2 3 (Int.le_refl _) (Int.le_refl _)
  have f31 : (-400 : Int) ≤ M 0 3 := f3.2.1
  have f32 : M 0 3 ≤ (400 : Int) := f3.2.2.1
  have f5 := (hf.2.2 (0, 5, 5, (1, 400, [(33, 0)])) (List.mem_cons_of_mem _ (List.mem_cons_of_mem _ List.mem_cons_self))).2 5 (Int.le_refl _) (Int.le_refl _)
  have f51 : (1 : Int) ≤ M 0 5 := f5.2.1
  have f52 : M 0 5 ≤ (400 : Int) := f5.2.2.1
  have p9 := ((gm_tyr_s hF pg_p9).2 9 (Int.le_refl _) (Int.le_refl _)).2
  have p92 : M 226 9 ≤ (400 : Int) := p9.2
  have p11 := ((gm_tyr_s hF pg_p11).2 11 (Int.le_refl _) (Int.le_refl _)).2
  have p111 : (0 : Int) ≤ M 226 11 := p11.1
  have s30 : σ 30 = M 0 0 := hnm (30, 0, 0) (by decide +kernel)
  have s31 : σ 31 = M 0 3 := hnm (31, 0, 3) (by decide +kernel)
  have s33 : σ 33 = M 0 5 := hnm (33, 0, 5) (by decide +kernel)
  have s2 : σ 2 = M 226 15 := hnm (2, 226, 15) (by decide +kernel)
  obtain ⟨hJ, ⟨⟨a1, a2, a3⟩, ⟨b1, b2, b3⟩, c1⟩, d1, e1⟩ := hF.2.2.2.2
  generalize hst : M 226 15 = st at *
  have h399 : st ≤ 399 := by omega
  have w1 : gm_w (1293 + 2 * st) = 1293 + 2 * st := w2 (by omega)
  have w2q : gm_w (1293 + 2 * st + 1) = 1293 + 2 * st + 1 := w2 (by omega)
  refine gm_sz (gm_p_load (pc := 0) (i := .aload_n 0) (sr := 2) (j := 0) (by decide +kernel) rfl rfl rfl) ?_
  refine gm_sz (gm_p_get (pc := 1) (ix := 13) (ci := 11) (j := 1) (by decide +kernel) (md_mo hP).1 (md_mo hP).2 (by decide +kernel)) ?_
  rw [if_pos (show gm_isr 11 1 = true by decide +kernel), md_rf hP md_r.1.1]
  refine gm_sz (gm_p_const (pc := 4) (i := .sipush 1293) (v := gm_vi 1293) (by decide +kernel) (by decide +kernel)) ?_
  refine gm_sz (gm_p_const (pc := 7) (i := .iconst 2) (v := gm_vi 2) (by decide +kernel) (by decide +kernel)) ?_
  refine gm_sz (gm_p_load (pc := 8) (i := .aload_n 0) (sr := 2) (j := 0) (by decide +kernel) rfl rfl rfl) ?_
  refine gm_sz (gm_p_get (pc := 9) (ix := 224) (ci := 11) (j := 15) (by decide +kernel) (md_mo hP).1 (md_mo hP).2 (by decide +kernel)) ?_
  rw [if_neg (show ¬ gm_isr 11 15 = true by decide +kernel), show M 226 ((15 : Nat) : Int) = st from hst]
  refine gm_sz (gm_p_bin (pc := 12) (i := .imul) (f := fun x y => x * y) (by decide +kernel) rfl) ?_
  refine gm_sz (gm_p_bin (pc := 13) (i := .iadd) (f := fun x y => x + y) (by decide +kernel) rfl) ?_
  refine gm_sz (gm_p_load (pc := 14) (i := .iload_n 1) (sr := 0) (j := 1) (by decide +kernel) rfl rfl rfl) ?_
  refine gm_sz (gm_p_iast (pc := 15) (by decide +kernel) (md_kd hP md_o.1.2).1.1 (md_kd hP md_o.1.2).1.2 (by rw [w1, (md_kd hP md_o.1.2).2]; omega)) ?_
  rw [w1]
  refine gm_sz (gm_p_load (pc := 16) (i := .aload_n 0) (sr := 2) (j := 0) (by decide +kernel) rfl rfl rfl) ?_
  refine gm_sz (gm_p_get (pc := 17) (ix := 13) (ci := 11) (j := 1) (by decide +kernel) (md_mo hP).1 (md_mo hP).2 (by decide +kernel)) ?_
  rw [if_pos (show gm_isr 11 1 = true by decide +kernel), md_rf hP md_r.1.1]
  refine gm_sz (gm_p_const (pc := 20) (i := .sipush 1293) (v := gm_vi 1293) (by decide +kernel) (by decide +kernel)) ?_
  refine gm_sz (gm_p_const (pc := 23) (i := .iconst 2) (v := gm_vi 2) (by decide +kernel) (by decide +kernel)) ?_
  refine gm_sz (gm_p_load (pc := 24) (i := .aload_n 0) (sr := 2) (j := 0) (by decide +kernel) rfl rfl rfl) ?_
  refine gm_sz (gm_p_get (pc := 25) (ix := 224) (ci := 11) (j := 15) (by decide +kernel) (md_mo hP).1 (md_mo hP).2 (by decide +kernel)) ?_
  rw [if_neg (show ¬ gm_isr 11 15 = true by decide +kernel), show gm_uM M 227 (1293 + 2 * st) s 226 ((15 : Nat) : Int) = st from (uM_ne (by omega)).trans hst]
  refine gm_sz (gm_p_bin (pc := 28) (i := .imul) (f := fun x y => x * y) (by decide +kernel) rfl) ?_
  refine gm_sz (gm_p_bin (pc := 29) (i := .iadd) (f := fun x y => x + y) (by decide +kernel) rfl) ?_
  refine gm_sz (gm_p_const (pc := 30) (i := .iconst 1) (v := gm_vi 1) (by decide +kernel) (by decide +kernel)) ?_
  refine gm_sz (gm_p_bin (pc := 31) (i := .iadd) (f := fun x y => x + y) (by decide +kernel) rfl) ?_
  refine gm_sz (gm_p_load (pc := 32) (i := .iload_n 2) (sr := 0) (j := 2) (by decide +kernel) rfl rfl rfl) ?_
  refine gm_sz (gm_p_iast (pc := 33) (by decide +kernel) (md_kd hP md_o.1.2).1.1 (md_kd hP md_o.1.2).1.2 (by rw [w2q, (md_kd hP md_o.1.2).2]; omega)) ?_
  rw [w2q]
  refine gm_sz (gm_p_load (pc := 34) (i := .aload_n 0) (sr := 2) (j := 0) (by decide +kernel) rfl rfl rfl) ?_
  refine gm_sz (gm_p_dup (pc := 35) (by decide +kernel) (by simp [gm_sort])) ?_
  refine gm_sz (gm_p_get (pc := 36) (ix := 224) (ci := 11) (j := 15) (by decide +kernel) (md_mo hP).1 (md_mo hP).2 (by decide +kernel)) ?_
  rw [if_neg (show ¬ gm_isr 11 15 = true by decide +kernel), show gm_uM (gm_uM M 227 (1293 + 2 * st) s) 227 (1293 + 2 * st + 1) nn 226 ((15 : Nat) : Int) = st from (uM_ne (by omega)).trans ((uM_ne (by omega)).trans hst)]
  refine gm_sz (gm_p_const (pc := 39) (i := .iconst 1) (v := gm_vi 1) (by decide +kernel) (by decide +kernel)) ?_
  refine gm_sz (gm_p_bin (pc := 40) (i := .iadd) (f := fun x y => x + y) (by decide +kernel) rfl) ?_
  refine gm_sz (gm_p_puti (pc := 41) (ix := 224) (ci := 11) (j := 15) (by decide +kernel) (md_mo hP).1 (md_mo hP).2 (by decide +kernel) (by decide +kernel) (Or.inl (by decide +kernel))) ?_
  have hD := jD_s (f := fun j => M 227 (1244 + j)) (g := fun j => em_M M st s nn (M 0 0 + dh) 227 (1244 + j)) (s := s) (h' := M 0 0 + dh) b2 d1 (hk s (M 0 0) u1 u2 f01) (fun i i1 i2 => by
    show em_M M st s nn (M 0 0 + dh) 227 (1244 + (49 + 2 * i)) = M 227 (1244 + (49 + 2 * i))
    unfold em_M
    rw [uM_ne (by omega), uM_ne (by omega), uM_ne (by omega), uM_ne (by omega), uM_ne (by omega), uM_ne (by omega)]) (by
    show em_M M st s nn (M 0 0 + dh) 227 (1244 + (49 + 2 * st)) = s
    unfold em_M
    rw [uM_ne (by omega), uM_ne (by omega), uM_ne (by omega), uM_ne (by omega), uM_ne (by omega)]
    unfold gm_uM
    rw [if_pos ⟨rfl, by omega⟩])
  have hle := jD_le (by omega) hD
  refine gm_Wp_g (M' := em_M M st s nn (M 0 0 + dh)) (fun c i hc => ?_) ?_
  · unfold em_M
    rw [uM_ne (by omega), uM_ne (by omega), uM_ne (by omega)]
    rfl
  have v00 : em_M M st s nn (M 0 0 + dh) 0 0 = M 0 0 + dh := by unfold em_M; rw [uM_ne (by omega), uM_ne (by omega), uM_at]
  have v03 : em_M M st s nn (M 0 0 + dh) 0 3 = M 0 3 - 1 := by unfold em_M; rw [uM_ne (by omega), uM_at]
  have v05 : em_M M st s nn (M 0 0 + dh) 0 5 = M 0 5 - 1 := by unfold em_M; rw [uM_at]
  have v15 : em_M M st s nn (M 0 0 + dh) 226 15 = st + 1 := by unfold em_M; rw [uM_ne (by omega), uM_ne (by omega), uM_ne (by omega), uM_at]
  have vx : ∀ (c : Nat) (j : Int), ¬ (c = 0 ∧ (j = 0 ∨ j = 3 ∨ j = 5)) → ¬ (c = 226 ∧ j = 15) → ¬ (c = 227 ∧ 1293 ≤ j) → em_M M st s nn (M 0 0 + dh) c j = M c j := fun c j x1 x2 x3 => by
    unfold em_M
    rw [uM_ne (by omega), uM_ne (by omega), uM_ne (by omega), uM_ne (by omega), uM_ne (by omega), uM_ne (by omega)]
  refine gm_r_void (pc := 44) (by decide +kernel) (by decide +kernel) ⟨⟨hF.1, hF.2.1, ?_, hF.2.2.2.1, ?_⟩, ?_, _, List.mem_cons_self, trivial, rfl, ⟨(fun _ h => nomatch h), (fun _ h => nomatch h), fun q hq => ?_⟩⟩
  · exact gm_Ft_M (gm_Ft_M (gm_Ft_M (gm_Ft_M (gm_Ft_W (gm_Ft_W hF.2.2.1 pg_ts (by omega) (by omega) (by omega) (by omega)) pg_ts (by omega) (by omega) u3 u4) pg_t15 (by omega) (by omega)) pg_t0 (Int.le_refl _) (Int.le_refl _)) pg_t0 (Int.le_refl _) (Int.le_refl _)) pg_t0 (Int.le_refl _) (Int.le_refl _)
  · refine ⟨j_J_w (fun k j k1 k2 => vx k j (by omega) (by omega) (fun x => by have := k2 x.1; omega)) hJ, ?_⟩
    unfold jX
    rw [v00, v03, v05, v15, vx 0 1 (by omega) (by omega) (by omega), vx 0 2 (by omega) (by omega) (by omega), vx 0 4 (by omega) (by omega) (by omega), vx 0 6 (by omega) (by omega) (by omega), vx 226 9 (by omega) (by omega) (by omega), vx 226 11 (by omega) (by omega) (by omega)]
    refine ⟨⟨⟨a1, by omega, by omega⟩, ⟨b1, by omega, by omega⟩, fun h6 => ?_⟩, hD, jL_cg (fun i i1 i2 => ?_) (fun n n1 _ n3 => ⟨vx _ _ (by omega) (by omega) (by omega), vx _ _ (by omega) (by omega) (by omega)⟩) e1⟩
    · obtain ⟨c2, c3⟩ := c1 h6
      exact ⟨c2, by rw [vx _ _ (by omega) (by omega) (by omega)]; exact c3⟩
    · show em_M M st s nn (M 0 0 + dh) 227 (1244 + (49 + 2 * i)) = M 227 (1244 + (49 + 2 * i))
      unfold em_M
      rw [uM_ne (by omega), uM_ne (by omega), uM_ne (by omega), uM_ne (by omega), uM_ne (by omega), uM_ne (by omega)]
  · show ck_fr em_W 245 K R M 245 K R _
    exact ck_fr_M (lo := 5) (hi := 5) (ck_fr_M (lo := 3) (hi := 3) (ck_fr_M (lo := 0) (hi := 0) (ck_fr_M (lo := 15) (hi := 15) (ck_fr_M (lo := 1293) (hi := 2092) (ck_fr_M (lo := 1293) (hi := 2092) ck_fr_0 (by decide) (by omega) (by omega)) (by decide) (by omega) (by omega)) (by decide) (by omega) (by omega)) (by decide) (by omega) (by omega)) (by decide) (by omega) (by omega)) (by decide) (by omega) (by omega)
  · rcases List.mem_cons.mp hq with rfl | hq
    · exact ck_f1 (Nat.zero_le _) (by rw [v00]; exact ⟨by omega, by omega⟩) (by rw [v00]; exact ⟨by show h1 ≤ _; omega, by show _ ≤ h2; omega, ck_gt1 (by decide) (by rw [s30])⟩)
    rcases List.mem_cons.mp hq with rfl | hq
    · exact ck_f1 (Nat.zero_le _) (by rw [v03]; exact ⟨by omega, by omega⟩) (by rw [v03]; exact ⟨by show (-400 : Int) ≤ _; omega, by show _ ≤ (399 : Int); omega, ck_gt1 (by decide) (by rw [s31]; rfl)⟩)
    rcases List.mem_cons.mp hq with rfl | hq
    · exact ck_f1 (Nat.zero_le _) (by rw [v05]; exact ⟨by omega, by omega⟩) (by rw [v05]; exact ⟨by show (0 : Int) ≤ _; omega, by show _ ≤ (399 : Int); omega, ck_gt1 (by decide) (by rw [s33]; rfl)⟩)
    rw [List.mem_singleton.mp hq]
    exact ck_f1 (show (226 : Nat) ≤ 245 by decide) (by rw [v15]; exact ⟨by omega, by omega⟩) (by rw [v15]; exact ⟨by show (1 : Int) ≤ _; omega, by show _ ≤ (400 : Int); omega, ck_gt1 (by decide) (by rw [s2])⟩)
/-- GlacierMailModel.emits -/
noncomputable def pg_em0 : ck_Sum := em_S (-1) 10 0 1 1 400
noncomputable def pg_em1 : ck_Sum := em_S 11 13 2 (-1) 1 399
noncomputable def pg_em2 : ck_Sum := em_S 14 14 1 0 1 400
noncomputable def pg_em3 : ck_Sum := em_S 15 16 2 (-1) 1 399
theorem pg_em0_s : ck_Ok pg_O X LX 279 pg_em0 := em_s (by decide) (fun s h h1 h2 h3 => ⟨fun _ => ⟨h3, rfl⟩, fun e => by omega, fun e => by omega⟩) (by decide) (by decide)
theorem pg_em1_s : ck_Ok pg_O X LX 279 pg_em1 := em_s (by decide) (fun s h h1 h2 h3 => ⟨fun e => by omega, fun e => by omega, fun _ _ => ⟨h3, rfl⟩⟩) (by decide) (by decide)
theorem pg_em2_s : ck_Ok pg_O X LX 279 pg_em2 := em_s (by decide) (fun s h h1 h2 h3 => ⟨fun e => by omega, fun _ => ⟨h3, by omega⟩, fun _ e => absurd (by omega) e⟩) (by decide) (by decide)
theorem pg_em3_s : ck_Ok pg_O X LX 279 pg_em3 := em_s (by decide) (fun s h h1 h2 h3 => ⟨fun e => by omega, fun e => by omega, fun _ _ => ⟨h3, rfl⟩⟩) (by decide) (by decide)
end EM
end
/-! 72.rl -/
section
/-! A LINE OF THE LAW that begins, and one that ends, by hand: where its steps begin and end is written down. -/
section RL
variable {X : Int → Int} {LX : Nat} {E : List (Nat × List ck_Sum)} {d : Nat} {W : List (Nat × Int × Int) × List (Nat × Int)} {outs : List ck_Oc} {σ σ0 : Nat → Int} {K0 : gm_K} {R0 : gm_R} {M0 : gm_M}
noncomputable def rl_A (n : Int) : ck_AL := [some (.inr (.inr (.inl 226))), some (.inl (ck_one n)), some (.inl (ck_one (1245 + 4 * n)))]
noncomputable def rl_F1 (n : Int) (F : ck_F) : ck_F := (F.1, F.2.1, (0, 0, 0, ck_one 0) :: (0, 6, 6, ck_one 1) :: ck_cws [(227, 1247 + 4 * n, 1247 + 4 * n), (0, 0, 1), (0, 6, 6)] F.2.2)
noncomputable def rl_F2 (n : Int) (F : ck_F) : ck_F := (F.1, F.2.1, (0, 0, 0, ck_one 0) :: (0, 2, 2, ck_one (n + 1)) :: (0, 6, 6, ck_one 0) :: ck_cws [(227, 1248 + 4 * n, 1248 + 4 * n), (0, 0, 2), (0, 6, 6)] F.2.2)
noncomputable def rl_M1 (M : gm_M) (n st : Int) : gm_M := gm_uM (gm_uM (gm_uM (gm_uM M 227 (1247 + 4 * n) st) 0 1 st) 0 0 0) 0 6 1
noncomputable def rl_M2 (M : gm_M) (n st : Int) : gm_M := gm_uM (gm_uM (gm_uM (gm_uM (gm_uM M 227 (1248 + 4 * n) st) 0 1 st) 0 0 0) 0 2 (n + 1)) 0 6 0
theorem pg_tln {n : Int} (hn : 0 ≤ n ∧ n < 12) : gm_tyv pg_O 227 (1247 + 4 * n) (1247 + 4 * n) 0 400 = true ∧ gm_tyv pg_O 227 (1248 + 4 * n) (1248 + 4 * n) 0 400 = true := by
  obtain ⟨m, rfl⟩ : ∃ m : Nat, n = (m : Int) := ⟨n.toNat, by omega⟩
  have := List.all_eq_true.mp pg_tl m (List.mem_range.mpr (by omega))
  rwa [Bool.and_eq_true] at this
theorem rl_111 {n : Int} {F : ck_F} {f mc ms : Nat} {cuts : List (Nat × ck_C)} {ch : List ck_H} (hcu : ck_cu cuts = true) (hE : ck_nmu pg_O ∧ ck_OkE pg_O X LX E) (hσ : ∀ s, s < 100 → σ s = σ0 s) (hn : 0 ≤ n ∧ n < 12) (hf2 : ck_fi F 0 2 2 = some (ck_one n)) (hw : ck_okW W.1 245 227 (1247 + 4 * n) (1247 + 4 * n) = true ∧ ck_okW W.1 245 0 0 0 = true ∧ ck_okW W.1 245 0 1 1 = true ∧ ck_okW W.1 245 0 6 6 = true)
    (hgo : ck_go pg_O none [] E 274 d 245 W outs cuts f false ch mc ms 123 (rl_A n) [] 245 (rl_F1 n F) = true) (hch : ∀ h ∈ ch, (h.1, h.2.1) ∈ cuts ∧ ck_Hy pg_O X LX 274 d W 245 K0 R0 M0 (ck_Q pg_O σ0 W 245 K0 R0 M0 outs) σ h) : ck_Hy pg_O X LX 274 d W 245 K0 R0 M0 (ck_Q pg_O σ0 W 245 K0 R0 M0 outs) σ (111, (rl_A n, F, 0, .inl 2, true), mc, ms, 245) := by
  intro v _ bc bs L K R M hb1 hb2 hS _
  refine gm_Wp_wk (Nat.le_refl _) hb1 hb2 ?_
  obtain ⟨hF, hl, -, hf, hfr⟩ := hS
  have hf : ck_gf σ F 245 K R M := hf
  have hl : ck_gl σ (rl_A n) L := hl
  have hF : gm_Fx pg_O 245 K R M := hF
  have hfr : ck_fr W 245 K0 R0 M0 245 K R M := hfr
  have hP := pg_p2 hF
  obtain ⟨u0, l0, g0⟩ := hl.2 0 (.inr (.inr (.inl 226))) rfl
  cases g0
  obtain ⟨u2, l2, x, rfl, -, x1, x2, -⟩ := hl.2 2 (.inl (ck_one (1245 + 4 * n))) rfl
  have x1 : 1245 + 4 * n ≤ x := x1
  have x2 : x ≤ 1245 + 4 * n := x2
  have x3 : x = 1245 + 4 * n := by omega
  subst x3
  have q2 := ((ck_fi_s hf hf2).2 2 (Int.le_refl _) (Int.le_refl _)).2
  have q21 : n ≤ M 0 2 := q2.1
  have q22 : M 0 2 ≤ n := q2.2.1
  replace q2 : M 0 2 = n := by omega
  obtain ⟨hJ, ⟨⟨a1, a2, a3⟩, ⟨b1, b2, b3⟩, c1⟩, d1, e1⟩ := hF.2.2.2.2
  generalize hst : M 226 15 = st at *
  have w1 : gm_w (1245 + 4 * n + 2) = 1247 + 4 * n := (w2 (by omega)).trans (by omega)
  refine gm_sz (gm_p_load (pc := 111) (i := .aload_n 0) (sr := 2) (j := 0) (by decide +kernel) rfl l0 rfl) ?_
  refine gm_sz (gm_p_get (pc := 112) (ix := 13) (ci := 11) (j := 1) (by decide +kernel) (md_mo hP).1 (md_mo hP).2 (by decide +kernel)) ?_
  rw [if_pos (show gm_isr 11 1 = true by decide +kernel), md_rf hP md_r.1.1]
  refine gm_sz (gm_p_load (pc := 115) (i := .iload_n 2) (sr := 0) (j := 2) (by decide +kernel) rfl l2 rfl) ?_
  refine gm_sz (gm_p_const (pc := 116) (i := .iconst 2) (v := gm_vi 2) (by decide +kernel) (by decide +kernel)) ?_
  refine gm_sz (gm_p_bin (pc := 117) (i := .iadd) (f := fun x y => x + y) (by decide +kernel) rfl) ?_
  refine gm_sz (gm_p_load (pc := 118) (i := .aload_n 0) (sr := 2) (j := 0) (by decide +kernel) rfl l0 rfl) ?_
  refine gm_sz (gm_p_get (pc := 119) (ix := 224) (ci := 11) (j := 15) (by decide +kernel) (md_mo hP).1 (md_mo hP).2 (by decide +kernel)) ?_
  rw [if_neg (show ¬ gm_isr 11 15 = true by decide +kernel), show M 226 ((15 : Nat) : Int) = st from hst]
  refine gm_sz (gm_p_iast (pc := 122) (by decide +kernel) (md_kd hP md_o.1.2).1.1 (md_kd hP md_o.1.2).1.2 (by rw [w1, (md_kd hP md_o.1.2).2]; omega)) ?_
  rw [w1]
  have v1 : rl_M1 M n st 0 1 = st := by unfold rl_M1; rw [uM_ne (by omega), uM_ne (by omega), uM_at]
  have v0 : rl_M1 M n st 0 0 = 0 := by unfold rl_M1; rw [uM_ne (by omega), uM_at]
  have v6 : rl_M1 M n st 0 6 = 1 := by unfold rl_M1; rw [uM_at]
  have vx : ∀ (c : Nat) (j : Int), ¬ (c = 0 ∧ (j = 0 ∨ j = 1 ∨ j = 6)) → ¬ (c = 227 ∧ j = 1247 + 4 * n) → rl_M1 M n st c j = M c j := fun c j x1 x2 => by
    unfold rl_M1
    rw [uM_ne (by omega), uM_ne (by omega), uM_ne (by omega), uM_ne (by omega)]
  refine gm_Wp_g (M' := rl_M1 M n st) (fun c i hc => by unfold rl_M1; rw [uM_ne (by omega), uM_ne (by omega), uM_ne (by omega)]) ?_
  refine ck_go_s (σ0 := σ0) hcu hE ck_X0 ck_l0 f false ch mc ms 123 (rl_A n) [] 245 (rl_F1 n F) σ L [] K R _ hσ hch ⟨⟨hF.1, hF.2.1, ?_, hF.2.2.2.1, ?_⟩, hl, rfl, ⟨hf.1, hf.2.1, fun q hq => ?_⟩, ?_⟩ hgo
  · exact gm_Ft_M (gm_Ft_M (gm_Ft_M (gm_Ft_M hF.2.2.1 (pg_tln hn).1 (by omega) (by omega)) pg_t0 (Int.le_refl _) (Int.le_refl _)) pg_t0 (Int.le_refl _) (Int.le_refl _)) pg_t0 (Int.le_refl _) (Int.le_refl _)
  · refine ⟨j_J_w (fun k j k1 k2 => vx k j (by omega) (fun x => by have := k2 x.1; omega)) hJ, ?_⟩
    unfold jX
    rw [v0, v1, v6, vx 0 2 (by omega) (by omega), vx 0 3 (by omega) (by omega), vx 0 4 (by omega) (by omega), vx 0 5 (by omega) (by omega), vx 226 9 (by omega) (by omega), vx 226 11 (by omega) (by omega), vx 226 15 (by omega) (by omega), hst]
    refine ⟨⟨⟨a1, a2, a3⟩, ⟨by omega, Int.le_refl _, b3⟩, fun _ => ⟨by rw [q2]; exact hn, ?_⟩⟩, jD_0, jL_e b2 (jL_cg (fun i i1 i2 => vx _ _ (by omega) (by omega)) (fun m m1 m2 m3 => ⟨vx _ _ (by omega) (by omega), vx _ _ (by omega) (by omega)⟩) e1)⟩
    rw [q2, show (1244 : Int) + (3 + 4 * n) = 1247 + 4 * n by omega]
    unfold rl_M1
    rw [uM_ne (by omega), uM_ne (by omega), uM_ne (by omega), uM_at]
  · have hq : q ∈ (rl_F1 n F).2.2 := hq
    unfold rl_F1 at hq
    rcases List.mem_cons.mp hq with rfl | hq
    · exact ck_f1 (Nat.zero_le _) (by rw [v0]; exact ⟨by decide, by decide⟩) (by rw [v0]; exact ck_one_s 0)
    rcases List.mem_cons.mp hq with rfl | hq
    · exact ck_f1 (Nat.zero_le _) (by rw [v6]; exact ⟨by decide, by decide⟩) (by rw [v6]; exact ck_one_s 1)
    exact ck_gf_cws hf (fun c j hx => vx c j (fun e => by
      obtain ⟨rfl, e⟩ := e
      have z1 := hx (0, 0, 1) (by simp)
      have z2 := hx (0, 6, 6) (by simp)
      dsimp only at z1 z2
      omega) (fun e => hx (227, 1247 + 4 * n, 1247 + 4 * n) (by simp) ⟨e.1.symm, by dsimp only; omega, by dsimp only; omega⟩)) q hq
  · exact ck_fr_M (ck_fr_M (ck_fr_M (ck_fr_M hfr (hw.1) (Int.le_refl _) (Int.le_refl _)) (hw.2.2.1) (Int.le_refl _) (Int.le_refl _)) (hw.2.1) (Int.le_refl _) (Int.le_refl _)) (hw.2.2.2) (Int.le_refl _) (Int.le_refl _)
theorem rl_147 {n : Int} {F : ck_F} {f mc ms : Nat} {cuts : List (Nat × ck_C)} {ch : List ck_H} (hcu : ck_cu cuts = true) (hE : ck_nmu pg_O ∧ ck_OkE pg_O X LX E) (hσ : ∀ s, s < 100 → σ s = σ0 s) (hn : 0 ≤ n ∧ n < 12) (hf2 : ck_fi F 0 2 2 = some (ck_one n)) (hf6 : ck_fi F 0 6 6 = some (ck_one 1)) (hw : ck_okW W.1 245 227 (1248 + 4 * n) (1248 + 4 * n) = true ∧ ck_okW W.1 245 0 0 0 = true ∧ ck_okW W.1 245 0 1 1 = true ∧ ck_okW W.1 245 0 2 2 = true ∧ ck_okW W.1 245 0 6 6 = true)
    (hgo : ck_go pg_O none [] E 274 d 245 W outs cuts f false ch mc ms 159 (rl_A n) [] 245 (rl_F2 n F) = true) (hch : ∀ h ∈ ch, (h.1, h.2.1) ∈ cuts ∧ ck_Hy pg_O X LX 274 d W 245 K0 R0 M0 (ck_Q pg_O σ0 W 245 K0 R0 M0 outs) σ h) : ck_Hy pg_O X LX 274 d W 245 K0 R0 M0 (ck_Q pg_O σ0 W 245 K0 R0 M0 outs) σ (147, (rl_A n, F, 0, .inl 2, true), mc, ms, 245) := by
  intro v _ bc bs L K R M hb1 hb2 hS _
  refine gm_Wp_wk (Nat.le_refl _) hb1 hb2 ?_
  obtain ⟨hF, hl, -, hf, hfr⟩ := hS
  have hf : ck_gf σ F 245 K R M := hf
  have hl : ck_gl σ (rl_A n) L := hl
  have hF : gm_Fx pg_O 245 K R M := hF
  have hfr : ck_fr W 245 K0 R0 M0 245 K R M := hfr
  have hP := pg_p2 hF
  obtain ⟨u0, l0, g0⟩ := hl.2 0 (.inr (.inr (.inl 226))) rfl
  cases g0
  obtain ⟨u2, l2, x, rfl, -, x1, x2, -⟩ := hl.2 2 (.inl (ck_one (1245 + 4 * n))) rfl
  have x1 : 1245 + 4 * n ≤ x := x1
  have x2 : x ≤ 1245 + 4 * n := x2
  have x3 : x = 1245 + 4 * n := by omega
  subst x3
  have q2 := ((ck_fi_s hf hf2).2 2 (Int.le_refl _) (Int.le_refl _)).2
  have q21 : n ≤ M 0 2 := q2.1
  have q22 : M 0 2 ≤ n := q2.2.1
  replace q2 : M 0 2 = n := by omega
  have q6 := ((ck_fi_s hf hf6).2 6 (Int.le_refl _) (Int.le_refl _)).2
  have q61 : (1 : Int) ≤ M 0 6 := q6.1
  have q62 : M 0 6 ≤ (1 : Int) := q6.2.1
  obtain ⟨hJ, ⟨⟨a1, a2, a3⟩, ⟨b1, b2, b3⟩, c1⟩, d1, e1⟩ := hF.2.2.2.2
  generalize hst : M 226 15 = st at *
  have w1 : gm_w (1245 + 4 * n + 3) = 1248 + 4 * n := (w2 (by omega)).trans (by omega)
  refine gm_sz (gm_p_load (pc := 147) (i := .aload_n 0) (sr := 2) (j := 0) (by decide +kernel) rfl l0 rfl) ?_
  refine gm_sz (gm_p_get (pc := 148) (ix := 13) (ci := 11) (j := 1) (by decide +kernel) (md_mo hP).1 (md_mo hP).2 (by decide +kernel)) ?_
  rw [if_pos (show gm_isr 11 1 = true by decide +kernel), md_rf hP md_r.1.1]
  refine gm_sz (gm_p_load (pc := 151) (i := .iload_n 2) (sr := 0) (j := 2) (by decide +kernel) rfl l2 rfl) ?_
  refine gm_sz (gm_p_const (pc := 152) (i := .iconst 3) (v := gm_vi 3) (by decide +kernel) (by decide +kernel)) ?_
  refine gm_sz (gm_p_bin (pc := 153) (i := .iadd) (f := fun x y => x + y) (by decide +kernel) rfl) ?_
  refine gm_sz (gm_p_load (pc := 154) (i := .aload_n 0) (sr := 2) (j := 0) (by decide +kernel) rfl l0 rfl) ?_
  refine gm_sz (gm_p_get (pc := 155) (ix := 224) (ci := 11) (j := 15) (by decide +kernel) (md_mo hP).1 (md_mo hP).2 (by decide +kernel)) ?_
  rw [if_neg (show ¬ gm_isr 11 15 = true by decide +kernel), show M 226 ((15 : Nat) : Int) = st from hst]
  refine gm_sz (gm_p_iast (pc := 158) (by decide +kernel) (md_kd hP md_o.1.2).1.1 (md_kd hP md_o.1.2).1.2 (by rw [w1, (md_kd hP md_o.1.2).2]; omega)) ?_
  rw [w1]
  have v1 : rl_M2 M n st 0 1 = st := by unfold rl_M2; rw [uM_ne (by omega), uM_ne (by omega), uM_ne (by omega), uM_at]
  have v0 : rl_M2 M n st 0 0 = 0 := by unfold rl_M2; rw [uM_ne (by omega), uM_ne (by omega), uM_at]
  have v6 : rl_M2 M n st 0 6 = 0 := by unfold rl_M2; rw [uM_at]
  have v2 : rl_M2 M n st 0 2 = n + 1 := by unfold rl_M2; rw [uM_ne (by omega), uM_at]
  have vx : ∀ (c : Nat) (j : Int), ¬ (c = 0 ∧ (j = 0 ∨ j = 1 ∨ j = 2 ∨ j = 6)) → ¬ (c = 227 ∧ j = 1248 + 4 * n) → rl_M2 M n st c j = M c j := fun c j x1 x2 => by
    unfold rl_M2
    rw [uM_ne (by omega), uM_ne (by omega), uM_ne (by omega), uM_ne (by omega), uM_ne (by omega)]
  refine gm_Wp_g (M' := rl_M2 M n st) (fun c i hc => by unfold rl_M2; rw [uM_ne (by omega), uM_ne (by omega), uM_ne (by omega), uM_ne (by omega)]) ?_
  refine ck_go_s (σ0 := σ0) hcu hE ck_X0 ck_l0 f false ch mc ms 159 (rl_A n) [] 245 (rl_F2 n F) σ L [] K R _ hσ hch ⟨⟨hF.1, hF.2.1, ?_, hF.2.2.2.1, ?_⟩, hl, rfl, ⟨hf.1, hf.2.1, fun q hq => ?_⟩, ?_⟩ hgo
  · exact gm_Ft_M (gm_Ft_M (gm_Ft_M (gm_Ft_M (gm_Ft_M hF.2.2.1 (pg_tln hn).2 (by omega) (by omega)) pg_t0 (Int.le_refl _) (Int.le_refl _)) pg_t0 (Int.le_refl _) (Int.le_refl _)) pg_t0 (Int.le_refl _) (Int.le_refl _)) pg_t0 (Int.le_refl _) (Int.le_refl _)
  · refine ⟨j_J_w (fun k j k1 k2 => vx k j (by omega) (fun x => by have := k2 x.1; omega)) hJ, ?_⟩
    unfold jX
    rw [v0, v1, v2, v6, vx 0 3 (by omega) (by omega), vx 0 4 (by omega) (by omega), vx 0 5 (by omega) (by omega), vx 226 9 (by omega) (by omega), vx 226 11 (by omega) (by omega), vx 226 15 (by omega) (by omega), hst]
    rw [q2] at c1 e1
    refine ⟨⟨⟨a1, a2, a3⟩, ⟨by omega, Int.le_refl _, b3⟩, fun h => absurd h (by decide)⟩, jD_0, jL_s (f := fun j => M 227 (1244 + j)) hn.1 b1 b2 b3 e1 d1 (c1 (by omega)).2 ?_ (fun j hj => vx _ _ (by omega) (by omega)) hn.2⟩
    show rl_M2 M n st 227 (1244 + (4 + 4 * n)) = st
    rw [show (1244 : Int) + (4 + 4 * n) = 1248 + 4 * n by omega]
    unfold rl_M2
    rw [uM_ne (by omega), uM_ne (by omega), uM_ne (by omega), uM_ne (by omega), uM_at]
  · have hq : q ∈ (rl_F2 n F).2.2 := hq
    unfold rl_F2 at hq
    rcases List.mem_cons.mp hq with rfl | hq
    · exact ck_f1 (Nat.zero_le _) (by rw [v0]; exact ⟨by decide, by decide⟩) (by rw [v0]; exact ck_one_s 0)
    rcases List.mem_cons.mp hq with rfl | hq
    · exact ck_f1 (Nat.zero_le _) (by rw [v2]; exact ⟨by omega, by omega⟩) (by rw [v2]; exact ck_one_s _)
    rcases List.mem_cons.mp hq with rfl | hq
    · exact ck_f1 (Nat.zero_le _) (by rw [v6]; exact ⟨by decide, by decide⟩) (by rw [v6]; exact ck_one_s 0)
    exact ck_gf_cws hf (fun c j hx => vx c j (fun e => by
      obtain ⟨rfl, e⟩ := e
      have z1 := hx (0, 0, 2) (by simp)
      have z2 := hx (0, 6, 6) (by simp)
      dsimp only at z1 z2
      omega) (fun e => hx (227, 1248 + 4 * n, 1248 + 4 * n) (by simp) ⟨e.1.symm, by dsimp only; omega, by dsimp only; omega⟩)) q hq
  · exact ck_fr_M (ck_fr_M (ck_fr_M (ck_fr_M (ck_fr_M hfr (hw.1) (Int.le_refl _) (Int.le_refl _)) (hw.2.2.1) (Int.le_refl _) (Int.le_refl _)) (hw.2.1) (Int.le_refl _) (Int.le_refl _)) (hw.2.2.2.1) (Int.le_refl _) (Int.le_refl _)) (hw.2.2.2.2) (Int.le_refl _) (Int.le_refl _)
end RL
end
/-! 73a00.pg -/
section
/-! THE REFERENCE'S law(): its readers, with counted cells (laid by wip/am/g8.py). -/
set_option maxRecDepth 100000 in
/-- GlacierMailModel.isAt -/
noncomputable def pg_s0 : ck_Sum := ((0, 0, 0), 245, [.inr (.inr (.inl 226)), .inl (ck_one 32), .inl (ck_one 32)], ([], [], [(226, 9, 9, (0, 400, [(1, 0)]))]), ([], []), [(.inr (some (.inl (ck_one 0))), 245, ([], [], [])), (.inr (some (.inl (ck_one 1))), 245, ([], [], [(226, 10, 10, (1, 400, [])), (226, 9, 9, (0, 399, [(1, 0)]))]))])
set_option maxRecDepth 100000 in
theorem pg_s0_s {X : Int → Int} {LX : Nat} : ck_Ok pg_O X LX 246 pg_s0 := ck_okq (cuts := []) (f := 114) ⟨pg_nmu, ck_E0⟩ (by decide +kernel)
set_option maxRecDepth 100000 in
/-- GlacierMailModel.blanks -/
noncomputable def pg_s1 : ck_Sum := ((1, 0, 0), 245, [.inr (.inr (.inl 226))], ([], [], [(0, 3, 3, ((-400), 400, [(31, 0)])), (0, 4, 4, ((-400), 400, [(32, 0)])), (0, 5, 5, ((-400), 400, [(33, 0)])), (226, 9, 9, (0, 400, [(1, 0)]))]), ([(0, 3, 5), (226, 9, 9), (226, 11, 11)], []), [(.inr none, 245, ([], [], [(0, 5, 5, ((-400), 400, [(1000033, 0)])), (0, 3, 3, ((-400), 400, [(1000033, 0)])), (0, 4, 4, ck_one 0), (226, 11, 11, (0, 400, [(1000001, 0)])), (226, 9, 9, (0, 400, [(1000001, 0)]))]))])
set_option maxRecDepth 100000 in
theorem pg_s1_s {X : Int → Int} {LX : Nat} : ck_Ok pg_O X LX 245 pg_s1 := ck_okq (cuts := [(0, [some (.inr (.inr (.inl 226)))], ([], [], [(0, 3, 3, ((-400), 400, [(31, 0)])), (0, 4, 4, ((-400), 400, [(1000032, 0)])), (0, 5, 5, ((-400), 400, [(1000033, 0)])), (226, 9, 9, (0, 400, [(1000001, 0)]))]), 100, .inr (0, 4), true)]) (f := 142) ⟨pg_nmu, ck_E1 (ck_S1 pg_s0_s ck_S0) ck_E0⟩ (by decide +kernel)
set_option maxRecDepth 100000 in
/-- GlacierMailModel.isAt -/
noncomputable def pg_s2 : ck_Sum := ((0, 0, 0), 245, [.inr (.inr (.inl 226)), .inl (ck_one 97), .inl (ck_one 122)], ([], [], [(226, 9, 9, (0, 400, [(1, 0)]))]), ([], []), [(.inr (some (.inl (ck_one 0))), 245, ([], [], [])), (.inr (some (.inl (ck_one 1))), 245, ([], [], [(226, 10, 10, (1, 400, [])), (226, 9, 9, (0, 399, [(1, 0)]))]))])
set_option maxRecDepth 100000 in
theorem pg_s2_s {X : Int → Int} {LX : Nat} : ck_Ok pg_O X LX 246 pg_s2 := ck_okq (cuts := []) (f := 114) ⟨pg_nmu, ck_E0⟩ (by decide +kernel)
set_option maxRecDepth 100000 in
/-- GlacierMailModel.letterRow -/
noncomputable def pg_s3 : ck_Sum := ((2, 0, 0), 245, [.inr (.inr (.inl 226))], ([], [], [(0, 3, 3, ((-400), 400, [(31, 0)])), (0, 4, 4, ((-400), 400, [(32, 0)])), (0, 5, 5, ((-400), 400, [(33, 0)])), (226, 9, 9, (0, 400, [(1, 0)]))]), ([(0, 3, 5), (226, 9, 9), (226, 11, 11)], []), [(.inr none, 245, ([], [], [(0, 5, 5, ((-400), 400, [(1000033, 0)])), (226, 11, 11, (0, 400, [(1000001, 0)])), (0, 3, 3, ((-400), 400, [(1000033, 0)])), (0, 4, 4, (0, 400, [])), (226, 9, 9, (0, 400, [(1000001, 0)]))]))])
set_option maxRecDepth 100000 in
theorem pg_s3_s {X : Int → Int} {LX : Nat} : ck_Ok pg_O X LX 248 pg_s3 := ck_okq (cuts := [(4, [some (.inr (.inr (.inl 226)))], ([], [], [(0, 5, 5, ((-400), 400, [(1000033, 0)])), (0, 3, 3, ((-400), 400, [(1000033, 0)])), (0, 4, 4, (0, 400, [])), (226, 11, 11, (0, 400, [(1000001, 0)])), (226, 9, 9, (0, 400, [(1000001, 0)]))]), 100, .inr (0, 5), true)]) (f := 142) ⟨pg_nmu, ck_E1 (ck_S1 pg_s1_s ck_S0) (ck_E1 (ck_S1 pg_s2_s ck_S0) ck_E0)⟩ (by decide +kernel)
set_option maxRecDepth 100000 in
/-- GlacierMailModel.isWord -/
noncomputable def pg_s4 : ck_Sum := ((6, 0, 0), 245, [.inr (.inr (.inl 226)), .inr (.inr (.inr 59))], ([], [], [(0, 3, 3, ((-400), 400, [(31, 0)])), (0, 4, 4, ((-400), 400, [(32, 0)])), (0, 5, 5, ((-400), 400, [(33, 0)])), (226, 9, 9, (0, 400, [(1, 0)]))]), ([], []), [(.inr (some (.inl (ck_one 0))), 245, ([], [], [])), (.inr (some (.inl (ck_one 1))), 245, ([], [], [(0, 5, 5, ((-396), 400, [(33, 0), (31, 4)])), (226, 11, 11, (0, 396, [])), (0, 4, 4, (4, 4, [(32, 0)]))]))])
set_option maxRecDepth 100000 in
theorem pg_s4_s {X : Int → Int} {LX : Nat} : ck_Ok pg_O X LX 250 pg_s4 := ck_okq (cuts := []) (f := 288) ⟨pg_nmu, ck_E0⟩ (by decide +kernel)
set_option maxRecDepth 100000 in
/-- GlacierMailModel.isWord -/
noncomputable def pg_s5 : ck_Sum := ((6, 0, 0), 245, [.inr (.inr (.inl 226)), .inr (.inr (.inr 60))], ([], [], [(0, 3, 3, ((-400), 400, [(31, 0)])), (0, 4, 4, ((-400), 400, [(32, 0)])), (0, 5, 5, ((-400), 400, [(33, 0)])), (226, 9, 9, (0, 400, [(1, 0)]))]), ([], []), [(.inr (some (.inl (ck_one 0))), 245, ([], [], [])), (.inr (some (.inl (ck_one 1))), 245, ([], [], [(0, 5, 5, ((-396), 400, [(33, 0), (31, 4)])), (226, 11, 11, (0, 396, [])), (0, 4, 4, (4, 4, [(32, 0)]))]))])
set_option maxRecDepth 100000 in
theorem pg_s5_s {X : Int → Int} {LX : Nat} : ck_Ok pg_O X LX 250 pg_s5 := ck_okq (cuts := []) (f := 288) ⟨pg_nmu, ck_E0⟩ (by decide +kernel)
set_option maxRecDepth 100000 in
/-- GlacierMailModel.isWord -/
noncomputable def pg_s6 : ck_Sum := ((6, 0, 0), 245, [.inr (.inr (.inl 226)), .inr (.inr (.inr 61))], ([], [], [(0, 3, 3, ((-400), 400, [(31, 0)])), (0, 4, 4, ((-400), 400, [(32, 0)])), (0, 5, 5, ((-400), 400, [(33, 0)])), (226, 9, 9, (0, 400, [(1, 0)]))]), ([], []), [(.inr (some (.inl (ck_one 0))), 245, ([], [], [])), (.inr (some (.inl (ck_one 1))), 245, ([], [], [(0, 5, 5, ((-396), 400, [(33, 0), (31, 4)])), (226, 11, 11, (0, 396, [])), (0, 4, 4, (4, 4, [(32, 0)]))]))])
set_option maxRecDepth 100000 in
theorem pg_s6_s {X : Int → Int} {LX : Nat} : ck_Ok pg_O X LX 250 pg_s6 := ck_okq (cuts := []) (f := 288) ⟨pg_nmu, ck_E0⟩ (by decide +kernel)
set_option maxRecDepth 100000 in
/-- GlacierMailModel.isAt -/
noncomputable def pg_s7 : ck_Sum := ((0, 0, 0), 245, [.inr (.inr (.inl 226)), .inl (ck_one 48), .inl (ck_one 57)], ([], [], [(226, 9, 9, (0, 400, [(1, 0)]))]), ([], []), [(.inr (some (.inl (ck_one 0))), 245, ([], [], [])), (.inr (some (.inl (ck_one 1))), 245, ([], [], [(226, 10, 10, (1, 400, [])), (226, 9, 9, (0, 399, [(1, 0)]))]))])
set_option maxRecDepth 100000 in
theorem pg_s7_s {X : Int → Int} {LX : Nat} : ck_Ok pg_O X LX 246 pg_s7 := ck_okq (cuts := []) (f := 114) ⟨pg_nmu, ck_E0⟩ (by decide +kernel)
set_option maxRecDepth 100000 in
/-- GlacierMailModel.figures -/
noncomputable def pg_s8 : ck_Sum := ((2, 0, 0), 245, [.inr (.inr (.inl 226)), .inl (ck_one 0), .inl (ck_one 20), .inl (ck_one 3)], ([], [], [(0, 3, 3, ((-400), 400, [(31, 0)])), (0, 4, 4, ((-400), 400, [(32, 0)])), (0, 5, 5, ((-400), 400, [(33, 0)])), (226, 9, 9, (0, 400, [(1, 0)]))]), ([(0, 3, 5), (226, 9, 9), (226, 11, 11)], []), [(.inr (some (.inl (ck_one (-1)))), 245, ([], [], [(0, 5, 5, ((-400), 400, [(1000033, 0)])), (226, 11, 11, (0, 400, [(1000001, 0)])), (0, 4, 4, (0, 400, [])), (0, 3, 3, ((-400), 400, [(1000033, 0)])), (226, 9, 9, (0, 400, [(1000001, 0)]))])), (.inr (some (.inl (0, 20, []))), 245, ([], [], [(0, 5, 5, ((-399), 400, [(1000033, 1)])), (226, 11, 11, (0, 399, [(1000001, 0)])), (0, 4, 4, (1, 3, [])), (0, 3, 3, ((-400), 400, [(1000033, 0)])), (226, 9, 9, (0, 400, [(1000001, 0)]))]))])
set_option maxRecDepth 100000 in
theorem pg_s8_s {X : Int → Int} {LX : Nat} : ck_Ok pg_O X LX 256 pg_s8 := ck_okq (cuts := [(7, [some (.inr (.inr (.inl 226))), some (.inl (ck_one 0)), some (.inl (ck_one 20)), some (.inl (ck_one 3)), some (.inl ((-2147483648), 2147483647, []))], ([], [], [(0, 5, 5, ((-400), 400, [(1000033, 0)])), (0, 3, 3, ((-400), 400, [(1000033, 0)])), (0, 4, 4, (0, 400, [])), (226, 11, 11, (0, 400, [(1000001, 0)])), (226, 9, 9, (0, 400, [(1000001, 0)]))]), 100, .inr (0, 5), true)]) (f := 222) ⟨pg_nmu, ck_E1 (ck_S1 pg_s1_s ck_S0) (ck_E1 (ck_S1 pg_s7_s ck_S0) ck_E0)⟩ (by decide +kernel)
set_option maxRecDepth 100000 in
/-- GlacierMailModel.isWord -/
noncomputable def pg_s9 : ck_Sum := ((6, 0, 0), 245, [.inr (.inr (.inl 226)), .inr (.inr (.inr 62))], ([], [], [(0, 3, 3, ((-400), 400, [(31, 0)])), (0, 4, 4, ((-400), 400, [(32, 0)])), (0, 5, 5, ((-400), 400, [(33, 0)])), (226, 9, 9, (0, 400, [(1, 0)]))]), ([], []), [(.inr (some (.inl (ck_one 0))), 245, ([], [], [])), (.inr (some (.inl (ck_one 1))), 245, ([], [], [(0, 5, 5, ((-398), 400, [(33, 0), (31, 2)])), (226, 11, 11, (0, 398, [])), (0, 4, 4, (2, 2, [(32, 0)]))]))])
set_option maxRecDepth 100000 in
theorem pg_s9_s {X : Int → Int} {LX : Nat} : ck_Ok pg_O X LX 250 pg_s9 := ck_okq (cuts := []) (f := 200) ⟨pg_nmu, ck_E0⟩ (by decide +kernel)
set_option maxRecDepth 100000 in
/-- GlacierMailModel.isNext -/
noncomputable def pg_s10 : ck_Sum := ((7, 0, 0), 245, [.inr (.inr (.inl 226)), .inr (.inr (.inr 62))], ([], [], [(0, 3, 3, ((-400), 400, [(31, 0)])), (0, 4, 4, ((-400), 400, [(32, 0)])), (0, 5, 5, ((-400), 400, [(33, 0)])), (226, 9, 9, (0, 400, [(1, 0)]))]), ([(0, 3, 5), (226, 9, 9), (226, 11, 11)], []), [(.inr (some (.inl (ck_one 0))), 245, ([], [], [(0, 5, 5, ((-400), 400, [(1000033, 0)])), (0, 3, 3, ((-400), 400, [(1000033, 0)])), (0, 4, 4, ck_one 0), (226, 9, 9, (0, 400, [(1000001, 0)])), (226, 11, 11, (0, 400, [(1000001, 0)]))])), (.inr (some (.inl (ck_one 1))), 245, ([], [], [(0, 5, 5, ((-398), 400, [(1000033, 2)])), (226, 11, 11, (0, 398, [])), (0, 4, 4, ck_one 2), (0, 3, 3, ((-400), 400, [(1000033, 0)])), (226, 9, 9, (0, 400, [(1000001, 0)]))]))])
set_option maxRecDepth 100000 in
theorem pg_s10_s {X : Int → Int} {LX : Nat} : ck_Ok pg_O X LX 269 pg_s10 := ck_okq (cuts := []) (f := 94) ⟨pg_nmu, ck_E1 (ck_S1 pg_s3_s ck_S0) (ck_E1 (ck_S1 pg_s9_s ck_S0) ck_E0)⟩ (by decide +kernel)
set_option maxRecDepth 100000 in
/-- GlacierMailModel.isAt -/
noncomputable def pg_s11 : ck_Sum := ((0, 0, 0), 245, [.inr (.inr (.inl 226)), .inl (ck_one 40), .inl (ck_one 40)], ([], [], [(226, 9, 9, (0, 400, [(1, 0)]))]), ([], []), [(.inr (some (.inl (ck_one 0))), 245, ([], [], [])), (.inr (some (.inl (ck_one 1))), 245, ([], [], [(226, 10, 10, (1, 400, [])), (226, 9, 9, (0, 399, [(1, 0)]))]))])
set_option maxRecDepth 100000 in
theorem pg_s11_s {X : Int → Int} {LX : Nat} : ck_Ok pg_O X LX 246 pg_s11 := ck_okq (cuts := []) (f := 114) ⟨pg_nmu, ck_E0⟩ (by decide +kernel)
set_option maxRecDepth 100000 in
/-- GlacierMailModel.sign -/
noncomputable def pg_s12 : ck_Sum := ((2, 0, 0), 245, [.inr (.inr (.inl 226)), .inl (ck_one 40)], ([], [], [(0, 3, 3, ((-400), 400, [(31, 0)])), (0, 4, 4, ((-400), 400, [(32, 0)])), (0, 5, 5, ((-400), 400, [(33, 0)])), (226, 9, 9, (0, 400, [(1, 0)]))]), ([(0, 3, 5), (226, 9, 9), (226, 11, 11)], []), [(.inr (some (.inl (ck_one 0))), 245, ([], [], [(0, 5, 5, ((-400), 400, [(1000033, 0)])), (226, 11, 11, (0, 400, [(1000001, 0)])), (0, 3, 3, ((-400), 400, [(1000033, 0)])), (0, 4, 4, ck_one 0), (226, 9, 9, (0, 400, [(1000001, 0)]))])), (.inr (some (.inl (ck_one 1))), 245, ([], [], [(0, 5, 5, ((-399), 400, [(1000033, 1)])), (0, 3, 3, ((-400), 400, [(1000033, 0)])), (0, 4, 4, ck_one 1), (226, 9, 9, (1, 400, [(1000001, 1)])), (226, 11, 11, (0, 399, [(1000001, 0)])), (226, 10, 10, (1, 400, []))]))])
set_option maxRecDepth 100000 in
theorem pg_s12_s {X : Int → Int} {LX : Nat} : ck_Ok pg_O X LX 278 pg_s12 := ck_okq (cuts := []) (f := 100) ⟨pg_nmu, ck_E1 (ck_S1 pg_s1_s ck_S0) (ck_E1 (ck_S1 pg_s11_s ck_S0) ck_E0)⟩ (by decide +kernel)
set_option maxRecDepth 100000 in
/-- GlacierMailModel.isAt -/
noncomputable def pg_s13 : ck_Sum := ((0, 0, 0), 245, [.inr (.inr (.inl 226)), .inl (ck_one 60), .inl (ck_one 60)], ([], [], [(226, 9, 9, (0, 400, [(1, 0)]))]), ([], []), [(.inr (some (.inl (ck_one 0))), 245, ([], [], [])), (.inr (some (.inl (ck_one 1))), 245, ([], [], [(226, 10, 10, (1, 400, [])), (226, 9, 9, (0, 399, [(1, 0)]))]))])
set_option maxRecDepth 100000 in
theorem pg_s13_s {X : Int → Int} {LX : Nat} : ck_Ok pg_O X LX 246 pg_s13 := ck_okq (cuts := []) (f := 114) ⟨pg_nmu, ck_E0⟩ (by decide +kernel)
set_option maxRecDepth 100000 in
/-- GlacierMailModel.sign -/
noncomputable def pg_s14 : ck_Sum := ((2, 0, 0), 245, [.inr (.inr (.inl 226)), .inl (ck_one 60)], ([], [], [(0, 3, 3, ((-400), 400, [(31, 0)])), (0, 4, 4, ((-400), 400, [(32, 0)])), (0, 5, 5, ((-400), 400, [(33, 0)])), (226, 9, 9, (0, 400, [(1, 0)]))]), ([(0, 3, 5), (226, 9, 9), (226, 11, 11)], []), [(.inr (some (.inl (ck_one 0))), 245, ([], [], [(0, 5, 5, ((-400), 400, [(1000033, 0)])), (226, 11, 11, (0, 400, [(1000001, 0)])), (0, 3, 3, ((-400), 400, [(1000033, 0)])), (0, 4, 4, ck_one 0), (226, 9, 9, (0, 400, [(1000001, 0)]))])), (.inr (some (.inl (ck_one 1))), 245, ([], [], [(0, 5, 5, ((-399), 400, [(1000033, 1)])), (0, 3, 3, ((-400), 400, [(1000033, 0)])), (0, 4, 4, ck_one 1), (226, 9, 9, (1, 400, [(1000001, 1)])), (226, 11, 11, (0, 399, [(1000001, 0)])), (226, 10, 10, (1, 400, []))]))])
set_option maxRecDepth 100000 in
theorem pg_s14_s {X : Int → Int} {LX : Nat} : ck_Ok pg_O X LX 278 pg_s14 := ck_okq (cuts := []) (f := 100) ⟨pg_nmu, ck_E1 (ck_S1 pg_s1_s ck_S0) (ck_E1 (ck_S1 pg_s13_s ck_S0) ck_E0)⟩ (by decide +kernel)
set_option maxRecDepth 100000 in
/-- GlacierMailModel.isAt -/
noncomputable def pg_s15 : ck_Sum := ((0, 0, 0), 245, [.inr (.inr (.inl 226)), .inl (ck_one 62), .inl (ck_one 62)], ([], [], [(226, 9, 9, (0, 400, [(1, 0)]))]), ([], []), [(.inr (some (.inl (ck_one 0))), 245, ([], [], [])), (.inr (some (.inl (ck_one 1))), 245, ([], [], [(226, 10, 10, (1, 400, [])), (226, 9, 9, (0, 399, [(1, 0)]))]))])
set_option maxRecDepth 100000 in
theorem pg_s15_s {X : Int → Int} {LX : Nat} : ck_Ok pg_O X LX 246 pg_s15 := ck_okq (cuts := []) (f := 114) ⟨pg_nmu, ck_E0⟩ (by decide +kernel)
set_option maxRecDepth 100000 in
/-- GlacierMailModel.sign -/
noncomputable def pg_s16 : ck_Sum := ((2, 0, 0), 245, [.inr (.inr (.inl 226)), .inl (ck_one 62)], ([], [], [(0, 3, 3, ((-400), 400, [(31, 0)])), (0, 4, 4, ((-400), 400, [(32, 0)])), (0, 5, 5, ((-400), 400, [(33, 0)])), (226, 9, 9, (0, 400, [(1, 0)]))]), ([(0, 3, 5), (226, 9, 9), (226, 11, 11)], []), [(.inr (some (.inl (ck_one 0))), 245, ([], [], [(0, 5, 5, ((-400), 400, [(1000033, 0)])), (226, 11, 11, (0, 400, [(1000001, 0)])), (0, 3, 3, ((-400), 400, [(1000033, 0)])), (0, 4, 4, ck_one 0), (226, 9, 9, (0, 400, [(1000001, 0)]))])), (.inr (some (.inl (ck_one 1))), 245, ([], [], [(0, 5, 5, ((-399), 400, [(1000033, 1)])), (0, 3, 3, ((-400), 400, [(1000033, 0)])), (0, 4, 4, ck_one 1), (226, 9, 9, (1, 400, [(1000001, 1)])), (226, 11, 11, (0, 399, [(1000001, 0)])), (226, 10, 10, (1, 400, []))]))])
set_option maxRecDepth 100000 in
theorem pg_s16_s {X : Int → Int} {LX : Nat} : ck_Ok pg_O X LX 278 pg_s16 := ck_okq (cuts := []) (f := 100) ⟨pg_nmu, ck_E1 (ck_S1 pg_s1_s ck_S0) (ck_E1 (ck_S1 pg_s15_s ck_S0) ck_E0)⟩ (by decide +kernel)
set_option maxRecDepth 100000 in
/-- GlacierMailModel.isAt -/
noncomputable def pg_s17 : ck_Sum := ((0, 0, 0), 245, [.inr (.inr (.inl 226)), .inl (ck_one 41), .inl (ck_one 41)], ([], [], [(226, 9, 9, (0, 400, [(1, 0)]))]), ([], []), [(.inr (some (.inl (ck_one 0))), 245, ([], [], [])), (.inr (some (.inl (ck_one 1))), 245, ([], [], [(226, 10, 10, (1, 400, [])), (226, 9, 9, (0, 399, [(1, 0)]))]))])
set_option maxRecDepth 100000 in
theorem pg_s17_s {X : Int → Int} {LX : Nat} : ck_Ok pg_O X LX 246 pg_s17 := ck_okq (cuts := []) (f := 114) ⟨pg_nmu, ck_E0⟩ (by decide +kernel)
set_option maxRecDepth 100000 in
/-- GlacierMailModel.sign -/
noncomputable def pg_s18 : ck_Sum := ((2, 0, 0), 245, [.inr (.inr (.inl 226)), .inl (ck_one 41)], ([], [], [(0, 3, 3, ((-400), 400, [(31, 0)])), (0, 4, 4, ((-400), 400, [(32, 0)])), (0, 5, 5, ((-400), 400, [(33, 0)])), (226, 9, 9, (0, 400, [(1, 0)]))]), ([(0, 3, 5), (226, 9, 9), (226, 11, 11)], []), [(.inr (some (.inl (ck_one 0))), 245, ([], [], [(0, 5, 5, ((-400), 400, [(1000033, 0)])), (226, 11, 11, (0, 400, [(1000001, 0)])), (0, 3, 3, ((-400), 400, [(1000033, 0)])), (0, 4, 4, ck_one 0), (226, 9, 9, (0, 400, [(1000001, 0)]))])), (.inr (some (.inl (ck_one 1))), 245, ([], [], [(0, 5, 5, ((-399), 400, [(1000033, 1)])), (0, 3, 3, ((-400), 400, [(1000033, 0)])), (0, 4, 4, ck_one 1), (226, 9, 9, (1, 400, [(1000001, 1)])), (226, 11, 11, (0, 399, [(1000001, 0)])), (226, 10, 10, (1, 400, []))]))])
set_option maxRecDepth 100000 in
theorem pg_s18_s {X : Int → Int} {LX : Nat} : ck_Ok pg_O X LX 278 pg_s18 := ck_okq (cuts := []) (f := 100) ⟨pg_nmu, ck_E1 (ck_S1 pg_s1_s ck_S0) (ck_E1 (ck_S1 pg_s17_s ck_S0) ck_E0)⟩ (by decide +kernel)
set_option maxRecDepth 100000 in
/-- GlacierMailModel.isWord -/
noncomputable def pg_s19 : ck_Sum := ((6, 0, 0), 245, [.inr (.inr (.inl 226)), .inr (.inr (.inr 63))], ([], [], [(0, 3, 3, ((-400), 400, [(31, 0)])), (0, 4, 4, ((-400), 400, [(32, 0)])), (0, 5, 5, ((-400), 400, [(33, 0)])), (226, 9, 9, (0, 400, [(1, 0)]))]), ([], []), [(.inr (some (.inl (ck_one 0))), 245, ([], [], [])), (.inr (some (.inl (ck_one 1))), 245, ([], [], [(0, 5, 5, ((-397), 400, [(33, 0), (31, 3)])), (226, 11, 11, (0, 397, [])), (0, 4, 4, (3, 3, [(32, 0)]))]))])
set_option maxRecDepth 100000 in
theorem pg_s19_s {X : Int → Int} {LX : Nat} : ck_Ok pg_O X LX 250 pg_s19 := ck_okq (cuts := []) (f := 244) ⟨pg_nmu, ck_E0⟩ (by decide +kernel)
set_option maxRecDepth 100000 in
/-- GlacierMailModel.isNext -/
noncomputable def pg_s20 : ck_Sum := ((7, 0, 0), 245, [.inr (.inr (.inl 226)), .inr (.inr (.inr 63))], ([], [], [(0, 3, 3, ((-400), 400, [(31, 0)])), (0, 4, 4, ((-400), 400, [(32, 0)])), (0, 5, 5, ((-400), 400, [(33, 0)])), (226, 9, 9, (0, 400, [(1, 0)]))]), ([(0, 3, 5), (226, 9, 9), (226, 11, 11)], []), [(.inr (some (.inl (ck_one 0))), 245, ([], [], [(0, 5, 5, ((-400), 400, [(1000033, 0)])), (0, 3, 3, ((-400), 400, [(1000033, 0)])), (0, 4, 4, ck_one 0), (226, 9, 9, (0, 400, [(1000001, 0)])), (226, 11, 11, (0, 400, [(1000001, 0)]))])), (.inr (some (.inl (ck_one 1))), 245, ([], [], [(0, 5, 5, ((-397), 400, [(1000033, 3)])), (226, 11, 11, (0, 397, [])), (0, 4, 4, ck_one 3), (0, 3, 3, ((-400), 400, [(1000033, 0)])), (226, 9, 9, (0, 400, [(1000001, 0)]))]))])
set_option maxRecDepth 100000 in
theorem pg_s20_s {X : Int → Int} {LX : Nat} : ck_Ok pg_O X LX 269 pg_s20 := ck_okq (cuts := []) (f := 94) ⟨pg_nmu, ck_E1 (ck_S1 pg_s3_s ck_S0) (ck_E1 (ck_S1 pg_s19_s ck_S0) ck_E0)⟩ (by decide +kernel)
set_option maxRecDepth 100000 in
/-- GlacierMailModel.isWord -/
noncomputable def pg_s21 : ck_Sum := ((6, 0, 0), 245, [.inr (.inr (.inl 226)), .inr (.inr (.inr 64))], ([], [], [(0, 3, 3, ((-400), 400, [(31, 0)])), (0, 4, 4, ((-400), 400, [(32, 0)])), (0, 5, 5, ((-400), 400, [(33, 0)])), (226, 9, 9, (0, 400, [(1, 0)]))]), ([], []), [(.inr (some (.inl (ck_one 0))), 245, ([], [], [])), (.inr (some (.inl (ck_one 1))), 245, ([], [], [(0, 5, 5, ((-396), 400, [(33, 0), (31, 4)])), (226, 11, 11, (0, 396, [])), (0, 4, 4, (4, 4, [(32, 0)]))]))])
set_option maxRecDepth 100000 in
theorem pg_s21_s {X : Int → Int} {LX : Nat} : ck_Ok pg_O X LX 250 pg_s21 := ck_okq (cuts := []) (f := 288) ⟨pg_nmu, ck_E0⟩ (by decide +kernel)
set_option maxRecDepth 100000 in
/-- GlacierMailModel.isNext -/
noncomputable def pg_s22 : ck_Sum := ((7, 0, 0), 245, [.inr (.inr (.inl 226)), .inr (.inr (.inr 64))], ([], [], [(0, 3, 3, ((-400), 400, [(31, 0)])), (0, 4, 4, ((-400), 400, [(32, 0)])), (0, 5, 5, ((-400), 400, [(33, 0)])), (226, 9, 9, (0, 400, [(1, 0)]))]), ([(0, 3, 5), (226, 9, 9), (226, 11, 11)], []), [(.inr (some (.inl (ck_one 0))), 245, ([], [], [(0, 5, 5, ((-400), 400, [(1000033, 0)])), (0, 3, 3, ((-400), 400, [(1000033, 0)])), (0, 4, 4, ck_one 0), (226, 9, 9, (0, 400, [(1000001, 0)])), (226, 11, 11, (0, 400, [(1000001, 0)]))])), (.inr (some (.inl (ck_one 1))), 245, ([], [], [(0, 5, 5, ((-396), 400, [(1000033, 4)])), (226, 11, 11, (0, 396, [])), (0, 4, 4, ck_one 4), (0, 3, 3, ((-400), 400, [(1000033, 0)])), (226, 9, 9, (0, 400, [(1000001, 0)]))]))])
set_option maxRecDepth 100000 in
theorem pg_s22_s {X : Int → Int} {LX : Nat} : ck_Ok pg_O X LX 269 pg_s22 := ck_okq (cuts := []) (f := 94) ⟨pg_nmu, ck_E1 (ck_S1 pg_s3_s ck_S0) (ck_E1 (ck_S1 pg_s21_s ck_S0) ck_E0)⟩ (by decide +kernel)
set_option maxRecDepth 100000 in
/-- GlacierMailModel.isWord -/
noncomputable def pg_s23 : ck_Sum := ((6, 0, 0), 245, [.inr (.inr (.inl 226)), .inr (.inr (.inr 65))], ([], [], [(0, 3, 3, ((-400), 400, [(31, 0)])), (0, 4, 4, ((-400), 400, [(32, 0)])), (0, 5, 5, ((-400), 400, [(33, 0)])), (226, 9, 9, (0, 400, [(1, 0)]))]), ([], []), [(.inr (some (.inl (ck_one 0))), 245, ([], [], [])), (.inr (some (.inl (ck_one 1))), 245, ([], [], [(0, 5, 5, ((-395), 400, [(33, 0), (31, 5)])), (226, 11, 11, (0, 395, [])), (0, 4, 4, (5, 5, [(32, 0)]))]))])
set_option maxRecDepth 100000 in
theorem pg_s23_s {X : Int → Int} {LX : Nat} : ck_Ok pg_O X LX 250 pg_s23 := ck_okq (cuts := []) (f := 332) ⟨pg_nmu, ck_E0⟩ (by decide +kernel)
set_option maxRecDepth 100000 in
/-- GlacierMailModel.isNext -/
noncomputable def pg_s24 : ck_Sum := ((7, 0, 0), 245, [.inr (.inr (.inl 226)), .inr (.inr (.inr 65))], ([], [], [(0, 3, 3, ((-400), 400, [(31, 0)])), (0, 4, 4, ((-400), 400, [(32, 0)])), (0, 5, 5, ((-400), 400, [(33, 0)])), (226, 9, 9, (0, 400, [(1, 0)]))]), ([(0, 3, 5), (226, 9, 9), (226, 11, 11)], []), [(.inr (some (.inl (ck_one 0))), 245, ([], [], [(0, 5, 5, ((-400), 400, [(1000033, 0)])), (0, 3, 3, ((-400), 400, [(1000033, 0)])), (0, 4, 4, ck_one 0), (226, 9, 9, (0, 400, [(1000001, 0)])), (226, 11, 11, (0, 400, [(1000001, 0)]))])), (.inr (some (.inl (ck_one 1))), 245, ([], [], [(0, 5, 5, ((-395), 400, [(1000033, 5)])), (226, 11, 11, (0, 395, [])), (0, 4, 4, ck_one 5), (0, 3, 3, ((-400), 400, [(1000033, 0)])), (226, 9, 9, (0, 400, [(1000001, 0)]))]))])
set_option maxRecDepth 100000 in
theorem pg_s24_s {X : Int → Int} {LX : Nat} : ck_Ok pg_O X LX 269 pg_s24 := ck_okq (cuts := []) (f := 94) ⟨pg_nmu, ck_E1 (ck_S1 pg_s3_s ck_S0) (ck_E1 (ck_S1 pg_s23_s ck_S0) ck_E0)⟩ (by decide +kernel)
set_option maxRecDepth 100000 in
/-- GlacierMailModel.isWord -/
noncomputable def pg_s25 : ck_Sum := ((6, 0, 0), 245, [.inr (.inr (.inl 226)), .inr (.inr (.inr 66))], ([], [], [(0, 3, 3, ((-400), 400, [(31, 0)])), (0, 4, 4, ((-400), 400, [(32, 0)])), (0, 5, 5, ((-400), 400, [(33, 0)])), (226, 9, 9, (0, 400, [(1, 0)]))]), ([], []), [(.inr (some (.inl (ck_one 0))), 245, ([], [], [])), (.inr (some (.inl (ck_one 1))), 245, ([], [], [(0, 5, 5, ((-396), 400, [(33, 0), (31, 4)])), (226, 11, 11, (0, 396, [])), (0, 4, 4, (4, 4, [(32, 0)]))]))])
set_option maxRecDepth 100000 in
theorem pg_s25_s {X : Int → Int} {LX : Nat} : ck_Ok pg_O X LX 250 pg_s25 := ck_okq (cuts := []) (f := 288) ⟨pg_nmu, ck_E0⟩ (by decide +kernel)
set_option maxRecDepth 100000 in
/-- GlacierMailModel.isWord -/
noncomputable def pg_s26 : ck_Sum := ((6, 0, 0), 245, [.inr (.inr (.inl 226)), .inr (.inr (.inr 67))], ([], [], [(0, 3, 3, ((-400), 400, [(31, 0)])), (0, 4, 4, ((-400), 400, [(32, 0)])), (0, 5, 5, ((-400), 400, [(33, 0)])), (226, 9, 9, (0, 400, [(1, 0)]))]), ([], []), [(.inr (some (.inl (ck_one 0))), 245, ([], [], [])), (.inr (some (.inl (ck_one 1))), 245, ([], [], [(0, 5, 5, ((-397), 400, [(33, 0), (31, 3)])), (226, 11, 11, (0, 397, [])), (0, 4, 4, (3, 3, [(32, 0)]))]))])
set_option maxRecDepth 100000 in
theorem pg_s26_s {X : Int → Int} {LX : Nat} : ck_Ok pg_O X LX 250 pg_s26 := ck_okq (cuts := []) (f := 244) ⟨pg_nmu, ck_E0⟩ (by decide +kernel)
set_option maxRecDepth 100000 in
/-- GlacierMailModel.isWord -/
noncomputable def pg_s27 : ck_Sum := ((6, 0, 0), 245, [.inr (.inr (.inl 226)), .inr (.inr (.inr 68))], ([], [], [(0, 3, 3, ((-400), 400, [(31, 0)])), (0, 4, 4, ((-400), 400, [(32, 0)])), (0, 5, 5, ((-400), 400, [(33, 0)])), (226, 9, 9, (0, 400, [(1, 0)]))]), ([], []), [(.inr (some (.inl (ck_one 0))), 245, ([], [], [])), (.inr (some (.inl (ck_one 1))), 245, ([], [], [(0, 5, 5, ((-396), 400, [(33, 0), (31, 4)])), (226, 11, 11, (0, 396, [])), (0, 4, 4, (4, 4, [(32, 0)]))]))])
set_option maxRecDepth 100000 in
theorem pg_s27_s {X : Int → Int} {LX : Nat} : ck_Ok pg_O X LX 250 pg_s27 := ck_okq (cuts := []) (f := 288) ⟨pg_nmu, ck_E0⟩ (by decide +kernel)
set_option maxRecDepth 100000 in
/-- GlacierMailModel.isWord -/
noncomputable def pg_s28 : ck_Sum := ((6, 0, 0), 245, [.inr (.inr (.inl 226)), .inr (.inr (.inr 69))], ([], [], [(0, 3, 3, ((-400), 400, [(31, 0)])), (0, 4, 4, ((-400), 400, [(32, 0)])), (0, 5, 5, ((-400), 400, [(33, 0)])), (226, 9, 9, (0, 400, [(1, 0)]))]), ([], []), [(.inr (some (.inl (ck_one 0))), 245, ([], [], [])), (.inr (some (.inl (ck_one 1))), 245, ([], [], [(0, 5, 5, ((-396), 400, [(33, 0), (31, 4)])), (226, 11, 11, (0, 396, [])), (0, 4, 4, (4, 4, [(32, 0)]))]))])
set_option maxRecDepth 100000 in
theorem pg_s28_s {X : Int → Int} {LX : Nat} : ck_Ok pg_O X LX 250 pg_s28 := ck_okq (cuts := []) (f := 288) ⟨pg_nmu, ck_E0⟩ (by decide +kernel)
set_option maxRecDepth 100000 in
/-- GlacierMailModel.isWord -/
noncomputable def pg_s29 : ck_Sum := ((6, 0, 0), 245, [.inr (.inr (.inl 226)), .inr (.inr (.inr 70))], ([], [], [(0, 3, 3, ((-400), 400, [(31, 0)])), (0, 4, 4, ((-400), 400, [(32, 0)])), (0, 5, 5, ((-400), 400, [(33, 0)])), (226, 9, 9, (0, 400, [(1, 0)]))]), ([], []), [(.inr (some (.inl (ck_one 0))), 245, ([], [], [])), (.inr (some (.inl (ck_one 1))), 245, ([], [], [(0, 5, 5, ((-395), 400, [(33, 0), (31, 5)])), (226, 11, 11, (0, 395, [])), (0, 4, 4, (5, 5, [(32, 0)]))]))])
set_option maxRecDepth 100000 in
theorem pg_s29_s {X : Int → Int} {LX : Nat} : ck_Ok pg_O X LX 250 pg_s29 := ck_okq (cuts := []) (f := 332) ⟨pg_nmu, ck_E0⟩ (by decide +kernel)
set_option maxRecDepth 100000 in
/-- GlacierMailModel.isWord -/
noncomputable def pg_s30 : ck_Sum := ((6, 0, 0), 245, [.inr (.inr (.inl 226)), .inr (.inr (.inr 53))], ([], [], [(0, 3, 3, ((-400), 400, [(31, 0)])), (0, 4, 4, ((-400), 400, [(32, 0)])), (0, 5, 5, ((-400), 400, [(33, 0)])), (226, 9, 9, (0, 400, [(1, 0)]))]), ([], []), [(.inr (some (.inl (ck_one 0))), 245, ([], [], [])), (.inr (some (.inl (ck_one 1))), 245, ([], [], [(0, 5, 5, ((-394), 400, [(33, 0), (31, 6)])), (226, 11, 11, (0, 394, [])), (0, 4, 4, (6, 6, [(32, 0)]))]))])
set_option maxRecDepth 100000 in
theorem pg_s30_s {X : Int → Int} {LX : Nat} : ck_Ok pg_O X LX 250 pg_s30 := ck_okq (cuts := []) (f := 376) ⟨pg_nmu, ck_E0⟩ (by decide +kernel)
set_option maxRecDepth 100000 in
/-- GlacierMailModel.isWord -/
noncomputable def pg_s31 : ck_Sum := ((6, 0, 0), 245, [.inr (.inr (.inl 226)), .inr (.inr (.inr 71))], ([], [], [(0, 3, 3, ((-400), 400, [(31, 0)])), (0, 4, 4, ((-400), 400, [(32, 0)])), (0, 5, 5, ((-400), 400, [(33, 0)])), (226, 9, 9, (0, 400, [(1, 0)]))]), ([], []), [(.inr (some (.inl (ck_one 0))), 245, ([], [], [])), (.inr (some (.inl (ck_one 1))), 245, ([], [], [(0, 5, 5, ((-397), 400, [(33, 0), (31, 3)])), (226, 11, 11, (0, 397, [])), (0, 4, 4, (3, 3, [(32, 0)]))]))])
set_option maxRecDepth 100000 in
theorem pg_s31_s {X : Int → Int} {LX : Nat} : ck_Ok pg_O X LX 250 pg_s31 := ck_okq (cuts := []) (f := 244) ⟨pg_nmu, ck_E0⟩ (by decide +kernel)
set_option maxRecDepth 100000 in
/-- GlacierMailModel.isWord -/
noncomputable def pg_s32 : ck_Sum := ((6, 0, 0), 245, [.inr (.inr (.inl 226)), .inr (.inr (.inr 72))], ([], [], [(0, 3, 3, ((-400), 400, [(31, 0)])), (0, 4, 4, ((-400), 400, [(32, 0)])), (0, 5, 5, ((-400), 400, [(33, 0)])), (226, 9, 9, (0, 400, [(1, 0)]))]), ([], []), [(.inr (some (.inl (ck_one 0))), 245, ([], [], [])), (.inr (some (.inl (ck_one 1))), 245, ([], [], [(0, 5, 5, ((-396), 400, [(33, 0), (31, 4)])), (226, 11, 11, (0, 396, [])), (0, 4, 4, (4, 4, [(32, 0)]))]))])
set_option maxRecDepth 100000 in
theorem pg_s32_s {X : Int → Int} {LX : Nat} : ck_Ok pg_O X LX 250 pg_s32 := ck_okq (cuts := []) (f := 288) ⟨pg_nmu, ck_E0⟩ (by decide +kernel)
set_option maxRecDepth 100000 in
/-- GlacierMailModel.figures -/
noncomputable def pg_s34 : ck_Sum := ((2, 0, 0), 245, [.inr (.inr (.inl 226)), .inl (ck_one 0), .inl (ck_one 999), .inl (ck_one 3)], ([], [], [(0, 3, 3, ((-400), 400, [(31, 0)])), (0, 4, 4, ((-400), 400, [(32, 0)])), (0, 5, 5, ((-400), 400, [(33, 0)])), (226, 9, 9, (0, 400, [(1, 0)]))]), ([(0, 3, 5), (226, 9, 9), (226, 11, 11)], []), [(.inr (some (.inl (ck_one (-1)))), 245, ([], [], [(0, 5, 5, ((-400), 400, [(1000033, 0)])), (226, 11, 11, (0, 400, [(1000001, 0)])), (0, 4, 4, (0, 400, [])), (0, 3, 3, ((-400), 400, [(1000033, 0)])), (226, 9, 9, (0, 400, [(1000001, 0)]))])), (.inr (some (.inl (0, 999, []))), 245, ([], [], [(0, 5, 5, ((-399), 400, [(1000033, 1)])), (226, 11, 11, (0, 399, [(1000001, 0)])), (0, 4, 4, (1, 3, [])), (0, 3, 3, ((-400), 400, [(1000033, 0)])), (226, 9, 9, (0, 400, [(1000001, 0)]))]))])
set_option maxRecDepth 100000 in
theorem pg_s34_s {X : Int → Int} {LX : Nat} : ck_Ok pg_O X LX 256 pg_s34 := ck_okq (cuts := [(7, [some (.inr (.inr (.inl 226))), some (.inl (ck_one 0)), some (.inl (ck_one 999)), some (.inl (ck_one 3)), some (.inl ((-2147483648), 2147483647, []))], ([], [], [(0, 5, 5, ((-400), 400, [(1000033, 0)])), (0, 3, 3, ((-400), 400, [(1000033, 0)])), (0, 4, 4, (0, 400, [])), (226, 11, 11, (0, 400, [(1000001, 0)])), (226, 9, 9, (0, 400, [(1000001, 0)]))]), 100, .inr (0, 5), true)]) (f := 222) ⟨pg_nmu, ck_E1 (ck_S1 pg_s1_s ck_S0) (ck_E1 (ck_S1 pg_s7_s ck_S0) ck_E0)⟩ (by decide +kernel)
set_option maxRecDepth 100000 in
/-- GlacierMailModel.readPart -/
noncomputable def pg_s35 : ck_Sum := ((7, 0, 0), 245, [.inr (.inr (.inl 226))], ([], [], [(0, 0, 0, (0, 400, [(30, 0)])), (0, 3, 3, ((-400), 400, [(31, 0)])), (0, 4, 4, ((-400), 400, [(32, 0)])), (0, 5, 5, (1, 400, [(33, 0)])), (226, 9, 9, (0, 400, [(1, 0)]))]), ([(0, 0, 0), (0, 3, 5), (226, 9, 9), (226, 11, 11), (226, 15, 15), (227, 1293, 2092)], []), [(.inr (some (.inl (ck_one 0))), 245, ([], [], [(0, 5, 5, (0, 399, [(1000033, (-1))])), (226, 11, 11, (0, 400, [(1000001, 0)])), (0, 0, 0, (1, 400, [(30, 1)])), (0, 3, 3, (0, 399, [(1000033, (-1))])), (226, 15, 15, (1, 400, [])), (0, 4, 4, (0, 400, [])), (226, 9, 9, (0, 400, [(1000001, 0)]))])), (.inr (some (.inl (ck_one 1))), 245, ([], [], [(0, 5, 5, (1, 399, [(1000033, 0)])), (226, 11, 11, (0, 399, [])), (0, 0, 0, (1, 400, [(30, 1)])), (0, 3, 3, (0, 399, [(1000033, (-1))])), (226, 15, 15, (1, 400, [])), (0, 4, 4, (1, 6, [])), (226, 9, 9, (0, 400, [(1000001, 0)]))]))])
set_option maxRecDepth 100000 in
theorem pg_s35_s {X : Int → Int} {LX : Nat} : ck_Ok pg_O X LX 281 pg_s35 := ck_okq (cuts := []) (f := 172) ⟨pg_nmu, ck_E1 (ck_S1 pg_s3_s ck_S0) (ck_E1 (ck_S1 pg_s25_s (ck_S1 pg_s26_s (ck_S1 pg_s27_s (ck_S1 pg_s28_s (ck_S1 pg_s29_s (ck_S1 pg_s30_s (ck_S1 pg_s31_s (ck_S1 pg_s32_s ck_S0)))))))) (ck_E1 (ck_S1 pg_em0_s ck_S0) (ck_E1 (ck_S1 pg_s34_s ck_S0) ck_E0)))⟩ (by decide +kernel)
set_option maxRecDepth 100000 in
/-- GlacierMailModel.isAt -/
noncomputable def pg_s36 : ck_Sum := ((0, 0, 0), 245, [.inr (.inr (.inl 226)), .inl (ck_one 43), .inl (ck_one 43)], ([], [], [(226, 9, 9, (0, 400, [(1, 0)]))]), ([], []), [(.inr (some (.inl (ck_one 0))), 245, ([], [], [])), (.inr (some (.inl (ck_one 1))), 245, ([], [], [(226, 10, 10, (1, 400, [])), (226, 9, 9, (0, 399, [(1, 0)]))]))])
set_option maxRecDepth 100000 in
theorem pg_s36_s {X : Int → Int} {LX : Nat} : ck_Ok pg_O X LX 246 pg_s36 := ck_okq (cuts := []) (f := 114) ⟨pg_nmu, ck_E0⟩ (by decide +kernel)
set_option maxRecDepth 100000 in
/-- GlacierMailModel.sign -/
noncomputable def pg_s37 : ck_Sum := ((2, 0, 0), 245, [.inr (.inr (.inl 226)), .inl (ck_one 43)], ([], [], [(0, 3, 3, ((-400), 400, [(31, 0)])), (0, 4, 4, ((-400), 400, [(32, 0)])), (0, 5, 5, ((-400), 400, [(33, 0)])), (226, 9, 9, (0, 400, [(1, 0)]))]), ([(0, 3, 5), (226, 9, 9), (226, 11, 11)], []), [(.inr (some (.inl (ck_one 0))), 245, ([], [], [(0, 5, 5, ((-400), 400, [(1000033, 0)])), (226, 11, 11, (0, 400, [(1000001, 0)])), (0, 3, 3, ((-400), 400, [(1000033, 0)])), (0, 4, 4, ck_one 0), (226, 9, 9, (0, 400, [(1000001, 0)]))])), (.inr (some (.inl (ck_one 1))), 245, ([], [], [(0, 5, 5, ((-399), 400, [(1000033, 1)])), (0, 3, 3, ((-400), 400, [(1000033, 0)])), (0, 4, 4, ck_one 1), (226, 9, 9, (1, 400, [(1000001, 1)])), (226, 11, 11, (0, 399, [(1000001, 0)])), (226, 10, 10, (1, 400, []))]))])
set_option maxRecDepth 100000 in
theorem pg_s37_s {X : Int → Int} {LX : Nat} : ck_Ok pg_O X LX 278 pg_s37 := ck_okq (cuts := []) (f := 100) ⟨pg_nmu, ck_E1 (ck_S1 pg_s1_s ck_S0) (ck_E1 (ck_S1 pg_s36_s ck_S0) ck_E0)⟩ (by decide +kernel)
set_option maxRecDepth 100000 in
/-- GlacierMailModel.readSum -/
noncomputable def pg_s39 : ck_Sum := ((8, 0, 0), 245, [.inr (.inr (.inl 226))], ([], [], [(0, 0, 0, (0, 400, [(30, 0)])), (0, 3, 3, ((-400), 400, [(31, 0)])), (0, 4, 4, ((-400), 400, [(32, 0)])), (0, 5, 5, (1, 400, [(33, 0)])), (226, 9, 9, (0, 400, [(1, 0)])), (226, 15, 15, (0, 400, [(2, 0)]))]), ([(0, 0, 0), (0, 3, 5), (226, 9, 9), (226, 11, 11), (226, 15, 15), (227, 1293, 2092)], []), [(.inr (some (.inl (ck_one 0))), 245, ([], [], [(0, 5, 5, (0, 399, [(1000033, (-1))])), (226, 11, 11, (0, 400, [(1000001, 0)])), (0, 0, 0, (1, 400, [(1000030, 1)])), (0, 3, 3, (0, 399, [(1000033, (-1))])), (226, 15, 15, (1, 400, [])), (0, 4, 4, (0, 400, [])), (226, 9, 9, (0, 400, [(1000001, 0)]))])), (.inr (some (.inl (ck_one 1))), 245, ([], [], [(0, 5, 5, (1, 400, [(1000033, 0)])), (226, 11, 11, (0, 400, [(1000001, 0)])), (0, 3, 3, (1, 400, [(1000033, 0)])), (0, 4, 4, ck_one 0), (226, 9, 9, (0, 400, [(1000001, 0)])), (0, 0, 0, (1, 400, [(30, 1)])), (226, 15, 15, (1, 400, []))]))])
set_option maxRecDepth 100000 in
theorem pg_s39_s {X : Int → Int} {LX : Nat} : ck_Ok pg_O X LX 280 pg_s39 := ck_okq (cuts := [(9, [some (.inr (.inr (.inl 226)))], ([], [], [(0, 5, 5, (1, 399, [(1000033, 0)])), (226, 11, 11, (0, 399, [])), (0, 0, 0, (1, 400, [(30, 1)])), (0, 3, 3, (0, 399, [(1000033, (-1))])), (226, 15, 15, (1, 400, [])), (0, 4, 4, (1, 6, [])), (226, 9, 9, (0, 400, [(1000001, 0)]))]), 100, .inr (226, 9), true)]) (f := 142) ⟨pg_nmu, ck_E1 (ck_S1 pg_s35_s ck_S0) (ck_E1 (ck_S1 pg_s37_s ck_S0) (ck_E1 (ck_S1 pg_em1_s ck_S0) ck_E0))⟩ (by decide +kernel)
set_option maxRecDepth 100000 in
/-- GlacierMailModel.readAtom -/
noncomputable def pg_s41 : ck_Sum := ((9, 0, 0), 245, [.inr (.inr (.inl 226))], ([], [], [(226, 12, 12, ck_one 6), (0, 0, 0, (0, 400, [(30, 0)])), (0, 3, 3, ((-400), 400, [(31, 0)])), (0, 4, 4, ((-400), 400, [(32, 0)])), (0, 5, 5, (1, 400, [(33, 0)])), (226, 9, 9, (0, 400, [(1, 0)])), (226, 15, 15, (0, 400, [(2, 0)]))]), ([(0, 0, 0), (0, 3, 5), (226, 9, 9), (226, 11, 11), (226, 15, 15), (227, 1293, 2092)], []), [(.inr (some (.inl (ck_one 0))), 245, ([], [], [(0, 5, 5, (0, 400, [(1000033, (-1))])), (0, 0, 0, (0, 400, [(1000030, 0)])), (0, 3, 3, (0, 400, [(1000033, (-1))])), (0, 4, 4, (0, 400, [])), (226, 9, 9, (0, 400, [(1000001, 0)]))])), (.inr (some (.inl (ck_one 1))), 245, ([], [], [(0, 0, 0, (1, 400, [(30, 1)])), (0, 3, 3, (0, 399, [(1000033, (-1))])), (0, 5, 5, (1, 399, [(1000033, 0)])), (226, 15, 15, (1, 400, [])), (0, 4, 4, (0, 5, [])), (226, 9, 9, (0, 400, [(1000001, 0)]))]))])
set_option maxRecDepth 100000 in
theorem pg_s41_s {X : Int → Int} {LX : Nat} : ck_Ok pg_O X LX 277 pg_s41 := ck_okq (cuts := []) (f := 154) ⟨pg_nmu, ck_E1 (ck_S1 pg_s12_s (ck_S1 pg_s14_s (ck_S1 pg_s16_s ck_S0))) (ck_E1 (ck_S1 pg_s20_s (ck_S1 pg_s22_s (ck_S1 pg_s24_s ck_S0))) (ck_E1 (ck_S1 pg_s39_s ck_S0) (ck_E1 (ck_S1 pg_em1_s (ck_S1 pg_em0_s ck_S0)) ck_E0)))⟩ (by decide +kernel)
set_option maxRecDepth 100000 in
/-- GlacierMailModel.isWord -/
noncomputable def pg_s42 : ck_Sum := ((6, 0, 0), 245, [.inr (.inr (.inl 226)), .inr (.inr (.inr 73))], ([], [], [(0, 3, 3, ((-400), 400, [(31, 0)])), (0, 4, 4, ((-400), 400, [(32, 0)])), (0, 5, 5, ((-400), 400, [(33, 0)])), (226, 9, 9, (0, 400, [(1, 0)]))]), ([], []), [(.inr (some (.inl (ck_one 0))), 245, ([], [], [])), (.inr (some (.inl (ck_one 1))), 245, ([], [], [(0, 5, 5, ((-397), 400, [(33, 0), (31, 3)])), (226, 11, 11, (0, 397, [])), (0, 4, 4, (3, 3, [(32, 0)]))]))])
set_option maxRecDepth 100000 in
theorem pg_s42_s {X : Int → Int} {LX : Nat} : ck_Ok pg_O X LX 250 pg_s42 := ck_okq (cuts := []) (f := 244) ⟨pg_nmu, ck_E0⟩ (by decide +kernel)
set_option maxRecDepth 100000 in
/-- GlacierMailModel.isNext -/
noncomputable def pg_s43 : ck_Sum := ((7, 0, 0), 245, [.inr (.inr (.inl 226)), .inr (.inr (.inr 73))], ([], [], [(0, 3, 3, ((-400), 400, [(31, 0)])), (0, 4, 4, ((-400), 400, [(32, 0)])), (0, 5, 5, ((-400), 400, [(33, 0)])), (226, 9, 9, (0, 400, [(1, 0)]))]), ([(0, 3, 5), (226, 9, 9), (226, 11, 11)], []), [(.inr (some (.inl (ck_one 0))), 245, ([], [], [(0, 5, 5, ((-400), 400, [(1000033, 0)])), (0, 3, 3, ((-400), 400, [(1000033, 0)])), (0, 4, 4, ck_one 0), (226, 9, 9, (0, 400, [(1000001, 0)])), (226, 11, 11, (0, 400, [(1000001, 0)]))])), (.inr (some (.inl (ck_one 1))), 245, ([], [], [(0, 5, 5, ((-397), 400, [(1000033, 3)])), (226, 11, 11, (0, 397, [])), (0, 4, 4, ck_one 3), (0, 3, 3, ((-400), 400, [(1000033, 0)])), (226, 9, 9, (0, 400, [(1000001, 0)]))]))])
set_option maxRecDepth 100000 in
theorem pg_s43_s {X : Int → Int} {LX : Nat} : ck_Ok pg_O X LX 269 pg_s43 := ck_okq (cuts := []) (f := 94) ⟨pg_nmu, ck_E1 (ck_S1 pg_s3_s ck_S0) (ck_E1 (ck_S1 pg_s42_s ck_S0) ck_E0)⟩ (by decide +kernel)
set_option maxRecDepth 100000 in
/-- GlacierMailModel.readAllOf -/
noncomputable def pg_s45 : ck_Sum := ((10, 0, 0), 245, [.inr (.inr (.inl 226))], ([], [], [(226, 12, 12, ck_one 6), (0, 0, 0, (0, 400, [(30, 0)])), (0, 3, 3, ((-400), 400, [(31, 0)])), (0, 4, 4, ((-400), 400, [(32, 0)])), (0, 5, 5, (1, 400, [(33, 0)])), (226, 9, 9, (0, 400, [(1, 0)])), (226, 15, 15, (0, 400, [(2, 0)]))]), ([(0, 0, 0), (0, 3, 5), (226, 9, 9), (226, 11, 11), (226, 15, 15), (227, 1293, 2092)], []), [(.inr (some (.inl (ck_one 0))), 245, ([], [], [(0, 5, 5, (0, 400, [(1000033, (-1))])), (0, 0, 0, (0, 400, [(1000030, 0)])), (0, 3, 3, (0, 400, [(1000033, (-1))])), (0, 4, 4, (0, 400, [])), (226, 9, 9, (0, 400, [(1000001, 0)]))])), (.inr (some (.inl (ck_one 1))), 245, ([], [], [(0, 5, 5, (1, 400, [(1000033, 0)])), (226, 11, 11, (0, 400, [(1000001, 0)])), (0, 3, 3, (1, 400, [(1000033, 0)])), (0, 4, 4, ck_one 0), (226, 9, 9, (0, 400, [(1000001, 0)])), (0, 0, 0, (1, 400, [(30, 1)])), (226, 15, 15, (1, 400, []))]))])
set_option maxRecDepth 100000 in
theorem pg_s45_s {X : Int → Int} {LX : Nat} : ck_Ok pg_O X LX 276 pg_s45 := ck_okq (cuts := [(9, [some (.inr (.inr (.inl 226)))], ([], [], [(0, 5, 5, (1, 399, [(1000033, 0)])), (226, 11, 11, (0, 400, [])), (0, 0, 0, (1, 400, [(30, 1)])), (0, 3, 3, (0, 399, [(1000033, (-1))])), (226, 15, 15, (1, 400, [])), (0, 4, 4, (0, 5, [])), (226, 9, 9, (0, 400, [(1000001, 0)])), (226, 12, 12, ck_one 6)]), 100, .inr (0, 5), true)]) (f := 142) ⟨pg_nmu, ck_E1 (ck_S1 pg_s41_s ck_S0) (ck_E1 (ck_S1 pg_s43_s ck_S0) (ck_E1 (ck_S1 pg_em3_s ck_S0) ck_E0))⟩ (by decide +kernel)
set_option maxRecDepth 100000 in
/-- GlacierMailModel.isWord -/
noncomputable def pg_s46 : ck_Sum := ((6, 0, 0), 245, [.inr (.inr (.inl 226)), .inr (.inr (.inr 74))], ([], [], [(0, 3, 3, ((-400), 400, [(31, 0)])), (0, 4, 4, ((-400), 400, [(32, 0)])), (0, 5, 5, ((-400), 400, [(33, 0)])), (226, 9, 9, (0, 400, [(1, 0)]))]), ([], []), [(.inr (some (.inl (ck_one 0))), 245, ([], [], [])), (.inr (some (.inl (ck_one 1))), 245, ([], [], [(0, 5, 5, ((-398), 400, [(33, 0), (31, 2)])), (226, 11, 11, (0, 398, [])), (0, 4, 4, (2, 2, [(32, 0)]))]))])
set_option maxRecDepth 100000 in
theorem pg_s46_s {X : Int → Int} {LX : Nat} : ck_Ok pg_O X LX 250 pg_s46 := ck_okq (cuts := []) (f := 200) ⟨pg_nmu, ck_E0⟩ (by decide +kernel)
set_option maxRecDepth 100000 in
/-- GlacierMailModel.isNext -/
noncomputable def pg_s47 : ck_Sum := ((7, 0, 0), 245, [.inr (.inr (.inl 226)), .inr (.inr (.inr 74))], ([], [], [(0, 3, 3, ((-400), 400, [(31, 0)])), (0, 4, 4, ((-400), 400, [(32, 0)])), (0, 5, 5, ((-400), 400, [(33, 0)])), (226, 9, 9, (0, 400, [(1, 0)]))]), ([(0, 3, 5), (226, 9, 9), (226, 11, 11)], []), [(.inr (some (.inl (ck_one 0))), 245, ([], [], [(0, 5, 5, ((-400), 400, [(1000033, 0)])), (0, 3, 3, ((-400), 400, [(1000033, 0)])), (0, 4, 4, ck_one 0), (226, 9, 9, (0, 400, [(1000001, 0)])), (226, 11, 11, (0, 400, [(1000001, 0)]))])), (.inr (some (.inl (ck_one 1))), 245, ([], [], [(0, 5, 5, ((-398), 400, [(1000033, 2)])), (226, 11, 11, (0, 398, [])), (0, 4, 4, ck_one 2), (0, 3, 3, ((-400), 400, [(1000033, 0)])), (226, 9, 9, (0, 400, [(1000001, 0)]))]))])
set_option maxRecDepth 100000 in
theorem pg_s47_s {X : Int → Int} {LX : Nat} : ck_Ok pg_O X LX 269 pg_s47 := ck_okq (cuts := []) (f := 94) ⟨pg_nmu, ck_E1 (ck_S1 pg_s3_s ck_S0) (ck_E1 (ck_S1 pg_s46_s ck_S0) ck_E0)⟩ (by decide +kernel)
set_option maxRecDepth 100000 in
/-- GlacierMailModel.readCond -/
noncomputable def pg_s48 : ck_Sum := ((11, 0, 0), 245, [.inr (.inr (.inl 226))], ([], [], [(226, 12, 12, ck_one 6), (0, 0, 0, (0, 400, [(30, 0)])), (0, 3, 3, ((-400), 400, [(31, 0)])), (0, 4, 4, ((-400), 400, [(32, 0)])), (0, 5, 5, (1, 400, [(33, 0)])), (226, 9, 9, (0, 400, [(1, 0)])), (226, 15, 15, (0, 400, [(2, 0)]))]), ([(0, 0, 0), (0, 3, 5), (226, 9, 9), (226, 11, 11), (226, 15, 15), (227, 1293, 2092)], []), [(.inr (some (.inl (ck_one 0))), 245, ([], [], [(0, 5, 5, (0, 400, [(1000033, (-1))])), (0, 0, 0, (0, 400, [(1000030, 0)])), (0, 3, 3, (0, 400, [(1000033, (-1))])), (0, 4, 4, (0, 400, [])), (226, 9, 9, (0, 400, [(1000001, 0)]))])), (.inr (some (.inl (ck_one 1))), 245, ([], [], [(0, 5, 5, (1, 400, [(1000033, 0)])), (226, 11, 11, (0, 400, [(1000001, 0)])), (0, 3, 3, (1, 400, [(1000033, 0)])), (0, 4, 4, ck_one 0), (226, 9, 9, (0, 400, [(1000001, 0)])), (0, 0, 0, (1, 400, [(30, 1)])), (226, 15, 15, (1, 400, []))]))])
set_option maxRecDepth 100000 in
theorem pg_s48_s {X : Int → Int} {LX : Nat} : ck_Ok pg_O X LX 275 pg_s48 := ck_okq (cuts := [(9, [some (.inr (.inr (.inl 226)))], ([], [], [(0, 5, 5, (1, 400, [(1000033, 0)])), (226, 11, 11, (0, 400, [(1000001, 0)])), (0, 3, 3, (1, 400, [(1000033, 0)])), (0, 4, 4, ck_one 0), (226, 9, 9, (0, 400, [(1000001, 0)])), (0, 0, 0, (1, 400, [(30, 1)])), (226, 15, 15, (1, 400, [])), (226, 12, 12, ck_one 6)]), 100, .inr (0, 5), true)]) (f := 142) ⟨pg_nmu, ck_E1 (ck_S1 pg_s45_s ck_S0) (ck_E1 (ck_S1 pg_s47_s ck_S0) (ck_E1 (ck_S1 pg_em3_s ck_S0) ck_E0))⟩ (by decide +kernel)
set_option maxRecDepth 100000 in
/-- GlacierMailModel.readAtom -/
noncomputable def pg_s49 : ck_Sum := ((12, 0, 0), 245, [.inr (.inr (.inl 226))], ([], [], [(226, 12, 12, ck_one 5), (0, 0, 0, (0, 400, [(30, 0)])), (0, 3, 3, ((-400), 400, [(31, 0)])), (0, 4, 4, ((-400), 400, [(32, 0)])), (0, 5, 5, (1, 400, [(33, 0)])), (226, 9, 9, (0, 400, [(1, 0)])), (226, 15, 15, (0, 400, [(2, 0)]))]), ([(0, 0, 0), (0, 3, 5), (226, 9, 9), (226, 11, 12), (226, 15, 15), (227, 1293, 2092)], []), [(.inr (some (.inl (ck_one 0))), 245, ([], [], [(0, 5, 5, (0, 400, [(1000033, (-1))])), (0, 0, 0, (0, 400, [(1000030, 0)])), (0, 3, 3, (0, 400, [(1000033, (-1))])), (0, 4, 4, (0, 400, [])), (226, 9, 9, (0, 400, [(1000001, 0)])), (226, 12, 12, (5, 6, []))])), (.inr (some (.inl (ck_one 1))), 245, ([], [], [(0, 0, 0, (1, 400, [(30, 1)])), (0, 3, 3, (0, 400, [(1000033, (-1))])), (0, 5, 5, (1, 400, [(1000033, 0)])), (226, 15, 15, (1, 400, [])), (0, 4, 4, (0, 5, [])), (226, 9, 9, (0, 400, [(1000001, 0)])), (226, 12, 12, ck_one 5)]))])
set_option maxRecDepth 100000 in
theorem pg_s49_s {X : Int → Int} {LX : Nat} : ck_Ok pg_O X LX 277 pg_s49 := ck_okq (cuts := []) (f := 154) ⟨pg_nmu, ck_E1 (ck_S1 pg_s12_s (ck_S1 pg_s14_s (ck_S1 pg_s16_s (ck_S1 pg_s18_s ck_S0)))) (ck_E1 (ck_S1 pg_s20_s (ck_S1 pg_s22_s (ck_S1 pg_s24_s ck_S0))) (ck_E1 (ck_S1 pg_s39_s ck_S0) (ck_E1 (ck_S1 pg_em1_s (ck_S1 pg_em0_s (ck_S1 pg_em2_s ck_S0))) (ck_E1 (ck_S1 pg_s41_s ck_S0) (ck_E1 (ck_S1 pg_s48_s ck_S0) ck_E0)))))⟩ (by decide +kernel)
set_option maxRecDepth 100000 in
/-- GlacierMailModel.readAllOf -/
noncomputable def pg_s50 : ck_Sum := ((13, 0, 0), 245, [.inr (.inr (.inl 226))], ([], [], [(226, 12, 12, ck_one 5), (0, 0, 0, (0, 400, [(30, 0)])), (0, 3, 3, ((-400), 400, [(31, 0)])), (0, 4, 4, ((-400), 400, [(32, 0)])), (0, 5, 5, (1, 400, [(33, 0)])), (226, 9, 9, (0, 400, [(1, 0)])), (226, 15, 15, (0, 400, [(2, 0)]))]), ([(0, 0, 0), (0, 3, 5), (226, 9, 9), (226, 11, 12), (226, 15, 15), (227, 1293, 2092)], []), [(.inr (some (.inl (ck_one 0))), 245, ([], [], [(0, 5, 5, (0, 400, [(1000033, (-1))])), (0, 0, 0, (0, 400, [(1000030, 0)])), (0, 3, 3, (0, 400, [(1000033, (-1))])), (0, 4, 4, (0, 400, [])), (226, 9, 9, (0, 400, [(1000001, 0)])), (226, 12, 12, (5, 6, []))])), (.inr (some (.inl (ck_one 1))), 245, ([], [], [(0, 5, 5, (1, 400, [(1000033, 0)])), (226, 11, 11, (0, 400, [(1000001, 0)])), (0, 3, 3, (1, 400, [(1000033, 0)])), (0, 4, 4, ck_one 0), (226, 9, 9, (0, 400, [(1000001, 0)])), (0, 0, 0, (1, 400, [(30, 1)])), (226, 15, 15, (1, 400, [])), (226, 12, 12, ck_one 5)]))])
set_option maxRecDepth 100000 in
theorem pg_s50_s {X : Int → Int} {LX : Nat} : ck_Ok pg_O X LX 276 pg_s50 := ck_okq (cuts := [(9, [some (.inr (.inr (.inl 226)))], ([], [], [(0, 5, 5, (1, 400, [(1000033, 0)])), (226, 11, 11, (0, 400, [])), (0, 0, 0, (1, 400, [(30, 1)])), (0, 3, 3, (0, 400, [(1000033, (-1))])), (226, 15, 15, (1, 400, [])), (0, 4, 4, (0, 5, [])), (226, 9, 9, (0, 400, [(1000001, 0)])), (226, 12, 12, ck_one 5)]), 100, .inr (0, 5), true)]) (f := 142) ⟨pg_nmu, ck_E1 (ck_S1 pg_s49_s ck_S0) (ck_E1 (ck_S1 pg_s43_s ck_S0) (ck_E1 (ck_S1 pg_em3_s ck_S0) ck_E0))⟩ (by decide +kernel)
set_option maxRecDepth 100000 in
/-- GlacierMailModel.readCond -/
noncomputable def pg_s51 : ck_Sum := ((14, 0, 0), 245, [.inr (.inr (.inl 226))], ([], [], [(226, 12, 12, ck_one 5), (0, 0, 0, (0, 400, [(30, 0)])), (0, 3, 3, ((-400), 400, [(31, 0)])), (0, 4, 4, ((-400), 400, [(32, 0)])), (0, 5, 5, (1, 400, [(33, 0)])), (226, 9, 9, (0, 400, [(1, 0)])), (226, 15, 15, (0, 400, [(2, 0)]))]), ([(0, 0, 0), (0, 3, 5), (226, 9, 9), (226, 11, 12), (226, 15, 15), (227, 1293, 2092)], []), [(.inr (some (.inl (ck_one 0))), 245, ([], [], [(0, 5, 5, (0, 400, [(1000033, (-1))])), (0, 0, 0, (0, 400, [(1000030, 0)])), (0, 3, 3, (0, 400, [(1000033, (-1))])), (0, 4, 4, (0, 400, [])), (226, 9, 9, (0, 400, [(1000001, 0)])), (226, 12, 12, (5, 6, []))])), (.inr (some (.inl (ck_one 1))), 245, ([], [], [(0, 5, 5, (1, 400, [(1000033, 0)])), (226, 11, 11, (0, 400, [(1000001, 0)])), (0, 3, 3, (1, 400, [(1000033, 0)])), (0, 4, 4, ck_one 0), (226, 9, 9, (0, 400, [(1000001, 0)])), (0, 0, 0, (1, 400, [(30, 1)])), (226, 15, 15, (1, 400, [])), (226, 12, 12, ck_one 5)]))])
set_option maxRecDepth 100000 in
theorem pg_s51_s {X : Int → Int} {LX : Nat} : ck_Ok pg_O X LX 275 pg_s51 := ck_okq (cuts := [(9, [some (.inr (.inr (.inl 226)))], ([], [], [(0, 5, 5, (1, 400, [(1000033, 0)])), (226, 11, 11, (0, 400, [(1000001, 0)])), (0, 3, 3, (1, 400, [(1000033, 0)])), (0, 4, 4, ck_one 0), (226, 9, 9, (0, 400, [(1000001, 0)])), (0, 0, 0, (1, 400, [(30, 1)])), (226, 15, 15, (1, 400, [])), (226, 12, 12, ck_one 5)]), 100, .inr (0, 5), true)]) (f := 142) ⟨pg_nmu, ck_E1 (ck_S1 pg_s50_s ck_S0) (ck_E1 (ck_S1 pg_s47_s ck_S0) (ck_E1 (ck_S1 pg_em3_s ck_S0) ck_E0))⟩ (by decide +kernel)
set_option maxRecDepth 100000 in
/-- GlacierMailModel.readAtom -/
noncomputable def pg_s52 : ck_Sum := ((15, 0, 0), 245, [.inr (.inr (.inl 226))], ([], [], [(226, 12, 12, ck_one 4), (0, 0, 0, (0, 400, [(30, 0)])), (0, 3, 3, ((-400), 400, [(31, 0)])), (0, 4, 4, ((-400), 400, [(32, 0)])), (0, 5, 5, (1, 400, [(33, 0)])), (226, 9, 9, (0, 400, [(1, 0)])), (226, 15, 15, (0, 400, [(2, 0)]))]), ([(0, 0, 0), (0, 3, 5), (226, 9, 9), (226, 11, 12), (226, 15, 15), (227, 1293, 2092)], []), [(.inr (some (.inl (ck_one 0))), 245, ([], [], [(0, 5, 5, (0, 400, [(1000033, (-1))])), (0, 0, 0, (0, 400, [(1000030, 0)])), (0, 3, 3, (0, 400, [(1000033, (-1))])), (0, 4, 4, (0, 400, [])), (226, 9, 9, (0, 400, [(1000001, 0)])), (226, 12, 12, (4, 6, []))])), (.inr (some (.inl (ck_one 1))), 245, ([], [], [(0, 0, 0, (1, 400, [(30, 1)])), (0, 3, 3, (0, 400, [(1000033, (-1))])), (0, 5, 5, (1, 400, [(1000033, 0)])), (226, 15, 15, (1, 400, [])), (0, 4, 4, (0, 5, [])), (226, 9, 9, (0, 400, [(1000001, 0)])), (226, 12, 12, ck_one 4)]))])
set_option maxRecDepth 100000 in
theorem pg_s52_s {X : Int → Int} {LX : Nat} : ck_Ok pg_O X LX 277 pg_s52 := ck_okq (cuts := []) (f := 154) ⟨pg_nmu, ck_E1 (ck_S1 pg_s12_s (ck_S1 pg_s14_s (ck_S1 pg_s16_s (ck_S1 pg_s18_s ck_S0)))) (ck_E1 (ck_S1 pg_s20_s (ck_S1 pg_s22_s (ck_S1 pg_s24_s ck_S0))) (ck_E1 (ck_S1 pg_s39_s ck_S0) (ck_E1 (ck_S1 pg_em1_s (ck_S1 pg_em0_s (ck_S1 pg_em2_s ck_S0))) (ck_E1 (ck_S1 pg_s49_s ck_S0) (ck_E1 (ck_S1 pg_s51_s ck_S0) ck_E0)))))⟩ (by decide +kernel)
set_option maxRecDepth 100000 in
/-- GlacierMailModel.readAllOf -/
noncomputable def pg_s53 : ck_Sum := ((16, 0, 0), 245, [.inr (.inr (.inl 226))], ([], [], [(226, 12, 12, ck_one 4), (0, 0, 0, (0, 400, [(30, 0)])), (0, 3, 3, ((-400), 400, [(31, 0)])), (0, 4, 4, ((-400), 400, [(32, 0)])), (0, 5, 5, (1, 400, [(33, 0)])), (226, 9, 9, (0, 400, [(1, 0)])), (226, 15, 15, (0, 400, [(2, 0)]))]), ([(0, 0, 0), (0, 3, 5), (226, 9, 9), (226, 11, 12), (226, 15, 15), (227, 1293, 2092)], []), [(.inr (some (.inl (ck_one 0))), 245, ([], [], [(0, 5, 5, (0, 400, [(1000033, (-1))])), (0, 0, 0, (0, 400, [(1000030, 0)])), (0, 3, 3, (0, 400, [(1000033, (-1))])), (0, 4, 4, (0, 400, [])), (226, 9, 9, (0, 400, [(1000001, 0)])), (226, 12, 12, (4, 6, []))])), (.inr (some (.inl (ck_one 1))), 245, ([], [], [(0, 5, 5, (1, 400, [(1000033, 0)])), (226, 11, 11, (0, 400, [(1000001, 0)])), (0, 3, 3, (1, 400, [(1000033, 0)])), (0, 4, 4, ck_one 0), (226, 9, 9, (0, 400, [(1000001, 0)])), (0, 0, 0, (1, 400, [(30, 1)])), (226, 15, 15, (1, 400, [])), (226, 12, 12, ck_one 4)]))])
set_option maxRecDepth 100000 in
theorem pg_s53_s {X : Int → Int} {LX : Nat} : ck_Ok pg_O X LX 276 pg_s53 := ck_okq (cuts := [(9, [some (.inr (.inr (.inl 226)))], ([], [], [(0, 5, 5, (1, 400, [(1000033, 0)])), (226, 11, 11, (0, 400, [])), (0, 0, 0, (1, 400, [(30, 1)])), (0, 3, 3, (0, 400, [(1000033, (-1))])), (226, 15, 15, (1, 400, [])), (0, 4, 4, (0, 5, [])), (226, 9, 9, (0, 400, [(1000001, 0)])), (226, 12, 12, ck_one 4)]), 100, .inr (0, 5), true)]) (f := 142) ⟨pg_nmu, ck_E1 (ck_S1 pg_s52_s ck_S0) (ck_E1 (ck_S1 pg_s43_s ck_S0) (ck_E1 (ck_S1 pg_em3_s ck_S0) ck_E0))⟩ (by decide +kernel)
set_option maxRecDepth 100000 in
/-- GlacierMailModel.readCond -/
noncomputable def pg_s54 : ck_Sum := ((17, 0, 0), 245, [.inr (.inr (.inl 226))], ([], [], [(226, 12, 12, ck_one 4), (0, 0, 0, (0, 400, [(30, 0)])), (0, 3, 3, ((-400), 400, [(31, 0)])), (0, 4, 4, ((-400), 400, [(32, 0)])), (0, 5, 5, (1, 400, [(33, 0)])), (226, 9, 9, (0, 400, [(1, 0)])), (226, 15, 15, (0, 400, [(2, 0)]))]), ([(0, 0, 0), (0, 3, 5), (226, 9, 9), (226, 11, 12), (226, 15, 15), (227, 1293, 2092)], []), [(.inr (some (.inl (ck_one 0))), 245, ([], [], [(0, 5, 5, (0, 400, [(1000033, (-1))])), (0, 0, 0, (0, 400, [(1000030, 0)])), (0, 3, 3, (0, 400, [(1000033, (-1))])), (0, 4, 4, (0, 400, [])), (226, 9, 9, (0, 400, [(1000001, 0)])), (226, 12, 12, (4, 6, []))])), (.inr (some (.inl (ck_one 1))), 245, ([], [], [(0, 5, 5, (1, 400, [(1000033, 0)])), (226, 11, 11, (0, 400, [(1000001, 0)])), (0, 3, 3, (1, 400, [(1000033, 0)])), (0, 4, 4, ck_one 0), (226, 9, 9, (0, 400, [(1000001, 0)])), (0, 0, 0, (1, 400, [(30, 1)])), (226, 15, 15, (1, 400, [])), (226, 12, 12, ck_one 4)]))])
set_option maxRecDepth 100000 in
theorem pg_s54_s {X : Int → Int} {LX : Nat} : ck_Ok pg_O X LX 275 pg_s54 := ck_okq (cuts := [(9, [some (.inr (.inr (.inl 226)))], ([], [], [(0, 5, 5, (1, 400, [(1000033, 0)])), (226, 11, 11, (0, 400, [(1000001, 0)])), (0, 3, 3, (1, 400, [(1000033, 0)])), (0, 4, 4, ck_one 0), (226, 9, 9, (0, 400, [(1000001, 0)])), (0, 0, 0, (1, 400, [(30, 1)])), (226, 15, 15, (1, 400, [])), (226, 12, 12, ck_one 4)]), 100, .inr (0, 5), true)]) (f := 142) ⟨pg_nmu, ck_E1 (ck_S1 pg_s53_s ck_S0) (ck_E1 (ck_S1 pg_s47_s ck_S0) (ck_E1 (ck_S1 pg_em3_s ck_S0) ck_E0))⟩ (by decide +kernel)
set_option maxRecDepth 100000 in
/-- GlacierMailModel.readAtom -/
noncomputable def pg_s55 : ck_Sum := ((18, 0, 0), 245, [.inr (.inr (.inl 226))], ([], [], [(226, 12, 12, ck_one 3), (0, 0, 0, (0, 400, [(30, 0)])), (0, 3, 3, ((-400), 400, [(31, 0)])), (0, 4, 4, ((-400), 400, [(32, 0)])), (0, 5, 5, (1, 400, [(33, 0)])), (226, 9, 9, (0, 400, [(1, 0)])), (226, 15, 15, (0, 400, [(2, 0)]))]), ([(0, 0, 0), (0, 3, 5), (226, 9, 9), (226, 11, 12), (226, 15, 15), (227, 1293, 2092)], []), [(.inr (some (.inl (ck_one 0))), 245, ([], [], [(0, 5, 5, (0, 400, [(1000033, (-1))])), (0, 0, 0, (0, 400, [(1000030, 0)])), (0, 3, 3, (0, 400, [(1000033, (-1))])), (0, 4, 4, (0, 400, [])), (226, 9, 9, (0, 400, [(1000001, 0)])), (226, 12, 12, (3, 6, []))])), (.inr (some (.inl (ck_one 1))), 245, ([], [], [(0, 0, 0, (1, 400, [(30, 1)])), (0, 3, 3, (0, 400, [(1000033, (-1))])), (0, 5, 5, (1, 400, [(1000033, 0)])), (226, 15, 15, (1, 400, [])), (0, 4, 4, (0, 5, [])), (226, 9, 9, (0, 400, [(1000001, 0)])), (226, 12, 12, ck_one 3)]))])
set_option maxRecDepth 100000 in
theorem pg_s55_s {X : Int → Int} {LX : Nat} : ck_Ok pg_O X LX 277 pg_s55 := ck_okq (cuts := []) (f := 154) ⟨pg_nmu, ck_E1 (ck_S1 pg_s12_s (ck_S1 pg_s14_s (ck_S1 pg_s16_s (ck_S1 pg_s18_s ck_S0)))) (ck_E1 (ck_S1 pg_s20_s (ck_S1 pg_s22_s (ck_S1 pg_s24_s ck_S0))) (ck_E1 (ck_S1 pg_s39_s ck_S0) (ck_E1 (ck_S1 pg_em1_s (ck_S1 pg_em0_s (ck_S1 pg_em2_s ck_S0))) (ck_E1 (ck_S1 pg_s52_s ck_S0) (ck_E1 (ck_S1 pg_s54_s ck_S0) ck_E0)))))⟩ (by decide +kernel)
set_option maxRecDepth 100000 in
/-- GlacierMailModel.readAllOf -/
noncomputable def pg_s56 : ck_Sum := ((19, 0, 0), 245, [.inr (.inr (.inl 226))], ([], [], [(226, 12, 12, ck_one 3), (0, 0, 0, (0, 400, [(30, 0)])), (0, 3, 3, ((-400), 400, [(31, 0)])), (0, 4, 4, ((-400), 400, [(32, 0)])), (0, 5, 5, (1, 400, [(33, 0)])), (226, 9, 9, (0, 400, [(1, 0)])), (226, 15, 15, (0, 400, [(2, 0)]))]), ([(0, 0, 0), (0, 3, 5), (226, 9, 9), (226, 11, 12), (226, 15, 15), (227, 1293, 2092)], []), [(.inr (some (.inl (ck_one 0))), 245, ([], [], [(0, 5, 5, (0, 400, [(1000033, (-1))])), (0, 0, 0, (0, 400, [(1000030, 0)])), (0, 3, 3, (0, 400, [(1000033, (-1))])), (0, 4, 4, (0, 400, [])), (226, 9, 9, (0, 400, [(1000001, 0)])), (226, 12, 12, (3, 6, []))])), (.inr (some (.inl (ck_one 1))), 245, ([], [], [(0, 5, 5, (1, 400, [(1000033, 0)])), (226, 11, 11, (0, 400, [(1000001, 0)])), (0, 3, 3, (1, 400, [(1000033, 0)])), (0, 4, 4, ck_one 0), (226, 9, 9, (0, 400, [(1000001, 0)])), (0, 0, 0, (1, 400, [(30, 1)])), (226, 15, 15, (1, 400, [])), (226, 12, 12, ck_one 3)]))])
set_option maxRecDepth 100000 in
theorem pg_s56_s {X : Int → Int} {LX : Nat} : ck_Ok pg_O X LX 276 pg_s56 := ck_okq (cuts := [(9, [some (.inr (.inr (.inl 226)))], ([], [], [(0, 5, 5, (1, 400, [(1000033, 0)])), (226, 11, 11, (0, 400, [])), (0, 0, 0, (1, 400, [(30, 1)])), (0, 3, 3, (0, 400, [(1000033, (-1))])), (226, 15, 15, (1, 400, [])), (0, 4, 4, (0, 5, [])), (226, 9, 9, (0, 400, [(1000001, 0)])), (226, 12, 12, ck_one 3)]), 100, .inr (0, 5), true)]) (f := 142) ⟨pg_nmu, ck_E1 (ck_S1 pg_s55_s ck_S0) (ck_E1 (ck_S1 pg_s43_s ck_S0) (ck_E1 (ck_S1 pg_em3_s ck_S0) ck_E0))⟩ (by decide +kernel)
set_option maxRecDepth 100000 in
/-- GlacierMailModel.readCond -/
noncomputable def pg_s57 : ck_Sum := ((20, 0, 0), 245, [.inr (.inr (.inl 226))], ([], [], [(226, 12, 12, ck_one 3), (0, 0, 0, (0, 400, [(30, 0)])), (0, 3, 3, ((-400), 400, [(31, 0)])), (0, 4, 4, ((-400), 400, [(32, 0)])), (0, 5, 5, (1, 400, [(33, 0)])), (226, 9, 9, (0, 400, [(1, 0)])), (226, 15, 15, (0, 400, [(2, 0)]))]), ([(0, 0, 0), (0, 3, 5), (226, 9, 9), (226, 11, 12), (226, 15, 15), (227, 1293, 2092)], []), [(.inr (some (.inl (ck_one 0))), 245, ([], [], [(0, 5, 5, (0, 400, [(1000033, (-1))])), (0, 0, 0, (0, 400, [(1000030, 0)])), (0, 3, 3, (0, 400, [(1000033, (-1))])), (0, 4, 4, (0, 400, [])), (226, 9, 9, (0, 400, [(1000001, 0)])), (226, 12, 12, (3, 6, []))])), (.inr (some (.inl (ck_one 1))), 245, ([], [], [(0, 5, 5, (1, 400, [(1000033, 0)])), (226, 11, 11, (0, 400, [(1000001, 0)])), (0, 3, 3, (1, 400, [(1000033, 0)])), (0, 4, 4, ck_one 0), (226, 9, 9, (0, 400, [(1000001, 0)])), (0, 0, 0, (1, 400, [(30, 1)])), (226, 15, 15, (1, 400, [])), (226, 12, 12, ck_one 3)]))])
set_option maxRecDepth 100000 in
theorem pg_s57_s {X : Int → Int} {LX : Nat} : ck_Ok pg_O X LX 275 pg_s57 := ck_okq (cuts := [(9, [some (.inr (.inr (.inl 226)))], ([], [], [(0, 5, 5, (1, 400, [(1000033, 0)])), (226, 11, 11, (0, 400, [(1000001, 0)])), (0, 3, 3, (1, 400, [(1000033, 0)])), (0, 4, 4, ck_one 0), (226, 9, 9, (0, 400, [(1000001, 0)])), (0, 0, 0, (1, 400, [(30, 1)])), (226, 15, 15, (1, 400, [])), (226, 12, 12, ck_one 3)]), 100, .inr (0, 5), true)]) (f := 142) ⟨pg_nmu, ck_E1 (ck_S1 pg_s56_s ck_S0) (ck_E1 (ck_S1 pg_s47_s ck_S0) (ck_E1 (ck_S1 pg_em3_s ck_S0) ck_E0))⟩ (by decide +kernel)
set_option maxRecDepth 100000 in
/-- GlacierMailModel.readAtom -/
noncomputable def pg_s58 : ck_Sum := ((21, 0, 0), 245, [.inr (.inr (.inl 226))], ([], [], [(226, 12, 12, ck_one 2), (0, 0, 0, (0, 400, [(30, 0)])), (0, 3, 3, ((-400), 400, [(31, 0)])), (0, 4, 4, ((-400), 400, [(32, 0)])), (0, 5, 5, (1, 400, [(33, 0)])), (226, 9, 9, (0, 400, [(1, 0)])), (226, 15, 15, (0, 400, [(2, 0)]))]), ([(0, 0, 0), (0, 3, 5), (226, 9, 9), (226, 11, 12), (226, 15, 15), (227, 1293, 2092)], []), [(.inr (some (.inl (ck_one 0))), 245, ([], [], [(0, 5, 5, (0, 400, [(1000033, (-1))])), (0, 0, 0, (0, 400, [(1000030, 0)])), (0, 3, 3, (0, 400, [(1000033, (-1))])), (0, 4, 4, (0, 400, [])), (226, 9, 9, (0, 400, [(1000001, 0)])), (226, 12, 12, (2, 6, []))])), (.inr (some (.inl (ck_one 1))), 245, ([], [], [(0, 0, 0, (1, 400, [(30, 1)])), (0, 3, 3, (0, 400, [(1000033, (-1))])), (0, 5, 5, (1, 400, [(1000033, 0)])), (226, 15, 15, (1, 400, [])), (0, 4, 4, (0, 5, [])), (226, 9, 9, (0, 400, [(1000001, 0)])), (226, 12, 12, ck_one 2)]))])
set_option maxRecDepth 100000 in
theorem pg_s58_s {X : Int → Int} {LX : Nat} : ck_Ok pg_O X LX 277 pg_s58 := ck_okq (cuts := []) (f := 154) ⟨pg_nmu, ck_E1 (ck_S1 pg_s12_s (ck_S1 pg_s14_s (ck_S1 pg_s16_s (ck_S1 pg_s18_s ck_S0)))) (ck_E1 (ck_S1 pg_s20_s (ck_S1 pg_s22_s (ck_S1 pg_s24_s ck_S0))) (ck_E1 (ck_S1 pg_s39_s ck_S0) (ck_E1 (ck_S1 pg_em1_s (ck_S1 pg_em0_s (ck_S1 pg_em2_s ck_S0))) (ck_E1 (ck_S1 pg_s55_s ck_S0) (ck_E1 (ck_S1 pg_s57_s ck_S0) ck_E0)))))⟩ (by decide +kernel)
set_option maxRecDepth 100000 in
/-- GlacierMailModel.readAllOf -/
noncomputable def pg_s59 : ck_Sum := ((22, 0, 0), 245, [.inr (.inr (.inl 226))], ([], [], [(226, 12, 12, ck_one 2), (0, 0, 0, (0, 400, [(30, 0)])), (0, 3, 3, ((-400), 400, [(31, 0)])), (0, 4, 4, ((-400), 400, [(32, 0)])), (0, 5, 5, (1, 400, [(33, 0)])), (226, 9, 9, (0, 400, [(1, 0)])), (226, 15, 15, (0, 400, [(2, 0)]))]), ([(0, 0, 0), (0, 3, 5), (226, 9, 9), (226, 11, 12), (226, 15, 15), (227, 1293, 2092)], []), [(.inr (some (.inl (ck_one 0))), 245, ([], [], [(0, 5, 5, (0, 400, [(1000033, (-1))])), (0, 0, 0, (0, 400, [(1000030, 0)])), (0, 3, 3, (0, 400, [(1000033, (-1))])), (0, 4, 4, (0, 400, [])), (226, 9, 9, (0, 400, [(1000001, 0)])), (226, 12, 12, (2, 6, []))])), (.inr (some (.inl (ck_one 1))), 245, ([], [], [(0, 5, 5, (1, 400, [(1000033, 0)])), (226, 11, 11, (0, 400, [(1000001, 0)])), (0, 3, 3, (1, 400, [(1000033, 0)])), (0, 4, 4, ck_one 0), (226, 9, 9, (0, 400, [(1000001, 0)])), (0, 0, 0, (1, 400, [(30, 1)])), (226, 15, 15, (1, 400, [])), (226, 12, 12, ck_one 2)]))])
set_option maxRecDepth 100000 in
theorem pg_s59_s {X : Int → Int} {LX : Nat} : ck_Ok pg_O X LX 276 pg_s59 := ck_okq (cuts := [(9, [some (.inr (.inr (.inl 226)))], ([], [], [(0, 5, 5, (1, 400, [(1000033, 0)])), (226, 11, 11, (0, 400, [])), (0, 0, 0, (1, 400, [(30, 1)])), (0, 3, 3, (0, 400, [(1000033, (-1))])), (226, 15, 15, (1, 400, [])), (0, 4, 4, (0, 5, [])), (226, 9, 9, (0, 400, [(1000001, 0)])), (226, 12, 12, ck_one 2)]), 100, .inr (0, 5), true)]) (f := 142) ⟨pg_nmu, ck_E1 (ck_S1 pg_s58_s ck_S0) (ck_E1 (ck_S1 pg_s43_s ck_S0) (ck_E1 (ck_S1 pg_em3_s ck_S0) ck_E0))⟩ (by decide +kernel)
set_option maxRecDepth 100000 in
/-- GlacierMailModel.readCond -/
noncomputable def pg_s60 : ck_Sum := ((23, 0, 0), 245, [.inr (.inr (.inl 226))], ([], [], [(226, 12, 12, ck_one 2), (0, 0, 0, (0, 400, [(30, 0)])), (0, 3, 3, ((-400), 400, [(31, 0)])), (0, 4, 4, ((-400), 400, [(32, 0)])), (0, 5, 5, (1, 400, [(33, 0)])), (226, 9, 9, (0, 400, [(1, 0)])), (226, 15, 15, (0, 400, [(2, 0)]))]), ([(0, 0, 0), (0, 3, 5), (226, 9, 9), (226, 11, 12), (226, 15, 15), (227, 1293, 2092)], []), [(.inr (some (.inl (ck_one 0))), 245, ([], [], [(0, 5, 5, (0, 400, [(1000033, (-1))])), (0, 0, 0, (0, 400, [(1000030, 0)])), (0, 3, 3, (0, 400, [(1000033, (-1))])), (0, 4, 4, (0, 400, [])), (226, 9, 9, (0, 400, [(1000001, 0)])), (226, 12, 12, (2, 6, []))])), (.inr (some (.inl (ck_one 1))), 245, ([], [], [(0, 5, 5, (1, 400, [(1000033, 0)])), (226, 11, 11, (0, 400, [(1000001, 0)])), (0, 3, 3, (1, 400, [(1000033, 0)])), (0, 4, 4, ck_one 0), (226, 9, 9, (0, 400, [(1000001, 0)])), (0, 0, 0, (1, 400, [(30, 1)])), (226, 15, 15, (1, 400, [])), (226, 12, 12, ck_one 2)]))])
set_option maxRecDepth 100000 in
theorem pg_s60_s {X : Int → Int} {LX : Nat} : ck_Ok pg_O X LX 275 pg_s60 := ck_okq (cuts := [(9, [some (.inr (.inr (.inl 226)))], ([], [], [(0, 5, 5, (1, 400, [(1000033, 0)])), (226, 11, 11, (0, 400, [(1000001, 0)])), (0, 3, 3, (1, 400, [(1000033, 0)])), (0, 4, 4, ck_one 0), (226, 9, 9, (0, 400, [(1000001, 0)])), (0, 0, 0, (1, 400, [(30, 1)])), (226, 15, 15, (1, 400, [])), (226, 12, 12, ck_one 2)]), 100, .inr (0, 5), true)]) (f := 142) ⟨pg_nmu, ck_E1 (ck_S1 pg_s59_s ck_S0) (ck_E1 (ck_S1 pg_s47_s ck_S0) (ck_E1 (ck_S1 pg_em3_s ck_S0) ck_E0))⟩ (by decide +kernel)
set_option maxRecDepth 100000 in
/-- GlacierMailModel.readAtom -/
noncomputable def pg_s61 : ck_Sum := ((24, 0, 0), 245, [.inr (.inr (.inl 226))], ([], [], [(226, 12, 12, ck_one 1), (0, 0, 0, (0, 400, [(30, 0)])), (0, 3, 3, ((-400), 400, [(31, 0)])), (0, 4, 4, ((-400), 400, [(32, 0)])), (0, 5, 5, (1, 400, [(33, 0)])), (226, 9, 9, (0, 400, [(1, 0)])), (226, 15, 15, (0, 400, [(2, 0)]))]), ([(0, 0, 0), (0, 3, 5), (226, 9, 9), (226, 11, 12), (226, 15, 15), (227, 1293, 2092)], []), [(.inr (some (.inl (ck_one 0))), 245, ([], [], [(0, 5, 5, (0, 400, [(1000033, (-1))])), (0, 0, 0, (0, 400, [(1000030, 0)])), (0, 3, 3, (0, 400, [(1000033, (-1))])), (0, 4, 4, (0, 400, [])), (226, 9, 9, (0, 400, [(1000001, 0)])), (226, 12, 12, (1, 6, []))])), (.inr (some (.inl (ck_one 1))), 245, ([], [], [(0, 0, 0, (1, 400, [(30, 1)])), (0, 3, 3, (0, 400, [(1000033, (-1))])), (0, 5, 5, (1, 400, [(1000033, 0)])), (226, 15, 15, (1, 400, [])), (0, 4, 4, (0, 5, [])), (226, 9, 9, (0, 400, [(1000001, 0)])), (226, 12, 12, ck_one 1)]))])
set_option maxRecDepth 100000 in
theorem pg_s61_s {X : Int → Int} {LX : Nat} : ck_Ok pg_O X LX 277 pg_s61 := ck_okq (cuts := []) (f := 154) ⟨pg_nmu, ck_E1 (ck_S1 pg_s12_s (ck_S1 pg_s14_s (ck_S1 pg_s16_s (ck_S1 pg_s18_s ck_S0)))) (ck_E1 (ck_S1 pg_s20_s (ck_S1 pg_s22_s (ck_S1 pg_s24_s ck_S0))) (ck_E1 (ck_S1 pg_s39_s ck_S0) (ck_E1 (ck_S1 pg_em1_s (ck_S1 pg_em0_s (ck_S1 pg_em2_s ck_S0))) (ck_E1 (ck_S1 pg_s58_s ck_S0) (ck_E1 (ck_S1 pg_s60_s ck_S0) ck_E0)))))⟩ (by decide +kernel)
set_option maxRecDepth 100000 in
/-- GlacierMailModel.readAllOf -/
noncomputable def pg_s62 : ck_Sum := ((25, 0, 0), 245, [.inr (.inr (.inl 226))], ([], [], [(226, 12, 12, ck_one 1), (0, 0, 0, (0, 400, [(30, 0)])), (0, 3, 3, ((-400), 400, [(31, 0)])), (0, 4, 4, ((-400), 400, [(32, 0)])), (0, 5, 5, (1, 400, [(33, 0)])), (226, 9, 9, (0, 400, [(1, 0)])), (226, 15, 15, (0, 400, [(2, 0)]))]), ([(0, 0, 0), (0, 3, 5), (226, 9, 9), (226, 11, 12), (226, 15, 15), (227, 1293, 2092)], []), [(.inr (some (.inl (ck_one 0))), 245, ([], [], [(0, 5, 5, (0, 400, [(1000033, (-1))])), (0, 0, 0, (0, 400, [(1000030, 0)])), (0, 3, 3, (0, 400, [(1000033, (-1))])), (0, 4, 4, (0, 400, [])), (226, 9, 9, (0, 400, [(1000001, 0)])), (226, 12, 12, (1, 6, []))])), (.inr (some (.inl (ck_one 1))), 245, ([], [], [(0, 5, 5, (1, 400, [(1000033, 0)])), (226, 11, 11, (0, 400, [(1000001, 0)])), (0, 3, 3, (1, 400, [(1000033, 0)])), (0, 4, 4, ck_one 0), (226, 9, 9, (0, 400, [(1000001, 0)])), (0, 0, 0, (1, 400, [(30, 1)])), (226, 15, 15, (1, 400, [])), (226, 12, 12, ck_one 1)]))])
set_option maxRecDepth 100000 in
theorem pg_s62_s {X : Int → Int} {LX : Nat} : ck_Ok pg_O X LX 276 pg_s62 := ck_okq (cuts := [(9, [some (.inr (.inr (.inl 226)))], ([], [], [(0, 5, 5, (1, 400, [(1000033, 0)])), (226, 11, 11, (0, 400, [])), (0, 0, 0, (1, 400, [(30, 1)])), (0, 3, 3, (0, 400, [(1000033, (-1))])), (226, 15, 15, (1, 400, [])), (0, 4, 4, (0, 5, [])), (226, 9, 9, (0, 400, [(1000001, 0)])), (226, 12, 12, ck_one 1)]), 100, .inr (0, 5), true)]) (f := 142) ⟨pg_nmu, ck_E1 (ck_S1 pg_s61_s ck_S0) (ck_E1 (ck_S1 pg_s43_s ck_S0) (ck_E1 (ck_S1 pg_em3_s ck_S0) ck_E0))⟩ (by decide +kernel)
set_option maxRecDepth 100000 in
/-- GlacierMailModel.readCond -/
noncomputable def pg_s63 : ck_Sum := ((26, 0, 0), 245, [.inr (.inr (.inl 226))], ([], [], [(226, 12, 12, ck_one 1), (0, 0, 0, (0, 400, [(30, 0)])), (0, 3, 3, ((-400), 400, [(31, 0)])), (0, 4, 4, ((-400), 400, [(32, 0)])), (0, 5, 5, (1, 400, [(33, 0)])), (226, 9, 9, (0, 400, [(1, 0)])), (226, 15, 15, (0, 400, [(2, 0)]))]), ([(0, 0, 0), (0, 3, 5), (226, 9, 9), (226, 11, 12), (226, 15, 15), (227, 1293, 2092)], []), [(.inr (some (.inl (ck_one 0))), 245, ([], [], [(0, 5, 5, (0, 400, [(1000033, (-1))])), (0, 0, 0, (0, 400, [(1000030, 0)])), (0, 3, 3, (0, 400, [(1000033, (-1))])), (0, 4, 4, (0, 400, [])), (226, 9, 9, (0, 400, [(1000001, 0)])), (226, 12, 12, (1, 6, []))])), (.inr (some (.inl (ck_one 1))), 245, ([], [], [(0, 5, 5, (1, 400, [(1000033, 0)])), (226, 11, 11, (0, 400, [(1000001, 0)])), (0, 3, 3, (1, 400, [(1000033, 0)])), (0, 4, 4, ck_one 0), (226, 9, 9, (0, 400, [(1000001, 0)])), (0, 0, 0, (1, 400, [(30, 1)])), (226, 15, 15, (1, 400, [])), (226, 12, 12, ck_one 1)]))])
set_option maxRecDepth 100000 in
theorem pg_s63_s {X : Int → Int} {LX : Nat} : ck_Ok pg_O X LX 275 pg_s63 := ck_okq (cuts := [(9, [some (.inr (.inr (.inl 226)))], ([], [], [(0, 5, 5, (1, 400, [(1000033, 0)])), (226, 11, 11, (0, 400, [(1000001, 0)])), (0, 3, 3, (1, 400, [(1000033, 0)])), (0, 4, 4, ck_one 0), (226, 9, 9, (0, 400, [(1000001, 0)])), (0, 0, 0, (1, 400, [(30, 1)])), (226, 15, 15, (1, 400, [])), (226, 12, 12, ck_one 1)]), 100, .inr (0, 5), true)]) (f := 142) ⟨pg_nmu, ck_E1 (ck_S1 pg_s62_s ck_S0) (ck_E1 (ck_S1 pg_s47_s ck_S0) (ck_E1 (ck_S1 pg_em3_s ck_S0) ck_E0))⟩ (by decide +kernel)
end
/-! 73a01.pg -/
section
/-! THE REFERENCE'S law(): its readers, with counted cells (laid by wip/am/g8.py). -/
set_option maxRecDepth 100000 in
/-- GlacierMailModel.readAtom -/
noncomputable def pg_s64 : ck_Sum := ((27, 0, 0), 245, [.inr (.inr (.inl 226))], ([], [], [(226, 12, 12, ck_one 0), (0, 0, 0, (0, 400, [(30, 0)])), (0, 3, 3, ((-400), 400, [(31, 0)])), (0, 4, 4, ((-400), 400, [(32, 0)])), (0, 5, 5, (1, 400, [(33, 0)])), (226, 9, 9, (0, 400, [(1, 0)])), (226, 15, 15, (0, 400, [(2, 0)]))]), ([(0, 0, 0), (0, 3, 5), (226, 9, 9), (226, 11, 12), (226, 15, 15), (227, 1293, 2092)], []), [(.inr (some (.inl (ck_one 0))), 245, ([], [], [(0, 5, 5, (0, 400, [(1000033, (-1))])), (0, 0, 0, (0, 400, [(1000030, 0)])), (0, 3, 3, (0, 400, [(1000033, (-1))])), (0, 4, 4, (0, 400, [])), (226, 9, 9, (0, 400, [(1000001, 0)]))])), (.inr (some (.inl (ck_one 1))), 245, ([], [], [(0, 0, 0, (1, 400, [(30, 1)])), (0, 3, 3, (0, 400, [(1000033, (-1))])), (0, 5, 5, (1, 400, [(1000033, 0)])), (226, 15, 15, (1, 400, [])), (0, 4, 4, (0, 5, [])), (226, 9, 9, (0, 400, [(1000001, 0)])), (226, 12, 12, ck_one 0)]))])
set_option maxRecDepth 100000 in
theorem pg_s64_s {X : Int → Int} {LX : Nat} : ck_Ok pg_O X LX 277 pg_s64 := ck_okq (cuts := []) (f := 154) ⟨pg_nmu, ck_E1 (ck_S1 pg_s12_s (ck_S1 pg_s14_s (ck_S1 pg_s16_s (ck_S1 pg_s18_s ck_S0)))) (ck_E1 (ck_S1 pg_s20_s (ck_S1 pg_s22_s (ck_S1 pg_s24_s ck_S0))) (ck_E1 (ck_S1 pg_s39_s ck_S0) (ck_E1 (ck_S1 pg_em1_s (ck_S1 pg_em0_s (ck_S1 pg_em2_s ck_S0))) (ck_E1 (ck_S1 pg_s61_s ck_S0) (ck_E1 (ck_S1 pg_s63_s ck_S0) ck_E0)))))⟩ (by decide +kernel)
set_option maxRecDepth 100000 in
/-- GlacierMailModel.readAllOf -/
noncomputable def pg_s65 : ck_Sum := ((28, 0, 0), 245, [.inr (.inr (.inl 226))], ([], [], [(226, 12, 12, ck_one 0), (0, 0, 0, (0, 400, [(30, 0)])), (0, 3, 3, ((-400), 400, [(31, 0)])), (0, 4, 4, ((-400), 400, [(32, 0)])), (0, 5, 5, (1, 400, [(33, 0)])), (226, 9, 9, (0, 400, [(1, 0)])), (226, 15, 15, (0, 400, [(2, 0)]))]), ([(0, 0, 0), (0, 3, 5), (226, 9, 9), (226, 11, 12), (226, 15, 15), (227, 1293, 2092)], []), [(.inr (some (.inl (ck_one 0))), 245, ([], [], [(0, 5, 5, (0, 400, [(1000033, (-1))])), (0, 0, 0, (0, 400, [(1000030, 0)])), (0, 3, 3, (0, 400, [(1000033, (-1))])), (0, 4, 4, (0, 400, [])), (226, 9, 9, (0, 400, [(1000001, 0)]))])), (.inr (some (.inl (ck_one 1))), 245, ([], [], [(0, 5, 5, (1, 400, [(1000033, 0)])), (226, 11, 11, (0, 400, [(1000001, 0)])), (0, 3, 3, (1, 400, [(1000033, 0)])), (0, 4, 4, ck_one 0), (226, 9, 9, (0, 400, [(1000001, 0)])), (0, 0, 0, (1, 400, [(30, 1)])), (226, 15, 15, (1, 400, [])), (226, 12, 12, ck_one 0)]))])
set_option maxRecDepth 100000 in
theorem pg_s65_s {X : Int → Int} {LX : Nat} : ck_Ok pg_O X LX 276 pg_s65 := ck_okq (cuts := [(9, [some (.inr (.inr (.inl 226)))], ([], [], [(0, 5, 5, (1, 400, [(1000033, 0)])), (226, 11, 11, (0, 400, [])), (0, 0, 0, (1, 400, [(30, 1)])), (0, 3, 3, (0, 400, [(1000033, (-1))])), (226, 15, 15, (1, 400, [])), (0, 4, 4, (0, 5, [])), (226, 9, 9, (0, 400, [(1000001, 0)])), (226, 12, 12, ck_one 0)]), 100, .inr (0, 5), true)]) (f := 142) ⟨pg_nmu, ck_E1 (ck_S1 pg_s64_s ck_S0) (ck_E1 (ck_S1 pg_s43_s ck_S0) (ck_E1 (ck_S1 pg_em3_s ck_S0) ck_E0))⟩ (by decide +kernel)
set_option maxRecDepth 100000 in
/-- GlacierMailModel.readCond -/
noncomputable def pg_s66 : ck_Sum := ((29, 0, 0), 245, [.inr (.inr (.inl 226))], ([], [], [(226, 12, 12, ck_one 0), (0, 0, 0, (0, 400, [(30, 0)])), (0, 3, 3, ((-400), 400, [(31, 0)])), (0, 4, 4, ((-400), 400, [(32, 0)])), (0, 5, 5, (1, 400, [(33, 0)])), (226, 9, 9, (0, 400, [(1, 0)])), (226, 15, 15, (0, 400, [(2, 0)]))]), ([(0, 0, 0), (0, 3, 5), (226, 9, 9), (226, 11, 12), (226, 15, 15), (227, 1293, 2092)], []), [(.inr (some (.inl (ck_one 0))), 245, ([], [], [(0, 5, 5, (0, 400, [(1000033, (-1))])), (0, 0, 0, (0, 400, [(1000030, 0)])), (0, 3, 3, (0, 400, [(1000033, (-1))])), (0, 4, 4, (0, 400, [])), (226, 9, 9, (0, 400, [(1000001, 0)]))])), (.inr (some (.inl (ck_one 1))), 245, ([], [], [(0, 5, 5, (1, 400, [(1000033, 0)])), (226, 11, 11, (0, 400, [(1000001, 0)])), (0, 3, 3, (1, 400, [(1000033, 0)])), (0, 4, 4, ck_one 0), (226, 9, 9, (0, 400, [(1000001, 0)])), (0, 0, 0, (1, 400, [(30, 1)])), (226, 15, 15, (1, 400, [])), (226, 12, 12, ck_one 0)]))])
set_option maxRecDepth 100000 in
theorem pg_s66_s {X : Int → Int} {LX : Nat} : ck_Ok pg_O X LX 275 pg_s66 := ck_okq (cuts := [(9, [some (.inr (.inr (.inl 226)))], ([], [], [(0, 5, 5, (1, 400, [(1000033, 0)])), (226, 11, 11, (0, 400, [(1000001, 0)])), (0, 3, 3, (1, 400, [(1000033, 0)])), (0, 4, 4, ck_one 0), (226, 9, 9, (0, 400, [(1000001, 0)])), (0, 0, 0, (1, 400, [(30, 1)])), (226, 15, 15, (1, 400, [])), (226, 12, 12, ck_one 0)]), 100, .inr (0, 5), true)]) (f := 142) ⟨pg_nmu, ck_E1 (ck_S1 pg_s65_s ck_S0) (ck_E1 (ck_S1 pg_s47_s ck_S0) (ck_E1 (ck_S1 pg_em3_s ck_S0) ck_E0))⟩ (by decide +kernel)
set_option maxRecDepth 100000 in
/-- GlacierMailModel.readLawLine -/
noncomputable def pg_s67 : ck_Sum := ((30, 0, 0), 245, [.inr (.inr (.inl 226)), .inl (ck_one 0)], ([], [], [(0, 2, 2, ck_one 0), (0, 0, 0, (0, 400, [(30, 0)])), (0, 3, 3, ((-400), 400, [(31, 0)])), (0, 4, 4, ((-400), 400, [(32, 0)])), (0, 5, 5, (0, 400, [(33, 0)])), (0, 6, 6, (0, 1, [])), (226, 9, 9, (0, 400, [(1, 0)])), (226, 15, 15, (0, 400, [(2, 0)]))]), ([(0, 0, 6), (226, 9, 9), (226, 11, 12), (226, 15, 15), (227, 1245, 1248), (227, 1293, 2092)], []), [(.inr (some (.inl (ck_one 0))), 245, ([], [], [(0, 2, 2, ck_one 0), (0, 0, 0, (0, 400, [])), (0, 3, 3, ((-400), 400, [(1000031, 0)])), (0, 4, 4, ((-400), 400, [])), (0, 5, 5, (0, 400, [(1000033, 0)])), (0, 6, 6, (0, 1, [])), (226, 9, 9, (0, 400, [(1000001, 0)]))])), (.inr (some (.inl (ck_one 1))), 245, ([], [], [(0, 0, 0, ck_one 0), (0, 2, 2, ck_one 1), (0, 6, 6, ck_one 0), (0, 5, 5, (0, 400, [(1000033, 0), (1000031, 4)])), (226, 11, 11, (0, 400, [(1000001, 0)])), (0, 3, 3, (0, 400, [(1000033, 0), (1000031, 4)])), (0, 4, 4, ck_one 0), (226, 9, 9, (0, 400, [(1000001, 0)])), (226, 12, 12, ck_one 0), (227, 1246, 1246, (0, 20, [])), (227, 1245, 1245, (0, 2, []))]))])
noncomputable def pg_s67_E : List (Nat × List ck_Sum) := [(250, [pg_s4, pg_s5, pg_s6]), (256, [pg_s8]), (269, [pg_s10]), (275, [pg_s66])]
set_option maxRecDepth 100000 in
noncomputable def pg_s67_F111 : ck_F := ([], [], [(0, 5, 5, (0, 400, [(1000033, 0), (1000031, 4)])), (226, 11, 11, (0, 399, [])), (227, 1246, 1246, (0, 20, [])), (227, 1245, 1245, (0, 2, [])), (0, 4, 4, (1, 4, [])), (0, 2, 2, ck_one 0), (0, 0, 0, (0, 400, [(30, 0)])), (0, 3, 3, ((-400), 400, [(1000031, 0)])), (0, 6, 6, (0, 1, [])), (226, 9, 9, (0, 400, [(1000001, 0)])), (226, 15, 15, (0, 400, [(2, 0)]))])
noncomputable def pg_s67_C111 : ck_C := (rl_A 0, pg_s67_F111, 0, .inl 2, true)
set_option maxRecDepth 100000 in
noncomputable def pg_s67_F147 : ck_F := ([], [], [(0, 5, 5, (0, 400, [(1000033, 0), (1000031, 4)])), (226, 11, 11, (0, 400, [(1000001, 0)])), (0, 3, 3, (0, 400, [(1000033, 0), (1000031, 4)])), (0, 4, 4, ck_one 0), (226, 9, 9, (0, 400, [(1000001, 0)])), (226, 12, 12, ck_one 0), (0, 0, 0, (0, 1, [])), (0, 6, 6, ck_one 1), (227, 1246, 1246, (0, 20, [])), (227, 1245, 1245, (0, 2, [])), (0, 2, 2, ck_one 0), (226, 15, 15, (0, 400, []))])
noncomputable def pg_s67_C147 : ck_C := (rl_A 0, pg_s67_F147, 0, .inl 2, true)
noncomputable def pg_s67_Z : List (Nat × ck_C) := [(147, pg_s67_C147), (111, pg_s67_C111)]
set_option maxRecDepth 100000 in
theorem pg_s67_a : (decide (pg_s67.2.2.1.length ≤ gm_ml 274) && ck_go pg_O none [] pg_s67_E 274 pg_s67.1.1 pg_s67.2.1 pg_s67.2.2.2.2.1 pg_s67.2.2.2.2.2 pg_s67_Z 416 false [(147, pg_s67_C147, 0, 0, 245), (111, pg_s67_C111, 0, 0, 245)] pg_s67.1.2.1 pg_s67.1.2.2 0 (pg_s67.2.2.1.map some ++ List.replicate (gm_ml 274 - pg_s67.2.2.1.length) none) [] pg_s67.2.1 pg_s67.2.2.2.1) = true := by decide +kernel
set_option maxRecDepth 100000 in
theorem pg_s67_b : ck_go pg_O none [] pg_s67_E 274 pg_s67.1.1 245 pg_s67.2.2.2.2.1 pg_s67.2.2.2.2.2 pg_s67_Z 416 false [(147, pg_s67_C147, 0, 0, 245)] 0 0 123 (rl_A 0) [] 245 (rl_F1 0 pg_s67_F111) = true := by decide +kernel
set_option maxRecDepth 100000 in
theorem pg_s67_c : ck_go pg_O none [] pg_s67_E 274 pg_s67.1.1 245 pg_s67.2.2.2.2.1 pg_s67.2.2.2.2.2 pg_s67_Z 416 false [] 0 0 159 (rl_A 0) [] 245 (rl_F2 0 pg_s67_F147) = true := by decide +kernel
theorem pg_s67_u : ck_cu pg_s67_Z = true := by decide +kernel
theorem pg_s67_h {X : Int → Int} {LX : Nat} : ck_nmu pg_O ∧ ck_OkE pg_O X LX pg_s67_E := ⟨pg_nmu, ck_E1 (ck_S1 pg_s4_s (ck_S1 pg_s5_s (ck_S1 pg_s6_s ck_S0))) (ck_E1 (ck_S1 pg_s8_s ck_S0) (ck_E1 (ck_S1 pg_s10_s ck_S0) (ck_E1 (ck_S1 pg_s66_s ck_S0) ck_E0)))⟩
theorem pg_s67_y147 {X : Int → Int} {LX : Nat} {σ σ0 : Nat → Int} {K0 : gm_K} {R0 : gm_R} {M0 : gm_M} (hσ : ∀ s, s < 100 → σ s = σ0 s) : ck_Hy pg_O X LX 274 pg_s67.1.1 pg_s67.2.2.2.2.1 245 K0 R0 M0 (ck_Q pg_O σ0 pg_s67.2.2.2.2.1 245 K0 R0 M0 pg_s67.2.2.2.2.2) σ (147, pg_s67_C147, 0, 0, 245) := rl_147 pg_s67_u pg_s67_h hσ (by decide) (by decide +kernel) (by decide +kernel) ⟨by decide +kernel, by decide +kernel, by decide +kernel, by decide +kernel, by decide +kernel⟩ pg_s67_c (fun _ h => nomatch h)
theorem pg_s67_y111 {X : Int → Int} {LX : Nat} {σ σ0 : Nat → Int} {K0 : gm_K} {R0 : gm_R} {M0 : gm_M} (hσ : ∀ s, s < 100 → σ s = σ0 s) : ck_Hy pg_O X LX 274 pg_s67.1.1 pg_s67.2.2.2.2.1 245 K0 R0 M0 (ck_Q pg_O σ0 pg_s67.2.2.2.2.1 245 K0 R0 M0 pg_s67.2.2.2.2.2) σ (111, pg_s67_C111, 0, 0, 245) := rl_111 pg_s67_u pg_s67_h hσ (by decide) (by decide +kernel) ⟨by decide +kernel, by decide +kernel, by decide +kernel, by decide +kernel⟩ pg_s67_b (fun h hm => by
  rw [List.mem_singleton.mp hm]
  exact ⟨List.mem_cons_self, pg_s67_y147 hσ⟩)
theorem pg_s67_s {X : Int → Int} {LX : Nat} : ck_Ok pg_O X LX 274 pg_s67 := by
  refine ck_ok_st (cuts := pg_s67_Z) pg_s67_u pg_s67_h pg_s67_a (fun h hm => ?_)
  rcases List.mem_cons.mp hm with rfl | hm
  · exact ⟨List.mem_cons_self, fun σ K0 R0 M0 => pg_s67_y147 (fun _ _ => rfl)⟩
  rw [List.mem_singleton.mp hm]
  exact ⟨List.mem_cons_of_mem _ List.mem_cons_self, fun σ K0 R0 M0 => pg_s67_y111 (fun _ _ => rfl)⟩
set_option maxRecDepth 100000 in
/-- GlacierMailModel.readLine -/
noncomputable def pg_s68 : ck_Sum := ((31, 0, 0), 245, [.inr (.inr (.inl 226)), .inl (ck_one 0), .inl (ck_one 0)], ([], [], [(0, 2, 2, ck_one 0), (0, 0, 0, (0, 400, [(30, 0)])), (0, 3, 3, ((-400), 400, [(31, 0)])), (0, 4, 4, ((-400), 400, [(32, 0)])), (0, 5, 5, (0, 400, [(33, 0)])), (0, 6, 6, (0, 1, [])), (226, 9, 9, (0, 400, [(1, 0)])), (226, 15, 15, (0, 400, [(2, 0)]))]), ([(0, 0, 6), (226, 9, 9), (226, 11, 12), (226, 15, 15), (227, 1245, 1248), (227, 1293, 2092)], []), [(.inr (some (.inl (ck_one 0))), 245, ([], [], [(0, 2, 2, ck_one 0), (0, 0, 0, (0, 400, [])), (0, 3, 3, (0, 400, [(1000033, 0)])), (0, 4, 4, ((-400), 400, [])), (0, 5, 5, (0, 400, [(1000033, 0)])), (0, 6, 6, (0, 1, [])), (226, 9, 9, (0, 400, [(1000001, 0)]))])), (.inr (some (.inl (ck_one 1))), 245, ([], [], [(0, 5, 5, (4, 400, [(1000033, 4)])), (226, 11, 11, (0, 400, [(1000001, 0)])), (0, 0, 0, ck_one 0), (0, 2, 2, ck_one 1), (0, 6, 6, ck_one 0), (0, 3, 3, (4, 400, [(1000033, 4)])), (0, 4, 4, ck_one 0), (226, 9, 9, (0, 400, [(1000001, 0)])), (226, 12, 12, ck_one 0), (227, 1246, 1246, (0, 20, [])), (227, 1245, 1245, (0, 2, []))]))])
set_option maxRecDepth 100000 in
theorem pg_s68_s {X : Int → Int} {LX : Nat} : ck_Ok pg_O X LX 247 pg_s68 := ck_okq (cuts := []) (f := 102) ⟨pg_nmu, ck_E1 (ck_S1 pg_s3_s ck_S0) (ck_E1 (ck_S1 pg_s67_s ck_S0) ck_E0)⟩ (by decide +kernel)
set_option maxRecDepth 100000 in
/-- GlacierMailModel.readLawLine -/
noncomputable def pg_s69 : ck_Sum := ((30, 0, 0), 245, [.inr (.inr (.inl 226)), .inl (ck_one 1)], ([], [], [(0, 2, 2, ck_one 1), (0, 0, 0, (0, 400, [(30, 0)])), (0, 3, 3, ((-400), 400, [(31, 0)])), (0, 4, 4, ((-400), 400, [(32, 0)])), (0, 5, 5, (0, 400, [(33, 0)])), (0, 6, 6, (0, 1, [])), (226, 9, 9, (0, 400, [(1, 0)])), (226, 15, 15, (0, 400, [(2, 0)]))]), ([(0, 0, 6), (226, 9, 9), (226, 11, 12), (226, 15, 15), (227, 1249, 1252), (227, 1293, 2092)], []), [(.inr (some (.inl (ck_one 0))), 245, ([], [], [(0, 2, 2, ck_one 1), (0, 0, 0, (0, 400, [])), (0, 3, 3, ((-400), 400, [(1000031, 0)])), (0, 4, 4, ((-400), 400, [])), (0, 5, 5, (0, 400, [(1000033, 0)])), (0, 6, 6, (0, 1, [])), (226, 9, 9, (0, 400, [(1000001, 0)]))])), (.inr (some (.inl (ck_one 1))), 245, ([], [], [(0, 0, 0, ck_one 0), (0, 2, 2, ck_one 2), (0, 6, 6, ck_one 0), (0, 5, 5, (0, 400, [(1000033, 0), (1000031, 4)])), (226, 11, 11, (0, 400, [(1000001, 0)])), (0, 3, 3, (0, 400, [(1000033, 0), (1000031, 4)])), (0, 4, 4, ck_one 0), (226, 9, 9, (0, 400, [(1000001, 0)])), (226, 12, 12, ck_one 0), (227, 1250, 1250, (0, 20, [])), (227, 1249, 1249, (0, 2, []))]))])
noncomputable def pg_s69_E : List (Nat × List ck_Sum) := [(250, [pg_s4, pg_s5, pg_s6]), (256, [pg_s8]), (269, [pg_s10]), (275, [pg_s66])]
set_option maxRecDepth 100000 in
noncomputable def pg_s69_F111 : ck_F := ([], [], [(0, 5, 5, (0, 400, [(1000033, 0), (1000031, 4)])), (226, 11, 11, (0, 399, [])), (227, 1250, 1250, (0, 20, [])), (227, 1249, 1249, (0, 2, [])), (0, 4, 4, (1, 4, [])), (0, 2, 2, ck_one 1), (0, 0, 0, (0, 400, [(30, 0)])), (0, 3, 3, ((-400), 400, [(1000031, 0)])), (0, 6, 6, (0, 1, [])), (226, 9, 9, (0, 400, [(1000001, 0)])), (226, 15, 15, (0, 400, [(2, 0)]))])
noncomputable def pg_s69_C111 : ck_C := (rl_A 1, pg_s69_F111, 0, .inl 2, true)
set_option maxRecDepth 100000 in
noncomputable def pg_s69_F147 : ck_F := ([], [], [(0, 5, 5, (0, 400, [(1000033, 0), (1000031, 4)])), (226, 11, 11, (0, 400, [(1000001, 0)])), (0, 3, 3, (0, 400, [(1000033, 0), (1000031, 4)])), (0, 4, 4, ck_one 0), (226, 9, 9, (0, 400, [(1000001, 0)])), (226, 12, 12, ck_one 0), (0, 0, 0, (0, 1, [])), (0, 6, 6, ck_one 1), (227, 1250, 1250, (0, 20, [])), (227, 1249, 1249, (0, 2, [])), (0, 2, 2, ck_one 1), (226, 15, 15, (0, 400, []))])
noncomputable def pg_s69_C147 : ck_C := (rl_A 1, pg_s69_F147, 0, .inl 2, true)
noncomputable def pg_s69_Z : List (Nat × ck_C) := [(147, pg_s69_C147), (111, pg_s69_C111)]
set_option maxRecDepth 100000 in
theorem pg_s69_a : (decide (pg_s69.2.2.1.length ≤ gm_ml 274) && ck_go pg_O none [] pg_s69_E 274 pg_s69.1.1 pg_s69.2.1 pg_s69.2.2.2.2.1 pg_s69.2.2.2.2.2 pg_s69_Z 416 false [(147, pg_s69_C147, 0, 0, 245), (111, pg_s69_C111, 0, 0, 245)] pg_s69.1.2.1 pg_s69.1.2.2 0 (pg_s69.2.2.1.map some ++ List.replicate (gm_ml 274 - pg_s69.2.2.1.length) none) [] pg_s69.2.1 pg_s69.2.2.2.1) = true := by decide +kernel
set_option maxRecDepth 100000 in
theorem pg_s69_b : ck_go pg_O none [] pg_s69_E 274 pg_s69.1.1 245 pg_s69.2.2.2.2.1 pg_s69.2.2.2.2.2 pg_s69_Z 416 false [(147, pg_s69_C147, 0, 0, 245)] 0 0 123 (rl_A 1) [] 245 (rl_F1 1 pg_s69_F111) = true := by decide +kernel
set_option maxRecDepth 100000 in
theorem pg_s69_c : ck_go pg_O none [] pg_s69_E 274 pg_s69.1.1 245 pg_s69.2.2.2.2.1 pg_s69.2.2.2.2.2 pg_s69_Z 416 false [] 0 0 159 (rl_A 1) [] 245 (rl_F2 1 pg_s69_F147) = true := by decide +kernel
theorem pg_s69_u : ck_cu pg_s69_Z = true := by decide +kernel
theorem pg_s69_h {X : Int → Int} {LX : Nat} : ck_nmu pg_O ∧ ck_OkE pg_O X LX pg_s69_E := ⟨pg_nmu, ck_E1 (ck_S1 pg_s4_s (ck_S1 pg_s5_s (ck_S1 pg_s6_s ck_S0))) (ck_E1 (ck_S1 pg_s8_s ck_S0) (ck_E1 (ck_S1 pg_s10_s ck_S0) (ck_E1 (ck_S1 pg_s66_s ck_S0) ck_E0)))⟩
theorem pg_s69_y147 {X : Int → Int} {LX : Nat} {σ σ0 : Nat → Int} {K0 : gm_K} {R0 : gm_R} {M0 : gm_M} (hσ : ∀ s, s < 100 → σ s = σ0 s) : ck_Hy pg_O X LX 274 pg_s69.1.1 pg_s69.2.2.2.2.1 245 K0 R0 M0 (ck_Q pg_O σ0 pg_s69.2.2.2.2.1 245 K0 R0 M0 pg_s69.2.2.2.2.2) σ (147, pg_s69_C147, 0, 0, 245) := rl_147 pg_s69_u pg_s69_h hσ (by decide) (by decide +kernel) (by decide +kernel) ⟨by decide +kernel, by decide +kernel, by decide +kernel, by decide +kernel, by decide +kernel⟩ pg_s69_c (fun _ h => nomatch h)
theorem pg_s69_y111 {X : Int → Int} {LX : Nat} {σ σ0 : Nat → Int} {K0 : gm_K} {R0 : gm_R} {M0 : gm_M} (hσ : ∀ s, s < 100 → σ s = σ0 s) : ck_Hy pg_O X LX 274 pg_s69.1.1 pg_s69.2.2.2.2.1 245 K0 R0 M0 (ck_Q pg_O σ0 pg_s69.2.2.2.2.1 245 K0 R0 M0 pg_s69.2.2.2.2.2) σ (111, pg_s69_C111, 0, 0, 245) := rl_111 pg_s69_u pg_s69_h hσ (by decide) (by decide +kernel) ⟨by decide +kernel, by decide +kernel, by decide +kernel, by decide +kernel⟩ pg_s69_b (fun h hm => by
  rw [List.mem_singleton.mp hm]
  exact ⟨List.mem_cons_self, pg_s69_y147 hσ⟩)
theorem pg_s69_s {X : Int → Int} {LX : Nat} : ck_Ok pg_O X LX 274 pg_s69 := by
  refine ck_ok_st (cuts := pg_s69_Z) pg_s69_u pg_s69_h pg_s69_a (fun h hm => ?_)
  rcases List.mem_cons.mp hm with rfl | hm
  · exact ⟨List.mem_cons_self, fun σ K0 R0 M0 => pg_s69_y147 (fun _ _ => rfl)⟩
  rw [List.mem_singleton.mp hm]
  exact ⟨List.mem_cons_of_mem _ List.mem_cons_self, fun σ K0 R0 M0 => pg_s69_y111 (fun _ _ => rfl)⟩
set_option maxRecDepth 100000 in
/-- GlacierMailModel.readLine -/
noncomputable def pg_s70 : ck_Sum := ((31, 0, 0), 245, [.inr (.inr (.inl 226)), .inl (ck_one 0), .inl (ck_one 1)], ([], [], [(0, 2, 2, ck_one 1), (0, 0, 0, (0, 400, [(30, 0)])), (0, 3, 3, ((-400), 400, [(31, 0)])), (0, 4, 4, ((-400), 400, [(32, 0)])), (0, 5, 5, (0, 400, [(33, 0)])), (0, 6, 6, (0, 1, [])), (226, 9, 9, (0, 400, [(1, 0)])), (226, 15, 15, (0, 400, [(2, 0)]))]), ([(0, 0, 6), (226, 9, 9), (226, 11, 12), (226, 15, 15), (227, 1249, 1252), (227, 1293, 2092)], []), [(.inr (some (.inl (ck_one 0))), 245, ([], [], [(0, 2, 2, ck_one 1), (0, 0, 0, (0, 400, [])), (0, 3, 3, (0, 400, [(1000033, 0)])), (0, 4, 4, ((-400), 400, [])), (0, 5, 5, (0, 400, [(1000033, 0)])), (0, 6, 6, (0, 1, [])), (226, 9, 9, (0, 400, [(1000001, 0)]))])), (.inr (some (.inl (ck_one 1))), 245, ([], [], [(0, 5, 5, (4, 400, [(1000033, 4)])), (226, 11, 11, (0, 400, [(1000001, 0)])), (0, 0, 0, ck_one 0), (0, 2, 2, ck_one 2), (0, 6, 6, ck_one 0), (0, 3, 3, (4, 400, [(1000033, 4)])), (0, 4, 4, ck_one 0), (226, 9, 9, (0, 400, [(1000001, 0)])), (226, 12, 12, ck_one 0), (227, 1250, 1250, (0, 20, [])), (227, 1249, 1249, (0, 2, []))]))])
set_option maxRecDepth 100000 in
theorem pg_s70_s {X : Int → Int} {LX : Nat} : ck_Ok pg_O X LX 247 pg_s70 := ck_okq (cuts := []) (f := 102) ⟨pg_nmu, ck_E1 (ck_S1 pg_s3_s ck_S0) (ck_E1 (ck_S1 pg_s69_s ck_S0) ck_E0)⟩ (by decide +kernel)
set_option maxRecDepth 100000 in
/-- GlacierMailModel.readLawLine -/
noncomputable def pg_s71 : ck_Sum := ((30, 0, 0), 245, [.inr (.inr (.inl 226)), .inl (ck_one 2)], ([], [], [(0, 2, 2, ck_one 2), (0, 0, 0, (0, 400, [(30, 0)])), (0, 3, 3, ((-400), 400, [(31, 0)])), (0, 4, 4, ((-400), 400, [(32, 0)])), (0, 5, 5, (0, 400, [(33, 0)])), (0, 6, 6, (0, 1, [])), (226, 9, 9, (0, 400, [(1, 0)])), (226, 15, 15, (0, 400, [(2, 0)]))]), ([(0, 0, 6), (226, 9, 9), (226, 11, 12), (226, 15, 15), (227, 1253, 1256), (227, 1293, 2092)], []), [(.inr (some (.inl (ck_one 0))), 245, ([], [], [(0, 2, 2, ck_one 2), (0, 0, 0, (0, 400, [])), (0, 3, 3, ((-400), 400, [(1000031, 0)])), (0, 4, 4, ((-400), 400, [])), (0, 5, 5, (0, 400, [(1000033, 0)])), (0, 6, 6, (0, 1, [])), (226, 9, 9, (0, 400, [(1000001, 0)]))])), (.inr (some (.inl (ck_one 1))), 245, ([], [], [(0, 0, 0, ck_one 0), (0, 2, 2, ck_one 3), (0, 6, 6, ck_one 0), (0, 5, 5, (0, 400, [(1000033, 0), (1000031, 4)])), (226, 11, 11, (0, 400, [(1000001, 0)])), (0, 3, 3, (0, 400, [(1000033, 0), (1000031, 4)])), (0, 4, 4, ck_one 0), (226, 9, 9, (0, 400, [(1000001, 0)])), (226, 12, 12, ck_one 0), (227, 1254, 1254, (0, 20, [])), (227, 1253, 1253, (0, 2, []))]))])
noncomputable def pg_s71_E : List (Nat × List ck_Sum) := [(250, [pg_s4, pg_s5, pg_s6]), (256, [pg_s8]), (269, [pg_s10]), (275, [pg_s66])]
set_option maxRecDepth 100000 in
noncomputable def pg_s71_F111 : ck_F := ([], [], [(0, 5, 5, (0, 400, [(1000033, 0), (1000031, 4)])), (226, 11, 11, (0, 399, [])), (227, 1254, 1254, (0, 20, [])), (227, 1253, 1253, (0, 2, [])), (0, 4, 4, (1, 4, [])), (0, 2, 2, ck_one 2), (0, 0, 0, (0, 400, [(30, 0)])), (0, 3, 3, ((-400), 400, [(1000031, 0)])), (0, 6, 6, (0, 1, [])), (226, 9, 9, (0, 400, [(1000001, 0)])), (226, 15, 15, (0, 400, [(2, 0)]))])
noncomputable def pg_s71_C111 : ck_C := (rl_A 2, pg_s71_F111, 0, .inl 2, true)
set_option maxRecDepth 100000 in
noncomputable def pg_s71_F147 : ck_F := ([], [], [(0, 5, 5, (0, 400, [(1000033, 0), (1000031, 4)])), (226, 11, 11, (0, 400, [(1000001, 0)])), (0, 3, 3, (0, 400, [(1000033, 0), (1000031, 4)])), (0, 4, 4, ck_one 0), (226, 9, 9, (0, 400, [(1000001, 0)])), (226, 12, 12, ck_one 0), (0, 0, 0, (0, 1, [])), (0, 6, 6, ck_one 1), (227, 1254, 1254, (0, 20, [])), (227, 1253, 1253, (0, 2, [])), (0, 2, 2, ck_one 2), (226, 15, 15, (0, 400, []))])
noncomputable def pg_s71_C147 : ck_C := (rl_A 2, pg_s71_F147, 0, .inl 2, true)
noncomputable def pg_s71_Z : List (Nat × ck_C) := [(147, pg_s71_C147), (111, pg_s71_C111)]
set_option maxRecDepth 100000 in
theorem pg_s71_a : (decide (pg_s71.2.2.1.length ≤ gm_ml 274) && ck_go pg_O none [] pg_s71_E 274 pg_s71.1.1 pg_s71.2.1 pg_s71.2.2.2.2.1 pg_s71.2.2.2.2.2 pg_s71_Z 416 false [(147, pg_s71_C147, 0, 0, 245), (111, pg_s71_C111, 0, 0, 245)] pg_s71.1.2.1 pg_s71.1.2.2 0 (pg_s71.2.2.1.map some ++ List.replicate (gm_ml 274 - pg_s71.2.2.1.length) none) [] pg_s71.2.1 pg_s71.2.2.2.1) = true := by decide +kernel
set_option maxRecDepth 100000 in
theorem pg_s71_b : ck_go pg_O none [] pg_s71_E 274 pg_s71.1.1 245 pg_s71.2.2.2.2.1 pg_s71.2.2.2.2.2 pg_s71_Z 416 false [(147, pg_s71_C147, 0, 0, 245)] 0 0 123 (rl_A 2) [] 245 (rl_F1 2 pg_s71_F111) = true := by decide +kernel
set_option maxRecDepth 100000 in
theorem pg_s71_c : ck_go pg_O none [] pg_s71_E 274 pg_s71.1.1 245 pg_s71.2.2.2.2.1 pg_s71.2.2.2.2.2 pg_s71_Z 416 false [] 0 0 159 (rl_A 2) [] 245 (rl_F2 2 pg_s71_F147) = true := by decide +kernel
theorem pg_s71_u : ck_cu pg_s71_Z = true := by decide +kernel
theorem pg_s71_h {X : Int → Int} {LX : Nat} : ck_nmu pg_O ∧ ck_OkE pg_O X LX pg_s71_E := ⟨pg_nmu, ck_E1 (ck_S1 pg_s4_s (ck_S1 pg_s5_s (ck_S1 pg_s6_s ck_S0))) (ck_E1 (ck_S1 pg_s8_s ck_S0) (ck_E1 (ck_S1 pg_s10_s ck_S0) (ck_E1 (ck_S1 pg_s66_s ck_S0) ck_E0)))⟩
theorem pg_s71_y147 {X : Int → Int} {LX : Nat} {σ σ0 : Nat → Int} {K0 : gm_K} {R0 : gm_R} {M0 : gm_M} (hσ : ∀ s, s < 100 → σ s = σ0 s) : ck_Hy pg_O X LX 274 pg_s71.1.1 pg_s71.2.2.2.2.1 245 K0 R0 M0 (ck_Q pg_O σ0 pg_s71.2.2.2.2.1 245 K0 R0 M0 pg_s71.2.2.2.2.2) σ (147, pg_s71_C147, 0, 0, 245) := rl_147 pg_s71_u pg_s71_h hσ (by decide) (by decide +kernel) (by decide +kernel) ⟨by decide +kernel, by decide +kernel, by decide +kernel, by decide +kernel, by decide +kernel⟩ pg_s71_c (fun _ h => nomatch h)
theorem pg_s71_y111 {X : Int → Int} {LX : Nat} {σ σ0 : Nat → Int} {K0 : gm_K} {R0 : gm_R} {M0 : gm_M} (hσ : ∀ s, s < 100 → σ s = σ0 s) : ck_Hy pg_O X LX 274 pg_s71.1.1 pg_s71.2.2.2.2.1 245 K0 R0 M0 (ck_Q pg_O σ0 pg_s71.2.2.2.2.1 245 K0 R0 M0 pg_s71.2.2.2.2.2) σ (111, pg_s71_C111, 0, 0, 245) := rl_111 pg_s71_u pg_s71_h hσ (by decide) (by decide +kernel) ⟨by decide +kernel, by decide +kernel, by decide +kernel, by decide +kernel⟩ pg_s71_b (fun h hm => by
  rw [List.mem_singleton.mp hm]
  exact ⟨List.mem_cons_self, pg_s71_y147 hσ⟩)
theorem pg_s71_s {X : Int → Int} {LX : Nat} : ck_Ok pg_O X LX 274 pg_s71 := by
  refine ck_ok_st (cuts := pg_s71_Z) pg_s71_u pg_s71_h pg_s71_a (fun h hm => ?_)
  rcases List.mem_cons.mp hm with rfl | hm
  · exact ⟨List.mem_cons_self, fun σ K0 R0 M0 => pg_s71_y147 (fun _ _ => rfl)⟩
  rw [List.mem_singleton.mp hm]
  exact ⟨List.mem_cons_of_mem _ List.mem_cons_self, fun σ K0 R0 M0 => pg_s71_y111 (fun _ _ => rfl)⟩
set_option maxRecDepth 100000 in
/-- GlacierMailModel.readLine -/
noncomputable def pg_s72 : ck_Sum := ((31, 0, 0), 245, [.inr (.inr (.inl 226)), .inl (ck_one 0), .inl (ck_one 2)], ([], [], [(0, 2, 2, ck_one 2), (0, 0, 0, (0, 400, [(30, 0)])), (0, 3, 3, ((-400), 400, [(31, 0)])), (0, 4, 4, ((-400), 400, [(32, 0)])), (0, 5, 5, (0, 400, [(33, 0)])), (0, 6, 6, (0, 1, [])), (226, 9, 9, (0, 400, [(1, 0)])), (226, 15, 15, (0, 400, [(2, 0)]))]), ([(0, 0, 6), (226, 9, 9), (226, 11, 12), (226, 15, 15), (227, 1253, 1256), (227, 1293, 2092)], []), [(.inr (some (.inl (ck_one 0))), 245, ([], [], [(0, 2, 2, ck_one 2), (0, 0, 0, (0, 400, [])), (0, 3, 3, (0, 400, [(1000033, 0)])), (0, 4, 4, ((-400), 400, [])), (0, 5, 5, (0, 400, [(1000033, 0)])), (0, 6, 6, (0, 1, [])), (226, 9, 9, (0, 400, [(1000001, 0)]))])), (.inr (some (.inl (ck_one 1))), 245, ([], [], [(0, 5, 5, (4, 400, [(1000033, 4)])), (226, 11, 11, (0, 400, [(1000001, 0)])), (0, 0, 0, ck_one 0), (0, 2, 2, ck_one 3), (0, 6, 6, ck_one 0), (0, 3, 3, (4, 400, [(1000033, 4)])), (0, 4, 4, ck_one 0), (226, 9, 9, (0, 400, [(1000001, 0)])), (226, 12, 12, ck_one 0), (227, 1254, 1254, (0, 20, [])), (227, 1253, 1253, (0, 2, []))]))])
set_option maxRecDepth 100000 in
theorem pg_s72_s {X : Int → Int} {LX : Nat} : ck_Ok pg_O X LX 247 pg_s72 := ck_okq (cuts := []) (f := 102) ⟨pg_nmu, ck_E1 (ck_S1 pg_s3_s ck_S0) (ck_E1 (ck_S1 pg_s71_s ck_S0) ck_E0)⟩ (by decide +kernel)
set_option maxRecDepth 100000 in
/-- GlacierMailModel.readLawLine -/
noncomputable def pg_s73 : ck_Sum := ((30, 0, 0), 245, [.inr (.inr (.inl 226)), .inl (ck_one 3)], ([], [], [(0, 2, 2, ck_one 3), (0, 0, 0, (0, 400, [(30, 0)])), (0, 3, 3, ((-400), 400, [(31, 0)])), (0, 4, 4, ((-400), 400, [(32, 0)])), (0, 5, 5, (0, 400, [(33, 0)])), (0, 6, 6, (0, 1, [])), (226, 9, 9, (0, 400, [(1, 0)])), (226, 15, 15, (0, 400, [(2, 0)]))]), ([(0, 0, 6), (226, 9, 9), (226, 11, 12), (226, 15, 15), (227, 1257, 1260), (227, 1293, 2092)], []), [(.inr (some (.inl (ck_one 0))), 245, ([], [], [(0, 2, 2, ck_one 3), (0, 0, 0, (0, 400, [])), (0, 3, 3, ((-400), 400, [(1000031, 0)])), (0, 4, 4, ((-400), 400, [])), (0, 5, 5, (0, 400, [(1000033, 0)])), (0, 6, 6, (0, 1, [])), (226, 9, 9, (0, 400, [(1000001, 0)]))])), (.inr (some (.inl (ck_one 1))), 245, ([], [], [(0, 0, 0, ck_one 0), (0, 2, 2, ck_one 4), (0, 6, 6, ck_one 0), (0, 5, 5, (0, 400, [(1000033, 0), (1000031, 4)])), (226, 11, 11, (0, 400, [(1000001, 0)])), (0, 3, 3, (0, 400, [(1000033, 0), (1000031, 4)])), (0, 4, 4, ck_one 0), (226, 9, 9, (0, 400, [(1000001, 0)])), (226, 12, 12, ck_one 0), (227, 1258, 1258, (0, 20, [])), (227, 1257, 1257, (0, 2, []))]))])
noncomputable def pg_s73_E : List (Nat × List ck_Sum) := [(250, [pg_s4, pg_s5, pg_s6]), (256, [pg_s8]), (269, [pg_s10]), (275, [pg_s66])]
set_option maxRecDepth 100000 in
noncomputable def pg_s73_F111 : ck_F := ([], [], [(0, 5, 5, (0, 400, [(1000033, 0), (1000031, 4)])), (226, 11, 11, (0, 399, [])), (227, 1258, 1258, (0, 20, [])), (227, 1257, 1257, (0, 2, [])), (0, 4, 4, (1, 4, [])), (0, 2, 2, ck_one 3), (0, 0, 0, (0, 400, [(30, 0)])), (0, 3, 3, ((-400), 400, [(1000031, 0)])), (0, 6, 6, (0, 1, [])), (226, 9, 9, (0, 400, [(1000001, 0)])), (226, 15, 15, (0, 400, [(2, 0)]))])
noncomputable def pg_s73_C111 : ck_C := (rl_A 3, pg_s73_F111, 0, .inl 2, true)
set_option maxRecDepth 100000 in
noncomputable def pg_s73_F147 : ck_F := ([], [], [(0, 5, 5, (0, 400, [(1000033, 0), (1000031, 4)])), (226, 11, 11, (0, 400, [(1000001, 0)])), (0, 3, 3, (0, 400, [(1000033, 0), (1000031, 4)])), (0, 4, 4, ck_one 0), (226, 9, 9, (0, 400, [(1000001, 0)])), (226, 12, 12, ck_one 0), (0, 0, 0, (0, 1, [])), (0, 6, 6, ck_one 1), (227, 1258, 1258, (0, 20, [])), (227, 1257, 1257, (0, 2, [])), (0, 2, 2, ck_one 3), (226, 15, 15, (0, 400, []))])
noncomputable def pg_s73_C147 : ck_C := (rl_A 3, pg_s73_F147, 0, .inl 2, true)
noncomputable def pg_s73_Z : List (Nat × ck_C) := [(147, pg_s73_C147), (111, pg_s73_C111)]
set_option maxRecDepth 100000 in
theorem pg_s73_a : (decide (pg_s73.2.2.1.length ≤ gm_ml 274) && ck_go pg_O none [] pg_s73_E 274 pg_s73.1.1 pg_s73.2.1 pg_s73.2.2.2.2.1 pg_s73.2.2.2.2.2 pg_s73_Z 416 false [(147, pg_s73_C147, 0, 0, 245), (111, pg_s73_C111, 0, 0, 245)] pg_s73.1.2.1 pg_s73.1.2.2 0 (pg_s73.2.2.1.map some ++ List.replicate (gm_ml 274 - pg_s73.2.2.1.length) none) [] pg_s73.2.1 pg_s73.2.2.2.1) = true := by decide +kernel
set_option maxRecDepth 100000 in
theorem pg_s73_b : ck_go pg_O none [] pg_s73_E 274 pg_s73.1.1 245 pg_s73.2.2.2.2.1 pg_s73.2.2.2.2.2 pg_s73_Z 416 false [(147, pg_s73_C147, 0, 0, 245)] 0 0 123 (rl_A 3) [] 245 (rl_F1 3 pg_s73_F111) = true := by decide +kernel
set_option maxRecDepth 100000 in
theorem pg_s73_c : ck_go pg_O none [] pg_s73_E 274 pg_s73.1.1 245 pg_s73.2.2.2.2.1 pg_s73.2.2.2.2.2 pg_s73_Z 416 false [] 0 0 159 (rl_A 3) [] 245 (rl_F2 3 pg_s73_F147) = true := by decide +kernel
theorem pg_s73_u : ck_cu pg_s73_Z = true := by decide +kernel
theorem pg_s73_h {X : Int → Int} {LX : Nat} : ck_nmu pg_O ∧ ck_OkE pg_O X LX pg_s73_E := ⟨pg_nmu, ck_E1 (ck_S1 pg_s4_s (ck_S1 pg_s5_s (ck_S1 pg_s6_s ck_S0))) (ck_E1 (ck_S1 pg_s8_s ck_S0) (ck_E1 (ck_S1 pg_s10_s ck_S0) (ck_E1 (ck_S1 pg_s66_s ck_S0) ck_E0)))⟩
theorem pg_s73_y147 {X : Int → Int} {LX : Nat} {σ σ0 : Nat → Int} {K0 : gm_K} {R0 : gm_R} {M0 : gm_M} (hσ : ∀ s, s < 100 → σ s = σ0 s) : ck_Hy pg_O X LX 274 pg_s73.1.1 pg_s73.2.2.2.2.1 245 K0 R0 M0 (ck_Q pg_O σ0 pg_s73.2.2.2.2.1 245 K0 R0 M0 pg_s73.2.2.2.2.2) σ (147, pg_s73_C147, 0, 0, 245) := rl_147 pg_s73_u pg_s73_h hσ (by decide) (by decide +kernel) (by decide +kernel) ⟨by decide +kernel, by decide +kernel, by decide +kernel, by decide +kernel, by decide +kernel⟩ pg_s73_c (fun _ h => nomatch h)
theorem pg_s73_y111 {X : Int → Int} {LX : Nat} {σ σ0 : Nat → Int} {K0 : gm_K} {R0 : gm_R} {M0 : gm_M} (hσ : ∀ s, s < 100 → σ s = σ0 s) : ck_Hy pg_O X LX 274 pg_s73.1.1 pg_s73.2.2.2.2.1 245 K0 R0 M0 (ck_Q pg_O σ0 pg_s73.2.2.2.2.1 245 K0 R0 M0 pg_s73.2.2.2.2.2) σ (111, pg_s73_C111, 0, 0, 245) := rl_111 pg_s73_u pg_s73_h hσ (by decide) (by decide +kernel) ⟨by decide +kernel, by decide +kernel, by decide +kernel, by decide +kernel⟩ pg_s73_b (fun h hm => by
  rw [List.mem_singleton.mp hm]
  exact ⟨List.mem_cons_self, pg_s73_y147 hσ⟩)
theorem pg_s73_s {X : Int → Int} {LX : Nat} : ck_Ok pg_O X LX 274 pg_s73 := by
  refine ck_ok_st (cuts := pg_s73_Z) pg_s73_u pg_s73_h pg_s73_a (fun h hm => ?_)
  rcases List.mem_cons.mp hm with rfl | hm
  · exact ⟨List.mem_cons_self, fun σ K0 R0 M0 => pg_s73_y147 (fun _ _ => rfl)⟩
  rw [List.mem_singleton.mp hm]
  exact ⟨List.mem_cons_of_mem _ List.mem_cons_self, fun σ K0 R0 M0 => pg_s73_y111 (fun _ _ => rfl)⟩
set_option maxRecDepth 100000 in
/-- GlacierMailModel.readLine -/
noncomputable def pg_s74 : ck_Sum := ((31, 0, 0), 245, [.inr (.inr (.inl 226)), .inl (ck_one 0), .inl (ck_one 3)], ([], [], [(0, 2, 2, ck_one 3), (0, 0, 0, (0, 400, [(30, 0)])), (0, 3, 3, ((-400), 400, [(31, 0)])), (0, 4, 4, ((-400), 400, [(32, 0)])), (0, 5, 5, (0, 400, [(33, 0)])), (0, 6, 6, (0, 1, [])), (226, 9, 9, (0, 400, [(1, 0)])), (226, 15, 15, (0, 400, [(2, 0)]))]), ([(0, 0, 6), (226, 9, 9), (226, 11, 12), (226, 15, 15), (227, 1257, 1260), (227, 1293, 2092)], []), [(.inr (some (.inl (ck_one 0))), 245, ([], [], [(0, 2, 2, ck_one 3), (0, 0, 0, (0, 400, [])), (0, 3, 3, (0, 400, [(1000033, 0)])), (0, 4, 4, ((-400), 400, [])), (0, 5, 5, (0, 400, [(1000033, 0)])), (0, 6, 6, (0, 1, [])), (226, 9, 9, (0, 400, [(1000001, 0)]))])), (.inr (some (.inl (ck_one 1))), 245, ([], [], [(0, 5, 5, (4, 400, [(1000033, 4)])), (226, 11, 11, (0, 400, [(1000001, 0)])), (0, 0, 0, ck_one 0), (0, 2, 2, ck_one 4), (0, 6, 6, ck_one 0), (0, 3, 3, (4, 400, [(1000033, 4)])), (0, 4, 4, ck_one 0), (226, 9, 9, (0, 400, [(1000001, 0)])), (226, 12, 12, ck_one 0), (227, 1258, 1258, (0, 20, [])), (227, 1257, 1257, (0, 2, []))]))])
set_option maxRecDepth 100000 in
theorem pg_s74_s {X : Int → Int} {LX : Nat} : ck_Ok pg_O X LX 247 pg_s74 := ck_okq (cuts := []) (f := 102) ⟨pg_nmu, ck_E1 (ck_S1 pg_s3_s ck_S0) (ck_E1 (ck_S1 pg_s73_s ck_S0) ck_E0)⟩ (by decide +kernel)
set_option maxRecDepth 100000 in
/-- GlacierMailModel.readLawLine -/
noncomputable def pg_s75 : ck_Sum := ((30, 0, 0), 245, [.inr (.inr (.inl 226)), .inl (ck_one 4)], ([], [], [(0, 2, 2, ck_one 4), (0, 0, 0, (0, 400, [(30, 0)])), (0, 3, 3, ((-400), 400, [(31, 0)])), (0, 4, 4, ((-400), 400, [(32, 0)])), (0, 5, 5, (0, 400, [(33, 0)])), (0, 6, 6, (0, 1, [])), (226, 9, 9, (0, 400, [(1, 0)])), (226, 15, 15, (0, 400, [(2, 0)]))]), ([(0, 0, 6), (226, 9, 9), (226, 11, 12), (226, 15, 15), (227, 1261, 1264), (227, 1293, 2092)], []), [(.inr (some (.inl (ck_one 0))), 245, ([], [], [(0, 2, 2, ck_one 4), (0, 0, 0, (0, 400, [])), (0, 3, 3, ((-400), 400, [(1000031, 0)])), (0, 4, 4, ((-400), 400, [])), (0, 5, 5, (0, 400, [(1000033, 0)])), (0, 6, 6, (0, 1, [])), (226, 9, 9, (0, 400, [(1000001, 0)]))])), (.inr (some (.inl (ck_one 1))), 245, ([], [], [(0, 0, 0, ck_one 0), (0, 2, 2, ck_one 5), (0, 6, 6, ck_one 0), (0, 5, 5, (0, 400, [(1000033, 0), (1000031, 4)])), (226, 11, 11, (0, 400, [(1000001, 0)])), (0, 3, 3, (0, 400, [(1000033, 0), (1000031, 4)])), (0, 4, 4, ck_one 0), (226, 9, 9, (0, 400, [(1000001, 0)])), (226, 12, 12, ck_one 0), (227, 1262, 1262, (0, 20, [])), (227, 1261, 1261, (0, 2, []))]))])
noncomputable def pg_s75_E : List (Nat × List ck_Sum) := [(250, [pg_s4, pg_s5, pg_s6]), (256, [pg_s8]), (269, [pg_s10]), (275, [pg_s66])]
set_option maxRecDepth 100000 in
noncomputable def pg_s75_F111 : ck_F := ([], [], [(0, 5, 5, (0, 400, [(1000033, 0), (1000031, 4)])), (226, 11, 11, (0, 399, [])), (227, 1262, 1262, (0, 20, [])), (227, 1261, 1261, (0, 2, [])), (0, 4, 4, (1, 4, [])), (0, 2, 2, ck_one 4), (0, 0, 0, (0, 400, [(30, 0)])), (0, 3, 3, ((-400), 400, [(1000031, 0)])), (0, 6, 6, (0, 1, [])), (226, 9, 9, (0, 400, [(1000001, 0)])), (226, 15, 15, (0, 400, [(2, 0)]))])
noncomputable def pg_s75_C111 : ck_C := (rl_A 4, pg_s75_F111, 0, .inl 2, true)
set_option maxRecDepth 100000 in
noncomputable def pg_s75_F147 : ck_F := ([], [], [(0, 5, 5, (0, 400, [(1000033, 0), (1000031, 4)])), (226, 11, 11, (0, 400, [(1000001, 0)])), (0, 3, 3, (0, 400, [(1000033, 0), (1000031, 4)])), (0, 4, 4, ck_one 0), (226, 9, 9, (0, 400, [(1000001, 0)])), (226, 12, 12, ck_one 0), (0, 0, 0, (0, 1, [])), (0, 6, 6, ck_one 1), (227, 1262, 1262, (0, 20, [])), (227, 1261, 1261, (0, 2, [])), (0, 2, 2, ck_one 4), (226, 15, 15, (0, 400, []))])
noncomputable def pg_s75_C147 : ck_C := (rl_A 4, pg_s75_F147, 0, .inl 2, true)
noncomputable def pg_s75_Z : List (Nat × ck_C) := [(147, pg_s75_C147), (111, pg_s75_C111)]
set_option maxRecDepth 100000 in
theorem pg_s75_a : (decide (pg_s75.2.2.1.length ≤ gm_ml 274) && ck_go pg_O none [] pg_s75_E 274 pg_s75.1.1 pg_s75.2.1 pg_s75.2.2.2.2.1 pg_s75.2.2.2.2.2 pg_s75_Z 416 false [(147, pg_s75_C147, 0, 0, 245), (111, pg_s75_C111, 0, 0, 245)] pg_s75.1.2.1 pg_s75.1.2.2 0 (pg_s75.2.2.1.map some ++ List.replicate (gm_ml 274 - pg_s75.2.2.1.length) none) [] pg_s75.2.1 pg_s75.2.2.2.1) = true := by decide +kernel
set_option maxRecDepth 100000 in
theorem pg_s75_b : ck_go pg_O none [] pg_s75_E 274 pg_s75.1.1 245 pg_s75.2.2.2.2.1 pg_s75.2.2.2.2.2 pg_s75_Z 416 false [(147, pg_s75_C147, 0, 0, 245)] 0 0 123 (rl_A 4) [] 245 (rl_F1 4 pg_s75_F111) = true := by decide +kernel
set_option maxRecDepth 100000 in
theorem pg_s75_c : ck_go pg_O none [] pg_s75_E 274 pg_s75.1.1 245 pg_s75.2.2.2.2.1 pg_s75.2.2.2.2.2 pg_s75_Z 416 false [] 0 0 159 (rl_A 4) [] 245 (rl_F2 4 pg_s75_F147) = true := by decide +kernel
theorem pg_s75_u : ck_cu pg_s75_Z = true := by decide +kernel
theorem pg_s75_h {X : Int → Int} {LX : Nat} : ck_nmu pg_O ∧ ck_OkE pg_O X LX pg_s75_E := ⟨pg_nmu, ck_E1 (ck_S1 pg_s4_s (ck_S1 pg_s5_s (ck_S1 pg_s6_s ck_S0))) (ck_E1 (ck_S1 pg_s8_s ck_S0) (ck_E1 (ck_S1 pg_s10_s ck_S0) (ck_E1 (ck_S1 pg_s66_s ck_S0) ck_E0)))⟩
theorem pg_s75_y147 {X : Int → Int} {LX : Nat} {σ σ0 : Nat → Int} {K0 : gm_K} {R0 : gm_R} {M0 : gm_M} (hσ : ∀ s, s < 100 → σ s = σ0 s) : ck_Hy pg_O X LX 274 pg_s75.1.1 pg_s75.2.2.2.2.1 245 K0 R0 M0 (ck_Q pg_O σ0 pg_s75.2.2.2.2.1 245 K0 R0 M0 pg_s75.2.2.2.2.2) σ (147, pg_s75_C147, 0, 0, 245) := rl_147 pg_s75_u pg_s75_h hσ (by decide) (by decide +kernel) (by decide +kernel) ⟨by decide +kernel, by decide +kernel, by decide +kernel, by decide +kernel, by decide +kernel⟩ pg_s75_c (fun _ h => nomatch h)
theorem pg_s75_y111 {X : Int → Int} {LX : Nat} {σ σ0 : Nat → Int} {K0 : gm_K} {R0 : gm_R} {M0 : gm_M} (hσ : ∀ s, s < 100 → σ s = σ0 s) : ck_Hy pg_O X LX 274 pg_s75.1.1 pg_s75.2.2.2.2.1 245 K0 R0 M0 (ck_Q pg_O σ0 pg_s75.2.2.2.2.1 245 K0 R0 M0 pg_s75.2.2.2.2.2) σ (111, pg_s75_C111, 0, 0, 245) := rl_111 pg_s75_u pg_s75_h hσ (by decide) (by decide +kernel) ⟨by decide +kernel, by decide +kernel, by decide +kernel, by decide +kernel⟩ pg_s75_b (fun h hm => by
  rw [List.mem_singleton.mp hm]
  exact ⟨List.mem_cons_self, pg_s75_y147 hσ⟩)
theorem pg_s75_s {X : Int → Int} {LX : Nat} : ck_Ok pg_O X LX 274 pg_s75 := by
  refine ck_ok_st (cuts := pg_s75_Z) pg_s75_u pg_s75_h pg_s75_a (fun h hm => ?_)
  rcases List.mem_cons.mp hm with rfl | hm
  · exact ⟨List.mem_cons_self, fun σ K0 R0 M0 => pg_s75_y147 (fun _ _ => rfl)⟩
  rw [List.mem_singleton.mp hm]
  exact ⟨List.mem_cons_of_mem _ List.mem_cons_self, fun σ K0 R0 M0 => pg_s75_y111 (fun _ _ => rfl)⟩
set_option maxRecDepth 100000 in
/-- GlacierMailModel.readLine -/
noncomputable def pg_s76 : ck_Sum := ((31, 0, 0), 245, [.inr (.inr (.inl 226)), .inl (ck_one 0), .inl (ck_one 4)], ([], [], [(0, 2, 2, ck_one 4), (0, 0, 0, (0, 400, [(30, 0)])), (0, 3, 3, ((-400), 400, [(31, 0)])), (0, 4, 4, ((-400), 400, [(32, 0)])), (0, 5, 5, (0, 400, [(33, 0)])), (0, 6, 6, (0, 1, [])), (226, 9, 9, (0, 400, [(1, 0)])), (226, 15, 15, (0, 400, [(2, 0)]))]), ([(0, 0, 6), (226, 9, 9), (226, 11, 12), (226, 15, 15), (227, 1261, 1264), (227, 1293, 2092)], []), [(.inr (some (.inl (ck_one 0))), 245, ([], [], [(0, 2, 2, ck_one 4), (0, 0, 0, (0, 400, [])), (0, 3, 3, (0, 400, [(1000033, 0)])), (0, 4, 4, ((-400), 400, [])), (0, 5, 5, (0, 400, [(1000033, 0)])), (0, 6, 6, (0, 1, [])), (226, 9, 9, (0, 400, [(1000001, 0)]))])), (.inr (some (.inl (ck_one 1))), 245, ([], [], [(0, 5, 5, (4, 400, [(1000033, 4)])), (226, 11, 11, (0, 400, [(1000001, 0)])), (0, 0, 0, ck_one 0), (0, 2, 2, ck_one 5), (0, 6, 6, ck_one 0), (0, 3, 3, (4, 400, [(1000033, 4)])), (0, 4, 4, ck_one 0), (226, 9, 9, (0, 400, [(1000001, 0)])), (226, 12, 12, ck_one 0), (227, 1262, 1262, (0, 20, [])), (227, 1261, 1261, (0, 2, []))]))])
set_option maxRecDepth 100000 in
theorem pg_s76_s {X : Int → Int} {LX : Nat} : ck_Ok pg_O X LX 247 pg_s76 := ck_okq (cuts := []) (f := 102) ⟨pg_nmu, ck_E1 (ck_S1 pg_s3_s ck_S0) (ck_E1 (ck_S1 pg_s75_s ck_S0) ck_E0)⟩ (by decide +kernel)
set_option maxRecDepth 100000 in
/-- GlacierMailModel.readLawLine -/
noncomputable def pg_s77 : ck_Sum := ((30, 0, 0), 245, [.inr (.inr (.inl 226)), .inl (ck_one 5)], ([], [], [(0, 2, 2, ck_one 5), (0, 0, 0, (0, 400, [(30, 0)])), (0, 3, 3, ((-400), 400, [(31, 0)])), (0, 4, 4, ((-400), 400, [(32, 0)])), (0, 5, 5, (0, 400, [(33, 0)])), (0, 6, 6, (0, 1, [])), (226, 9, 9, (0, 400, [(1, 0)])), (226, 15, 15, (0, 400, [(2, 0)]))]), ([(0, 0, 6), (226, 9, 9), (226, 11, 12), (226, 15, 15), (227, 1265, 1268), (227, 1293, 2092)], []), [(.inr (some (.inl (ck_one 0))), 245, ([], [], [(0, 2, 2, ck_one 5), (0, 0, 0, (0, 400, [])), (0, 3, 3, ((-400), 400, [(1000031, 0)])), (0, 4, 4, ((-400), 400, [])), (0, 5, 5, (0, 400, [(1000033, 0)])), (0, 6, 6, (0, 1, [])), (226, 9, 9, (0, 400, [(1000001, 0)]))])), (.inr (some (.inl (ck_one 1))), 245, ([], [], [(0, 0, 0, ck_one 0), (0, 2, 2, ck_one 6), (0, 6, 6, ck_one 0), (0, 5, 5, (0, 400, [(1000033, 0), (1000031, 4)])), (226, 11, 11, (0, 400, [(1000001, 0)])), (0, 3, 3, (0, 400, [(1000033, 0), (1000031, 4)])), (0, 4, 4, ck_one 0), (226, 9, 9, (0, 400, [(1000001, 0)])), (226, 12, 12, ck_one 0), (227, 1266, 1266, (0, 20, [])), (227, 1265, 1265, (0, 2, []))]))])
noncomputable def pg_s77_E : List (Nat × List ck_Sum) := [(250, [pg_s4, pg_s5, pg_s6]), (256, [pg_s8]), (269, [pg_s10]), (275, [pg_s66])]
set_option maxRecDepth 100000 in
noncomputable def pg_s77_F111 : ck_F := ([], [], [(0, 5, 5, (0, 400, [(1000033, 0), (1000031, 4)])), (226, 11, 11, (0, 399, [])), (227, 1266, 1266, (0, 20, [])), (227, 1265, 1265, (0, 2, [])), (0, 4, 4, (1, 4, [])), (0, 2, 2, ck_one 5), (0, 0, 0, (0, 400, [(30, 0)])), (0, 3, 3, ((-400), 400, [(1000031, 0)])), (0, 6, 6, (0, 1, [])), (226, 9, 9, (0, 400, [(1000001, 0)])), (226, 15, 15, (0, 400, [(2, 0)]))])
noncomputable def pg_s77_C111 : ck_C := (rl_A 5, pg_s77_F111, 0, .inl 2, true)
set_option maxRecDepth 100000 in
noncomputable def pg_s77_F147 : ck_F := ([], [], [(0, 5, 5, (0, 400, [(1000033, 0), (1000031, 4)])), (226, 11, 11, (0, 400, [(1000001, 0)])), (0, 3, 3, (0, 400, [(1000033, 0), (1000031, 4)])), (0, 4, 4, ck_one 0), (226, 9, 9, (0, 400, [(1000001, 0)])), (226, 12, 12, ck_one 0), (0, 0, 0, (0, 1, [])), (0, 6, 6, ck_one 1), (227, 1266, 1266, (0, 20, [])), (227, 1265, 1265, (0, 2, [])), (0, 2, 2, ck_one 5), (226, 15, 15, (0, 400, []))])
noncomputable def pg_s77_C147 : ck_C := (rl_A 5, pg_s77_F147, 0, .inl 2, true)
noncomputable def pg_s77_Z : List (Nat × ck_C) := [(147, pg_s77_C147), (111, pg_s77_C111)]
set_option maxRecDepth 100000 in
theorem pg_s77_a : (decide (pg_s77.2.2.1.length ≤ gm_ml 274) && ck_go pg_O none [] pg_s77_E 274 pg_s77.1.1 pg_s77.2.1 pg_s77.2.2.2.2.1 pg_s77.2.2.2.2.2 pg_s77_Z 416 false [(147, pg_s77_C147, 0, 0, 245), (111, pg_s77_C111, 0, 0, 245)] pg_s77.1.2.1 pg_s77.1.2.2 0 (pg_s77.2.2.1.map some ++ List.replicate (gm_ml 274 - pg_s77.2.2.1.length) none) [] pg_s77.2.1 pg_s77.2.2.2.1) = true := by decide +kernel
set_option maxRecDepth 100000 in
theorem pg_s77_b : ck_go pg_O none [] pg_s77_E 274 pg_s77.1.1 245 pg_s77.2.2.2.2.1 pg_s77.2.2.2.2.2 pg_s77_Z 416 false [(147, pg_s77_C147, 0, 0, 245)] 0 0 123 (rl_A 5) [] 245 (rl_F1 5 pg_s77_F111) = true := by decide +kernel
set_option maxRecDepth 100000 in
theorem pg_s77_c : ck_go pg_O none [] pg_s77_E 274 pg_s77.1.1 245 pg_s77.2.2.2.2.1 pg_s77.2.2.2.2.2 pg_s77_Z 416 false [] 0 0 159 (rl_A 5) [] 245 (rl_F2 5 pg_s77_F147) = true := by decide +kernel
theorem pg_s77_u : ck_cu pg_s77_Z = true := by decide +kernel
theorem pg_s77_h {X : Int → Int} {LX : Nat} : ck_nmu pg_O ∧ ck_OkE pg_O X LX pg_s77_E := ⟨pg_nmu, ck_E1 (ck_S1 pg_s4_s (ck_S1 pg_s5_s (ck_S1 pg_s6_s ck_S0))) (ck_E1 (ck_S1 pg_s8_s ck_S0) (ck_E1 (ck_S1 pg_s10_s ck_S0) (ck_E1 (ck_S1 pg_s66_s ck_S0) ck_E0)))⟩
theorem pg_s77_y147 {X : Int → Int} {LX : Nat} {σ σ0 : Nat → Int} {K0 : gm_K} {R0 : gm_R} {M0 : gm_M} (hσ : ∀ s, s < 100 → σ s = σ0 s) : ck_Hy pg_O X LX 274 pg_s77.1.1 pg_s77.2.2.2.2.1 245 K0 R0 M0 (ck_Q pg_O σ0 pg_s77.2.2.2.2.1 245 K0 R0 M0 pg_s77.2.2.2.2.2) σ (147, pg_s77_C147, 0, 0, 245) := rl_147 pg_s77_u pg_s77_h hσ (by decide) (by decide +kernel) (by decide +kernel) ⟨by decide +kernel, by decide +kernel, by decide +kernel, by decide +kernel, by decide +kernel⟩ pg_s77_c (fun _ h => nomatch h)
theorem pg_s77_y111 {X : Int → Int} {LX : Nat} {σ σ0 : Nat → Int} {K0 : gm_K} {R0 : gm_R} {M0 : gm_M} (hσ : ∀ s, s < 100 → σ s = σ0 s) : ck_Hy pg_O X LX 274 pg_s77.1.1 pg_s77.2.2.2.2.1 245 K0 R0 M0 (ck_Q pg_O σ0 pg_s77.2.2.2.2.1 245 K0 R0 M0 pg_s77.2.2.2.2.2) σ (111, pg_s77_C111, 0, 0, 245) := rl_111 pg_s77_u pg_s77_h hσ (by decide) (by decide +kernel) ⟨by decide +kernel, by decide +kernel, by decide +kernel, by decide +kernel⟩ pg_s77_b (fun h hm => by
  rw [List.mem_singleton.mp hm]
  exact ⟨List.mem_cons_self, pg_s77_y147 hσ⟩)
theorem pg_s77_s {X : Int → Int} {LX : Nat} : ck_Ok pg_O X LX 274 pg_s77 := by
  refine ck_ok_st (cuts := pg_s77_Z) pg_s77_u pg_s77_h pg_s77_a (fun h hm => ?_)
  rcases List.mem_cons.mp hm with rfl | hm
  · exact ⟨List.mem_cons_self, fun σ K0 R0 M0 => pg_s77_y147 (fun _ _ => rfl)⟩
  rw [List.mem_singleton.mp hm]
  exact ⟨List.mem_cons_of_mem _ List.mem_cons_self, fun σ K0 R0 M0 => pg_s77_y111 (fun _ _ => rfl)⟩
set_option maxRecDepth 100000 in
/-- GlacierMailModel.readLine -/
noncomputable def pg_s78 : ck_Sum := ((31, 0, 0), 245, [.inr (.inr (.inl 226)), .inl (ck_one 0), .inl (ck_one 5)], ([], [], [(0, 2, 2, ck_one 5), (0, 0, 0, (0, 400, [(30, 0)])), (0, 3, 3, ((-400), 400, [(31, 0)])), (0, 4, 4, ((-400), 400, [(32, 0)])), (0, 5, 5, (0, 400, [(33, 0)])), (0, 6, 6, (0, 1, [])), (226, 9, 9, (0, 400, [(1, 0)])), (226, 15, 15, (0, 400, [(2, 0)]))]), ([(0, 0, 6), (226, 9, 9), (226, 11, 12), (226, 15, 15), (227, 1265, 1268), (227, 1293, 2092)], []), [(.inr (some (.inl (ck_one 0))), 245, ([], [], [(0, 2, 2, ck_one 5), (0, 0, 0, (0, 400, [])), (0, 3, 3, (0, 400, [(1000033, 0)])), (0, 4, 4, ((-400), 400, [])), (0, 5, 5, (0, 400, [(1000033, 0)])), (0, 6, 6, (0, 1, [])), (226, 9, 9, (0, 400, [(1000001, 0)]))])), (.inr (some (.inl (ck_one 1))), 245, ([], [], [(0, 5, 5, (4, 400, [(1000033, 4)])), (226, 11, 11, (0, 400, [(1000001, 0)])), (0, 0, 0, ck_one 0), (0, 2, 2, ck_one 6), (0, 6, 6, ck_one 0), (0, 3, 3, (4, 400, [(1000033, 4)])), (0, 4, 4, ck_one 0), (226, 9, 9, (0, 400, [(1000001, 0)])), (226, 12, 12, ck_one 0), (227, 1266, 1266, (0, 20, [])), (227, 1265, 1265, (0, 2, []))]))])
set_option maxRecDepth 100000 in
theorem pg_s78_s {X : Int → Int} {LX : Nat} : ck_Ok pg_O X LX 247 pg_s78 := ck_okq (cuts := []) (f := 102) ⟨pg_nmu, ck_E1 (ck_S1 pg_s3_s ck_S0) (ck_E1 (ck_S1 pg_s77_s ck_S0) ck_E0)⟩ (by decide +kernel)
set_option maxRecDepth 100000 in
/-- GlacierMailModel.readLawLine -/
noncomputable def pg_s79 : ck_Sum := ((30, 0, 0), 245, [.inr (.inr (.inl 226)), .inl (ck_one 6)], ([], [], [(0, 2, 2, ck_one 6), (0, 0, 0, (0, 400, [(30, 0)])), (0, 3, 3, ((-400), 400, [(31, 0)])), (0, 4, 4, ((-400), 400, [(32, 0)])), (0, 5, 5, (0, 400, [(33, 0)])), (0, 6, 6, (0, 1, [])), (226, 9, 9, (0, 400, [(1, 0)])), (226, 15, 15, (0, 400, [(2, 0)]))]), ([(0, 0, 6), (226, 9, 9), (226, 11, 12), (226, 15, 15), (227, 1269, 1272), (227, 1293, 2092)], []), [(.inr (some (.inl (ck_one 0))), 245, ([], [], [(0, 2, 2, ck_one 6), (0, 0, 0, (0, 400, [])), (0, 3, 3, ((-400), 400, [(1000031, 0)])), (0, 4, 4, ((-400), 400, [])), (0, 5, 5, (0, 400, [(1000033, 0)])), (0, 6, 6, (0, 1, [])), (226, 9, 9, (0, 400, [(1000001, 0)]))])), (.inr (some (.inl (ck_one 1))), 245, ([], [], [(0, 0, 0, ck_one 0), (0, 2, 2, ck_one 7), (0, 6, 6, ck_one 0), (0, 5, 5, (0, 400, [(1000033, 0), (1000031, 4)])), (226, 11, 11, (0, 400, [(1000001, 0)])), (0, 3, 3, (0, 400, [(1000033, 0), (1000031, 4)])), (0, 4, 4, ck_one 0), (226, 9, 9, (0, 400, [(1000001, 0)])), (226, 12, 12, ck_one 0), (227, 1270, 1270, (0, 20, [])), (227, 1269, 1269, (0, 2, []))]))])
noncomputable def pg_s79_E : List (Nat × List ck_Sum) := [(250, [pg_s4, pg_s5, pg_s6]), (256, [pg_s8]), (269, [pg_s10]), (275, [pg_s66])]
set_option maxRecDepth 100000 in
noncomputable def pg_s79_F111 : ck_F := ([], [], [(0, 5, 5, (0, 400, [(1000033, 0), (1000031, 4)])), (226, 11, 11, (0, 399, [])), (227, 1270, 1270, (0, 20, [])), (227, 1269, 1269, (0, 2, [])), (0, 4, 4, (1, 4, [])), (0, 2, 2, ck_one 6), (0, 0, 0, (0, 400, [(30, 0)])), (0, 3, 3, ((-400), 400, [(1000031, 0)])), (0, 6, 6, (0, 1, [])), (226, 9, 9, (0, 400, [(1000001, 0)])), (226, 15, 15, (0, 400, [(2, 0)]))])
noncomputable def pg_s79_C111 : ck_C := (rl_A 6, pg_s79_F111, 0, .inl 2, true)
set_option maxRecDepth 100000 in
noncomputable def pg_s79_F147 : ck_F := ([], [], [(0, 5, 5, (0, 400, [(1000033, 0), (1000031, 4)])), (226, 11, 11, (0, 400, [(1000001, 0)])), (0, 3, 3, (0, 400, [(1000033, 0), (1000031, 4)])), (0, 4, 4, ck_one 0), (226, 9, 9, (0, 400, [(1000001, 0)])), (226, 12, 12, ck_one 0), (0, 0, 0, (0, 1, [])), (0, 6, 6, ck_one 1), (227, 1270, 1270, (0, 20, [])), (227, 1269, 1269, (0, 2, [])), (0, 2, 2, ck_one 6), (226, 15, 15, (0, 400, []))])
noncomputable def pg_s79_C147 : ck_C := (rl_A 6, pg_s79_F147, 0, .inl 2, true)
noncomputable def pg_s79_Z : List (Nat × ck_C) := [(147, pg_s79_C147), (111, pg_s79_C111)]
set_option maxRecDepth 100000 in
theorem pg_s79_a : (decide (pg_s79.2.2.1.length ≤ gm_ml 274) && ck_go pg_O none [] pg_s79_E 274 pg_s79.1.1 pg_s79.2.1 pg_s79.2.2.2.2.1 pg_s79.2.2.2.2.2 pg_s79_Z 416 false [(147, pg_s79_C147, 0, 0, 245), (111, pg_s79_C111, 0, 0, 245)] pg_s79.1.2.1 pg_s79.1.2.2 0 (pg_s79.2.2.1.map some ++ List.replicate (gm_ml 274 - pg_s79.2.2.1.length) none) [] pg_s79.2.1 pg_s79.2.2.2.1) = true := by decide +kernel
set_option maxRecDepth 100000 in
theorem pg_s79_b : ck_go pg_O none [] pg_s79_E 274 pg_s79.1.1 245 pg_s79.2.2.2.2.1 pg_s79.2.2.2.2.2 pg_s79_Z 416 false [(147, pg_s79_C147, 0, 0, 245)] 0 0 123 (rl_A 6) [] 245 (rl_F1 6 pg_s79_F111) = true := by decide +kernel
set_option maxRecDepth 100000 in
theorem pg_s79_c : ck_go pg_O none [] pg_s79_E 274 pg_s79.1.1 245 pg_s79.2.2.2.2.1 pg_s79.2.2.2.2.2 pg_s79_Z 416 false [] 0 0 159 (rl_A 6) [] 245 (rl_F2 6 pg_s79_F147) = true := by decide +kernel
theorem pg_s79_u : ck_cu pg_s79_Z = true := by decide +kernel
theorem pg_s79_h {X : Int → Int} {LX : Nat} : ck_nmu pg_O ∧ ck_OkE pg_O X LX pg_s79_E := ⟨pg_nmu, ck_E1 (ck_S1 pg_s4_s (ck_S1 pg_s5_s (ck_S1 pg_s6_s ck_S0))) (ck_E1 (ck_S1 pg_s8_s ck_S0) (ck_E1 (ck_S1 pg_s10_s ck_S0) (ck_E1 (ck_S1 pg_s66_s ck_S0) ck_E0)))⟩
theorem pg_s79_y147 {X : Int → Int} {LX : Nat} {σ σ0 : Nat → Int} {K0 : gm_K} {R0 : gm_R} {M0 : gm_M} (hσ : ∀ s, s < 100 → σ s = σ0 s) : ck_Hy pg_O X LX 274 pg_s79.1.1 pg_s79.2.2.2.2.1 245 K0 R0 M0 (ck_Q pg_O σ0 pg_s79.2.2.2.2.1 245 K0 R0 M0 pg_s79.2.2.2.2.2) σ (147, pg_s79_C147, 0, 0, 245) := rl_147 pg_s79_u pg_s79_h hσ (by decide) (by decide +kernel) (by decide +kernel) ⟨by decide +kernel, by decide +kernel, by decide +kernel, by decide +kernel, by decide +kernel⟩ pg_s79_c (fun _ h => nomatch h)
theorem pg_s79_y111 {X : Int → Int} {LX : Nat} {σ σ0 : Nat → Int} {K0 : gm_K} {R0 : gm_R} {M0 : gm_M} (hσ : ∀ s, s < 100 → σ s = σ0 s) : ck_Hy pg_O X LX 274 pg_s79.1.1 pg_s79.2.2.2.2.1 245 K0 R0 M0 (ck_Q pg_O σ0 pg_s79.2.2.2.2.1 245 K0 R0 M0 pg_s79.2.2.2.2.2) σ (111, pg_s79_C111, 0, 0, 245) := rl_111 pg_s79_u pg_s79_h hσ (by decide) (by decide +kernel) ⟨by decide +kernel, by decide +kernel, by decide +kernel, by decide +kernel⟩ pg_s79_b (fun h hm => by
  rw [List.mem_singleton.mp hm]
  exact ⟨List.mem_cons_self, pg_s79_y147 hσ⟩)
theorem pg_s79_s {X : Int → Int} {LX : Nat} : ck_Ok pg_O X LX 274 pg_s79 := by
  refine ck_ok_st (cuts := pg_s79_Z) pg_s79_u pg_s79_h pg_s79_a (fun h hm => ?_)
  rcases List.mem_cons.mp hm with rfl | hm
  · exact ⟨List.mem_cons_self, fun σ K0 R0 M0 => pg_s79_y147 (fun _ _ => rfl)⟩
  rw [List.mem_singleton.mp hm]
  exact ⟨List.mem_cons_of_mem _ List.mem_cons_self, fun σ K0 R0 M0 => pg_s79_y111 (fun _ _ => rfl)⟩
set_option maxRecDepth 100000 in
/-- GlacierMailModel.readLine -/
noncomputable def pg_s80 : ck_Sum := ((31, 0, 0), 245, [.inr (.inr (.inl 226)), .inl (ck_one 0), .inl (ck_one 6)], ([], [], [(0, 2, 2, ck_one 6), (0, 0, 0, (0, 400, [(30, 0)])), (0, 3, 3, ((-400), 400, [(31, 0)])), (0, 4, 4, ((-400), 400, [(32, 0)])), (0, 5, 5, (0, 400, [(33, 0)])), (0, 6, 6, (0, 1, [])), (226, 9, 9, (0, 400, [(1, 0)])), (226, 15, 15, (0, 400, [(2, 0)]))]), ([(0, 0, 6), (226, 9, 9), (226, 11, 12), (226, 15, 15), (227, 1269, 1272), (227, 1293, 2092)], []), [(.inr (some (.inl (ck_one 0))), 245, ([], [], [(0, 2, 2, ck_one 6), (0, 0, 0, (0, 400, [])), (0, 3, 3, (0, 400, [(1000033, 0)])), (0, 4, 4, ((-400), 400, [])), (0, 5, 5, (0, 400, [(1000033, 0)])), (0, 6, 6, (0, 1, [])), (226, 9, 9, (0, 400, [(1000001, 0)]))])), (.inr (some (.inl (ck_one 1))), 245, ([], [], [(0, 5, 5, (4, 400, [(1000033, 4)])), (226, 11, 11, (0, 400, [(1000001, 0)])), (0, 0, 0, ck_one 0), (0, 2, 2, ck_one 7), (0, 6, 6, ck_one 0), (0, 3, 3, (4, 400, [(1000033, 4)])), (0, 4, 4, ck_one 0), (226, 9, 9, (0, 400, [(1000001, 0)])), (226, 12, 12, ck_one 0), (227, 1270, 1270, (0, 20, [])), (227, 1269, 1269, (0, 2, []))]))])
set_option maxRecDepth 100000 in
theorem pg_s80_s {X : Int → Int} {LX : Nat} : ck_Ok pg_O X LX 247 pg_s80 := ck_okq (cuts := []) (f := 102) ⟨pg_nmu, ck_E1 (ck_S1 pg_s3_s ck_S0) (ck_E1 (ck_S1 pg_s79_s ck_S0) ck_E0)⟩ (by decide +kernel)
set_option maxRecDepth 100000 in
/-- GlacierMailModel.readLawLine -/
noncomputable def pg_s81 : ck_Sum := ((30, 0, 0), 245, [.inr (.inr (.inl 226)), .inl (ck_one 7)], ([], [], [(0, 2, 2, ck_one 7), (0, 0, 0, (0, 400, [(30, 0)])), (0, 3, 3, ((-400), 400, [(31, 0)])), (0, 4, 4, ((-400), 400, [(32, 0)])), (0, 5, 5, (0, 400, [(33, 0)])), (0, 6, 6, (0, 1, [])), (226, 9, 9, (0, 400, [(1, 0)])), (226, 15, 15, (0, 400, [(2, 0)]))]), ([(0, 0, 6), (226, 9, 9), (226, 11, 12), (226, 15, 15), (227, 1273, 1276), (227, 1293, 2092)], []), [(.inr (some (.inl (ck_one 0))), 245, ([], [], [(0, 2, 2, ck_one 7), (0, 0, 0, (0, 400, [])), (0, 3, 3, ((-400), 400, [(1000031, 0)])), (0, 4, 4, ((-400), 400, [])), (0, 5, 5, (0, 400, [(1000033, 0)])), (0, 6, 6, (0, 1, [])), (226, 9, 9, (0, 400, [(1000001, 0)]))])), (.inr (some (.inl (ck_one 1))), 245, ([], [], [(0, 0, 0, ck_one 0), (0, 2, 2, ck_one 8), (0, 6, 6, ck_one 0), (0, 5, 5, (0, 400, [(1000033, 0), (1000031, 4)])), (226, 11, 11, (0, 400, [(1000001, 0)])), (0, 3, 3, (0, 400, [(1000033, 0), (1000031, 4)])), (0, 4, 4, ck_one 0), (226, 9, 9, (0, 400, [(1000001, 0)])), (226, 12, 12, ck_one 0), (227, 1274, 1274, (0, 20, [])), (227, 1273, 1273, (0, 2, []))]))])
noncomputable def pg_s81_E : List (Nat × List ck_Sum) := [(250, [pg_s4, pg_s5, pg_s6]), (256, [pg_s8]), (269, [pg_s10]), (275, [pg_s66])]
set_option maxRecDepth 100000 in
noncomputable def pg_s81_F111 : ck_F := ([], [], [(0, 5, 5, (0, 400, [(1000033, 0), (1000031, 4)])), (226, 11, 11, (0, 399, [])), (227, 1274, 1274, (0, 20, [])), (227, 1273, 1273, (0, 2, [])), (0, 4, 4, (1, 4, [])), (0, 2, 2, ck_one 7), (0, 0, 0, (0, 400, [(30, 0)])), (0, 3, 3, ((-400), 400, [(1000031, 0)])), (0, 6, 6, (0, 1, [])), (226, 9, 9, (0, 400, [(1000001, 0)])), (226, 15, 15, (0, 400, [(2, 0)]))])
noncomputable def pg_s81_C111 : ck_C := (rl_A 7, pg_s81_F111, 0, .inl 2, true)
set_option maxRecDepth 100000 in
noncomputable def pg_s81_F147 : ck_F := ([], [], [(0, 5, 5, (0, 400, [(1000033, 0), (1000031, 4)])), (226, 11, 11, (0, 400, [(1000001, 0)])), (0, 3, 3, (0, 400, [(1000033, 0), (1000031, 4)])), (0, 4, 4, ck_one 0), (226, 9, 9, (0, 400, [(1000001, 0)])), (226, 12, 12, ck_one 0), (0, 0, 0, (0, 1, [])), (0, 6, 6, ck_one 1), (227, 1274, 1274, (0, 20, [])), (227, 1273, 1273, (0, 2, [])), (0, 2, 2, ck_one 7), (226, 15, 15, (0, 400, []))])
noncomputable def pg_s81_C147 : ck_C := (rl_A 7, pg_s81_F147, 0, .inl 2, true)
noncomputable def pg_s81_Z : List (Nat × ck_C) := [(147, pg_s81_C147), (111, pg_s81_C111)]
set_option maxRecDepth 100000 in
theorem pg_s81_a : (decide (pg_s81.2.2.1.length ≤ gm_ml 274) && ck_go pg_O none [] pg_s81_E 274 pg_s81.1.1 pg_s81.2.1 pg_s81.2.2.2.2.1 pg_s81.2.2.2.2.2 pg_s81_Z 416 false [(147, pg_s81_C147, 0, 0, 245), (111, pg_s81_C111, 0, 0, 245)] pg_s81.1.2.1 pg_s81.1.2.2 0 (pg_s81.2.2.1.map some ++ List.replicate (gm_ml 274 - pg_s81.2.2.1.length) none) [] pg_s81.2.1 pg_s81.2.2.2.1) = true := by decide +kernel
set_option maxRecDepth 100000 in
theorem pg_s81_b : ck_go pg_O none [] pg_s81_E 274 pg_s81.1.1 245 pg_s81.2.2.2.2.1 pg_s81.2.2.2.2.2 pg_s81_Z 416 false [(147, pg_s81_C147, 0, 0, 245)] 0 0 123 (rl_A 7) [] 245 (rl_F1 7 pg_s81_F111) = true := by decide +kernel
set_option maxRecDepth 100000 in
theorem pg_s81_c : ck_go pg_O none [] pg_s81_E 274 pg_s81.1.1 245 pg_s81.2.2.2.2.1 pg_s81.2.2.2.2.2 pg_s81_Z 416 false [] 0 0 159 (rl_A 7) [] 245 (rl_F2 7 pg_s81_F147) = true := by decide +kernel
theorem pg_s81_u : ck_cu pg_s81_Z = true := by decide +kernel
theorem pg_s81_h {X : Int → Int} {LX : Nat} : ck_nmu pg_O ∧ ck_OkE pg_O X LX pg_s81_E := ⟨pg_nmu, ck_E1 (ck_S1 pg_s4_s (ck_S1 pg_s5_s (ck_S1 pg_s6_s ck_S0))) (ck_E1 (ck_S1 pg_s8_s ck_S0) (ck_E1 (ck_S1 pg_s10_s ck_S0) (ck_E1 (ck_S1 pg_s66_s ck_S0) ck_E0)))⟩
theorem pg_s81_y147 {X : Int → Int} {LX : Nat} {σ σ0 : Nat → Int} {K0 : gm_K} {R0 : gm_R} {M0 : gm_M} (hσ : ∀ s, s < 100 → σ s = σ0 s) : ck_Hy pg_O X LX 274 pg_s81.1.1 pg_s81.2.2.2.2.1 245 K0 R0 M0 (ck_Q pg_O σ0 pg_s81.2.2.2.2.1 245 K0 R0 M0 pg_s81.2.2.2.2.2) σ (147, pg_s81_C147, 0, 0, 245) := rl_147 pg_s81_u pg_s81_h hσ (by decide) (by decide +kernel) (by decide +kernel) ⟨by decide +kernel, by decide +kernel, by decide +kernel, by decide +kernel, by decide +kernel⟩ pg_s81_c (fun _ h => nomatch h)
theorem pg_s81_y111 {X : Int → Int} {LX : Nat} {σ σ0 : Nat → Int} {K0 : gm_K} {R0 : gm_R} {M0 : gm_M} (hσ : ∀ s, s < 100 → σ s = σ0 s) : ck_Hy pg_O X LX 274 pg_s81.1.1 pg_s81.2.2.2.2.1 245 K0 R0 M0 (ck_Q pg_O σ0 pg_s81.2.2.2.2.1 245 K0 R0 M0 pg_s81.2.2.2.2.2) σ (111, pg_s81_C111, 0, 0, 245) := rl_111 pg_s81_u pg_s81_h hσ (by decide) (by decide +kernel) ⟨by decide +kernel, by decide +kernel, by decide +kernel, by decide +kernel⟩ pg_s81_b (fun h hm => by
  rw [List.mem_singleton.mp hm]
  exact ⟨List.mem_cons_self, pg_s81_y147 hσ⟩)
theorem pg_s81_s {X : Int → Int} {LX : Nat} : ck_Ok pg_O X LX 274 pg_s81 := by
  refine ck_ok_st (cuts := pg_s81_Z) pg_s81_u pg_s81_h pg_s81_a (fun h hm => ?_)
  rcases List.mem_cons.mp hm with rfl | hm
  · exact ⟨List.mem_cons_self, fun σ K0 R0 M0 => pg_s81_y147 (fun _ _ => rfl)⟩
  rw [List.mem_singleton.mp hm]
  exact ⟨List.mem_cons_of_mem _ List.mem_cons_self, fun σ K0 R0 M0 => pg_s81_y111 (fun _ _ => rfl)⟩
set_option maxRecDepth 100000 in
/-- GlacierMailModel.readLine -/
noncomputable def pg_s82 : ck_Sum := ((31, 0, 0), 245, [.inr (.inr (.inl 226)), .inl (ck_one 0), .inl (ck_one 7)], ([], [], [(0, 2, 2, ck_one 7), (0, 0, 0, (0, 400, [(30, 0)])), (0, 3, 3, ((-400), 400, [(31, 0)])), (0, 4, 4, ((-400), 400, [(32, 0)])), (0, 5, 5, (0, 400, [(33, 0)])), (0, 6, 6, (0, 1, [])), (226, 9, 9, (0, 400, [(1, 0)])), (226, 15, 15, (0, 400, [(2, 0)]))]), ([(0, 0, 6), (226, 9, 9), (226, 11, 12), (226, 15, 15), (227, 1273, 1276), (227, 1293, 2092)], []), [(.inr (some (.inl (ck_one 0))), 245, ([], [], [(0, 2, 2, ck_one 7), (0, 0, 0, (0, 400, [])), (0, 3, 3, (0, 400, [(1000033, 0)])), (0, 4, 4, ((-400), 400, [])), (0, 5, 5, (0, 400, [(1000033, 0)])), (0, 6, 6, (0, 1, [])), (226, 9, 9, (0, 400, [(1000001, 0)]))])), (.inr (some (.inl (ck_one 1))), 245, ([], [], [(0, 5, 5, (4, 400, [(1000033, 4)])), (226, 11, 11, (0, 400, [(1000001, 0)])), (0, 0, 0, ck_one 0), (0, 2, 2, ck_one 8), (0, 6, 6, ck_one 0), (0, 3, 3, (4, 400, [(1000033, 4)])), (0, 4, 4, ck_one 0), (226, 9, 9, (0, 400, [(1000001, 0)])), (226, 12, 12, ck_one 0), (227, 1274, 1274, (0, 20, [])), (227, 1273, 1273, (0, 2, []))]))])
set_option maxRecDepth 100000 in
theorem pg_s82_s {X : Int → Int} {LX : Nat} : ck_Ok pg_O X LX 247 pg_s82 := ck_okq (cuts := []) (f := 102) ⟨pg_nmu, ck_E1 (ck_S1 pg_s3_s ck_S0) (ck_E1 (ck_S1 pg_s81_s ck_S0) ck_E0)⟩ (by decide +kernel)
set_option maxRecDepth 100000 in
/-- GlacierMailModel.readLawLine -/
noncomputable def pg_s83 : ck_Sum := ((30, 0, 0), 245, [.inr (.inr (.inl 226)), .inl (ck_one 8)], ([], [], [(0, 2, 2, ck_one 8), (0, 0, 0, (0, 400, [(30, 0)])), (0, 3, 3, ((-400), 400, [(31, 0)])), (0, 4, 4, ((-400), 400, [(32, 0)])), (0, 5, 5, (0, 400, [(33, 0)])), (0, 6, 6, (0, 1, [])), (226, 9, 9, (0, 400, [(1, 0)])), (226, 15, 15, (0, 400, [(2, 0)]))]), ([(0, 0, 6), (226, 9, 9), (226, 11, 12), (226, 15, 15), (227, 1277, 1280), (227, 1293, 2092)], []), [(.inr (some (.inl (ck_one 0))), 245, ([], [], [(0, 2, 2, ck_one 8), (0, 0, 0, (0, 400, [])), (0, 3, 3, ((-400), 400, [(1000031, 0)])), (0, 4, 4, ((-400), 400, [])), (0, 5, 5, (0, 400, [(1000033, 0)])), (0, 6, 6, (0, 1, [])), (226, 9, 9, (0, 400, [(1000001, 0)]))])), (.inr (some (.inl (ck_one 1))), 245, ([], [], [(0, 0, 0, ck_one 0), (0, 2, 2, ck_one 9), (0, 6, 6, ck_one 0), (0, 5, 5, (0, 400, [(1000033, 0), (1000031, 4)])), (226, 11, 11, (0, 400, [(1000001, 0)])), (0, 3, 3, (0, 400, [(1000033, 0), (1000031, 4)])), (0, 4, 4, ck_one 0), (226, 9, 9, (0, 400, [(1000001, 0)])), (226, 12, 12, ck_one 0), (227, 1278, 1278, (0, 20, [])), (227, 1277, 1277, (0, 2, []))]))])
noncomputable def pg_s83_E : List (Nat × List ck_Sum) := [(250, [pg_s4, pg_s5, pg_s6]), (256, [pg_s8]), (269, [pg_s10]), (275, [pg_s66])]
set_option maxRecDepth 100000 in
noncomputable def pg_s83_F111 : ck_F := ([], [], [(0, 5, 5, (0, 400, [(1000033, 0), (1000031, 4)])), (226, 11, 11, (0, 399, [])), (227, 1278, 1278, (0, 20, [])), (227, 1277, 1277, (0, 2, [])), (0, 4, 4, (1, 4, [])), (0, 2, 2, ck_one 8), (0, 0, 0, (0, 400, [(30, 0)])), (0, 3, 3, ((-400), 400, [(1000031, 0)])), (0, 6, 6, (0, 1, [])), (226, 9, 9, (0, 400, [(1000001, 0)])), (226, 15, 15, (0, 400, [(2, 0)]))])
noncomputable def pg_s83_C111 : ck_C := (rl_A 8, pg_s83_F111, 0, .inl 2, true)
set_option maxRecDepth 100000 in
noncomputable def pg_s83_F147 : ck_F := ([], [], [(0, 5, 5, (0, 400, [(1000033, 0), (1000031, 4)])), (226, 11, 11, (0, 400, [(1000001, 0)])), (0, 3, 3, (0, 400, [(1000033, 0), (1000031, 4)])), (0, 4, 4, ck_one 0), (226, 9, 9, (0, 400, [(1000001, 0)])), (226, 12, 12, ck_one 0), (0, 0, 0, (0, 1, [])), (0, 6, 6, ck_one 1), (227, 1278, 1278, (0, 20, [])), (227, 1277, 1277, (0, 2, [])), (0, 2, 2, ck_one 8), (226, 15, 15, (0, 400, []))])
noncomputable def pg_s83_C147 : ck_C := (rl_A 8, pg_s83_F147, 0, .inl 2, true)
noncomputable def pg_s83_Z : List (Nat × ck_C) := [(147, pg_s83_C147), (111, pg_s83_C111)]
set_option maxRecDepth 100000 in
theorem pg_s83_a : (decide (pg_s83.2.2.1.length ≤ gm_ml 274) && ck_go pg_O none [] pg_s83_E 274 pg_s83.1.1 pg_s83.2.1 pg_s83.2.2.2.2.1 pg_s83.2.2.2.2.2 pg_s83_Z 416 false [(147, pg_s83_C147, 0, 0, 245), (111, pg_s83_C111, 0, 0, 245)] pg_s83.1.2.1 pg_s83.1.2.2 0 (pg_s83.2.2.1.map some ++ List.replicate (gm_ml 274 - pg_s83.2.2.1.length) none) [] pg_s83.2.1 pg_s83.2.2.2.1) = true := by decide +kernel
set_option maxRecDepth 100000 in
theorem pg_s83_b : ck_go pg_O none [] pg_s83_E 274 pg_s83.1.1 245 pg_s83.2.2.2.2.1 pg_s83.2.2.2.2.2 pg_s83_Z 416 false [(147, pg_s83_C147, 0, 0, 245)] 0 0 123 (rl_A 8) [] 245 (rl_F1 8 pg_s83_F111) = true := by decide +kernel
set_option maxRecDepth 100000 in
theorem pg_s83_c : ck_go pg_O none [] pg_s83_E 274 pg_s83.1.1 245 pg_s83.2.2.2.2.1 pg_s83.2.2.2.2.2 pg_s83_Z 416 false [] 0 0 159 (rl_A 8) [] 245 (rl_F2 8 pg_s83_F147) = true := by decide +kernel
theorem pg_s83_u : ck_cu pg_s83_Z = true := by decide +kernel
theorem pg_s83_h {X : Int → Int} {LX : Nat} : ck_nmu pg_O ∧ ck_OkE pg_O X LX pg_s83_E := ⟨pg_nmu, ck_E1 (ck_S1 pg_s4_s (ck_S1 pg_s5_s (ck_S1 pg_s6_s ck_S0))) (ck_E1 (ck_S1 pg_s8_s ck_S0) (ck_E1 (ck_S1 pg_s10_s ck_S0) (ck_E1 (ck_S1 pg_s66_s ck_S0) ck_E0)))⟩
theorem pg_s83_y147 {X : Int → Int} {LX : Nat} {σ σ0 : Nat → Int} {K0 : gm_K} {R0 : gm_R} {M0 : gm_M} (hσ : ∀ s, s < 100 → σ s = σ0 s) : ck_Hy pg_O X LX 274 pg_s83.1.1 pg_s83.2.2.2.2.1 245 K0 R0 M0 (ck_Q pg_O σ0 pg_s83.2.2.2.2.1 245 K0 R0 M0 pg_s83.2.2.2.2.2) σ (147, pg_s83_C147, 0, 0, 245) := rl_147 pg_s83_u pg_s83_h hσ (by decide) (by decide +kernel) (by decide +kernel) ⟨by decide +kernel, by decide +kernel, by decide +kernel, by decide +kernel, by decide +kernel⟩ pg_s83_c (fun _ h => nomatch h)
theorem pg_s83_y111 {X : Int → Int} {LX : Nat} {σ σ0 : Nat → Int} {K0 : gm_K} {R0 : gm_R} {M0 : gm_M} (hσ : ∀ s, s < 100 → σ s = σ0 s) : ck_Hy pg_O X LX 274 pg_s83.1.1 pg_s83.2.2.2.2.1 245 K0 R0 M0 (ck_Q pg_O σ0 pg_s83.2.2.2.2.1 245 K0 R0 M0 pg_s83.2.2.2.2.2) σ (111, pg_s83_C111, 0, 0, 245) := rl_111 pg_s83_u pg_s83_h hσ (by decide) (by decide +kernel) ⟨by decide +kernel, by decide +kernel, by decide +kernel, by decide +kernel⟩ pg_s83_b (fun h hm => by
  rw [List.mem_singleton.mp hm]
  exact ⟨List.mem_cons_self, pg_s83_y147 hσ⟩)
theorem pg_s83_s {X : Int → Int} {LX : Nat} : ck_Ok pg_O X LX 274 pg_s83 := by
  refine ck_ok_st (cuts := pg_s83_Z) pg_s83_u pg_s83_h pg_s83_a (fun h hm => ?_)
  rcases List.mem_cons.mp hm with rfl | hm
  · exact ⟨List.mem_cons_self, fun σ K0 R0 M0 => pg_s83_y147 (fun _ _ => rfl)⟩
  rw [List.mem_singleton.mp hm]
  exact ⟨List.mem_cons_of_mem _ List.mem_cons_self, fun σ K0 R0 M0 => pg_s83_y111 (fun _ _ => rfl)⟩
set_option maxRecDepth 100000 in
/-- GlacierMailModel.readLine -/
noncomputable def pg_s84 : ck_Sum := ((31, 0, 0), 245, [.inr (.inr (.inl 226)), .inl (ck_one 0), .inl (ck_one 8)], ([], [], [(0, 2, 2, ck_one 8), (0, 0, 0, (0, 400, [(30, 0)])), (0, 3, 3, ((-400), 400, [(31, 0)])), (0, 4, 4, ((-400), 400, [(32, 0)])), (0, 5, 5, (0, 400, [(33, 0)])), (0, 6, 6, (0, 1, [])), (226, 9, 9, (0, 400, [(1, 0)])), (226, 15, 15, (0, 400, [(2, 0)]))]), ([(0, 0, 6), (226, 9, 9), (226, 11, 12), (226, 15, 15), (227, 1277, 1280), (227, 1293, 2092)], []), [(.inr (some (.inl (ck_one 0))), 245, ([], [], [(0, 2, 2, ck_one 8), (0, 0, 0, (0, 400, [])), (0, 3, 3, (0, 400, [(1000033, 0)])), (0, 4, 4, ((-400), 400, [])), (0, 5, 5, (0, 400, [(1000033, 0)])), (0, 6, 6, (0, 1, [])), (226, 9, 9, (0, 400, [(1000001, 0)]))])), (.inr (some (.inl (ck_one 1))), 245, ([], [], [(0, 5, 5, (4, 400, [(1000033, 4)])), (226, 11, 11, (0, 400, [(1000001, 0)])), (0, 0, 0, ck_one 0), (0, 2, 2, ck_one 9), (0, 6, 6, ck_one 0), (0, 3, 3, (4, 400, [(1000033, 4)])), (0, 4, 4, ck_one 0), (226, 9, 9, (0, 400, [(1000001, 0)])), (226, 12, 12, ck_one 0), (227, 1278, 1278, (0, 20, [])), (227, 1277, 1277, (0, 2, []))]))])
set_option maxRecDepth 100000 in
theorem pg_s84_s {X : Int → Int} {LX : Nat} : ck_Ok pg_O X LX 247 pg_s84 := ck_okq (cuts := []) (f := 102) ⟨pg_nmu, ck_E1 (ck_S1 pg_s3_s ck_S0) (ck_E1 (ck_S1 pg_s83_s ck_S0) ck_E0)⟩ (by decide +kernel)
set_option maxRecDepth 100000 in
/-- GlacierMailModel.readLawLine -/
noncomputable def pg_s85 : ck_Sum := ((30, 0, 0), 245, [.inr (.inr (.inl 226)), .inl (ck_one 9)], ([], [], [(0, 2, 2, ck_one 9), (0, 0, 0, (0, 400, [(30, 0)])), (0, 3, 3, ((-400), 400, [(31, 0)])), (0, 4, 4, ((-400), 400, [(32, 0)])), (0, 5, 5, (0, 400, [(33, 0)])), (0, 6, 6, (0, 1, [])), (226, 9, 9, (0, 400, [(1, 0)])), (226, 15, 15, (0, 400, [(2, 0)]))]), ([(0, 0, 6), (226, 9, 9), (226, 11, 12), (226, 15, 15), (227, 1281, 1284), (227, 1293, 2092)], []), [(.inr (some (.inl (ck_one 0))), 245, ([], [], [(0, 2, 2, ck_one 9), (0, 0, 0, (0, 400, [])), (0, 3, 3, ((-400), 400, [(1000031, 0)])), (0, 4, 4, ((-400), 400, [])), (0, 5, 5, (0, 400, [(1000033, 0)])), (0, 6, 6, (0, 1, [])), (226, 9, 9, (0, 400, [(1000001, 0)]))])), (.inr (some (.inl (ck_one 1))), 245, ([], [], [(0, 0, 0, ck_one 0), (0, 2, 2, ck_one 10), (0, 6, 6, ck_one 0), (0, 5, 5, (0, 400, [(1000033, 0), (1000031, 4)])), (226, 11, 11, (0, 400, [(1000001, 0)])), (0, 3, 3, (0, 400, [(1000033, 0), (1000031, 4)])), (0, 4, 4, ck_one 0), (226, 9, 9, (0, 400, [(1000001, 0)])), (226, 12, 12, ck_one 0), (227, 1282, 1282, (0, 20, [])), (227, 1281, 1281, (0, 2, []))]))])
noncomputable def pg_s85_E : List (Nat × List ck_Sum) := [(250, [pg_s4, pg_s5, pg_s6]), (256, [pg_s8]), (269, [pg_s10]), (275, [pg_s66])]
set_option maxRecDepth 100000 in
noncomputable def pg_s85_F111 : ck_F := ([], [], [(0, 5, 5, (0, 400, [(1000033, 0), (1000031, 4)])), (226, 11, 11, (0, 399, [])), (227, 1282, 1282, (0, 20, [])), (227, 1281, 1281, (0, 2, [])), (0, 4, 4, (1, 4, [])), (0, 2, 2, ck_one 9), (0, 0, 0, (0, 400, [(30, 0)])), (0, 3, 3, ((-400), 400, [(1000031, 0)])), (0, 6, 6, (0, 1, [])), (226, 9, 9, (0, 400, [(1000001, 0)])), (226, 15, 15, (0, 400, [(2, 0)]))])
noncomputable def pg_s85_C111 : ck_C := (rl_A 9, pg_s85_F111, 0, .inl 2, true)
set_option maxRecDepth 100000 in
noncomputable def pg_s85_F147 : ck_F := ([], [], [(0, 5, 5, (0, 400, [(1000033, 0), (1000031, 4)])), (226, 11, 11, (0, 400, [(1000001, 0)])), (0, 3, 3, (0, 400, [(1000033, 0), (1000031, 4)])), (0, 4, 4, ck_one 0), (226, 9, 9, (0, 400, [(1000001, 0)])), (226, 12, 12, ck_one 0), (0, 0, 0, (0, 1, [])), (0, 6, 6, ck_one 1), (227, 1282, 1282, (0, 20, [])), (227, 1281, 1281, (0, 2, [])), (0, 2, 2, ck_one 9), (226, 15, 15, (0, 400, []))])
noncomputable def pg_s85_C147 : ck_C := (rl_A 9, pg_s85_F147, 0, .inl 2, true)
noncomputable def pg_s85_Z : List (Nat × ck_C) := [(147, pg_s85_C147), (111, pg_s85_C111)]
set_option maxRecDepth 100000 in
theorem pg_s85_a : (decide (pg_s85.2.2.1.length ≤ gm_ml 274) && ck_go pg_O none [] pg_s85_E 274 pg_s85.1.1 pg_s85.2.1 pg_s85.2.2.2.2.1 pg_s85.2.2.2.2.2 pg_s85_Z 416 false [(147, pg_s85_C147, 0, 0, 245), (111, pg_s85_C111, 0, 0, 245)] pg_s85.1.2.1 pg_s85.1.2.2 0 (pg_s85.2.2.1.map some ++ List.replicate (gm_ml 274 - pg_s85.2.2.1.length) none) [] pg_s85.2.1 pg_s85.2.2.2.1) = true := by decide +kernel
set_option maxRecDepth 100000 in
theorem pg_s85_b : ck_go pg_O none [] pg_s85_E 274 pg_s85.1.1 245 pg_s85.2.2.2.2.1 pg_s85.2.2.2.2.2 pg_s85_Z 416 false [(147, pg_s85_C147, 0, 0, 245)] 0 0 123 (rl_A 9) [] 245 (rl_F1 9 pg_s85_F111) = true := by decide +kernel
set_option maxRecDepth 100000 in
theorem pg_s85_c : ck_go pg_O none [] pg_s85_E 274 pg_s85.1.1 245 pg_s85.2.2.2.2.1 pg_s85.2.2.2.2.2 pg_s85_Z 416 false [] 0 0 159 (rl_A 9) [] 245 (rl_F2 9 pg_s85_F147) = true := by decide +kernel
theorem pg_s85_u : ck_cu pg_s85_Z = true := by decide +kernel
theorem pg_s85_h {X : Int → Int} {LX : Nat} : ck_nmu pg_O ∧ ck_OkE pg_O X LX pg_s85_E := ⟨pg_nmu, ck_E1 (ck_S1 pg_s4_s (ck_S1 pg_s5_s (ck_S1 pg_s6_s ck_S0))) (ck_E1 (ck_S1 pg_s8_s ck_S0) (ck_E1 (ck_S1 pg_s10_s ck_S0) (ck_E1 (ck_S1 pg_s66_s ck_S0) ck_E0)))⟩
theorem pg_s85_y147 {X : Int → Int} {LX : Nat} {σ σ0 : Nat → Int} {K0 : gm_K} {R0 : gm_R} {M0 : gm_M} (hσ : ∀ s, s < 100 → σ s = σ0 s) : ck_Hy pg_O X LX 274 pg_s85.1.1 pg_s85.2.2.2.2.1 245 K0 R0 M0 (ck_Q pg_O σ0 pg_s85.2.2.2.2.1 245 K0 R0 M0 pg_s85.2.2.2.2.2) σ (147, pg_s85_C147, 0, 0, 245) := rl_147 pg_s85_u pg_s85_h hσ (by decide) (by decide +kernel) (by decide +kernel) ⟨by decide +kernel, by decide +kernel, by decide +kernel, by decide +kernel, by decide +kernel⟩ pg_s85_c (fun _ h => nomatch h)
theorem pg_s85_y111 {X : Int → Int} {LX : Nat} {σ σ0 : Nat → Int} {K0 : gm_K} {R0 : gm_R} {M0 : gm_M} (hσ : ∀ s, s < 100 → σ s = σ0 s) : ck_Hy pg_O X LX 274 pg_s85.1.1 pg_s85.2.2.2.2.1 245 K0 R0 M0 (ck_Q pg_O σ0 pg_s85.2.2.2.2.1 245 K0 R0 M0 pg_s85.2.2.2.2.2) σ (111, pg_s85_C111, 0, 0, 245) := rl_111 pg_s85_u pg_s85_h hσ (by decide) (by decide +kernel) ⟨by decide +kernel, by decide +kernel, by decide +kernel, by decide +kernel⟩ pg_s85_b (fun h hm => by
  rw [List.mem_singleton.mp hm]
  exact ⟨List.mem_cons_self, pg_s85_y147 hσ⟩)
theorem pg_s85_s {X : Int → Int} {LX : Nat} : ck_Ok pg_O X LX 274 pg_s85 := by
  refine ck_ok_st (cuts := pg_s85_Z) pg_s85_u pg_s85_h pg_s85_a (fun h hm => ?_)
  rcases List.mem_cons.mp hm with rfl | hm
  · exact ⟨List.mem_cons_self, fun σ K0 R0 M0 => pg_s85_y147 (fun _ _ => rfl)⟩
  rw [List.mem_singleton.mp hm]
  exact ⟨List.mem_cons_of_mem _ List.mem_cons_self, fun σ K0 R0 M0 => pg_s85_y111 (fun _ _ => rfl)⟩
set_option maxRecDepth 100000 in
/-- GlacierMailModel.readLine -/
noncomputable def pg_s86 : ck_Sum := ((31, 0, 0), 245, [.inr (.inr (.inl 226)), .inl (ck_one 0), .inl (ck_one 9)], ([], [], [(0, 2, 2, ck_one 9), (0, 0, 0, (0, 400, [(30, 0)])), (0, 3, 3, ((-400), 400, [(31, 0)])), (0, 4, 4, ((-400), 400, [(32, 0)])), (0, 5, 5, (0, 400, [(33, 0)])), (0, 6, 6, (0, 1, [])), (226, 9, 9, (0, 400, [(1, 0)])), (226, 15, 15, (0, 400, [(2, 0)]))]), ([(0, 0, 6), (226, 9, 9), (226, 11, 12), (226, 15, 15), (227, 1281, 1284), (227, 1293, 2092)], []), [(.inr (some (.inl (ck_one 0))), 245, ([], [], [(0, 2, 2, ck_one 9), (0, 0, 0, (0, 400, [])), (0, 3, 3, (0, 400, [(1000033, 0)])), (0, 4, 4, ((-400), 400, [])), (0, 5, 5, (0, 400, [(1000033, 0)])), (0, 6, 6, (0, 1, [])), (226, 9, 9, (0, 400, [(1000001, 0)]))])), (.inr (some (.inl (ck_one 1))), 245, ([], [], [(0, 5, 5, (4, 400, [(1000033, 4)])), (226, 11, 11, (0, 400, [(1000001, 0)])), (0, 0, 0, ck_one 0), (0, 2, 2, ck_one 10), (0, 6, 6, ck_one 0), (0, 3, 3, (4, 400, [(1000033, 4)])), (0, 4, 4, ck_one 0), (226, 9, 9, (0, 400, [(1000001, 0)])), (226, 12, 12, ck_one 0), (227, 1282, 1282, (0, 20, [])), (227, 1281, 1281, (0, 2, []))]))])
set_option maxRecDepth 100000 in
theorem pg_s86_s {X : Int → Int} {LX : Nat} : ck_Ok pg_O X LX 247 pg_s86 := ck_okq (cuts := []) (f := 102) ⟨pg_nmu, ck_E1 (ck_S1 pg_s3_s ck_S0) (ck_E1 (ck_S1 pg_s85_s ck_S0) ck_E0)⟩ (by decide +kernel)
set_option maxRecDepth 100000 in
/-- GlacierMailModel.readLawLine -/
noncomputable def pg_s87 : ck_Sum := ((30, 0, 0), 245, [.inr (.inr (.inl 226)), .inl (ck_one 10)], ([], [], [(0, 2, 2, ck_one 10), (0, 0, 0, (0, 400, [(30, 0)])), (0, 3, 3, ((-400), 400, [(31, 0)])), (0, 4, 4, ((-400), 400, [(32, 0)])), (0, 5, 5, (0, 400, [(33, 0)])), (0, 6, 6, (0, 1, [])), (226, 9, 9, (0, 400, [(1, 0)])), (226, 15, 15, (0, 400, [(2, 0)]))]), ([(0, 0, 6), (226, 9, 9), (226, 11, 12), (226, 15, 15), (227, 1285, 1288), (227, 1293, 2092)], []), [(.inr (some (.inl (ck_one 0))), 245, ([], [], [(0, 2, 2, ck_one 10), (0, 0, 0, (0, 400, [])), (0, 3, 3, ((-400), 400, [(1000031, 0)])), (0, 4, 4, ((-400), 400, [])), (0, 5, 5, (0, 400, [(1000033, 0)])), (0, 6, 6, (0, 1, [])), (226, 9, 9, (0, 400, [(1000001, 0)]))])), (.inr (some (.inl (ck_one 1))), 245, ([], [], [(0, 0, 0, ck_one 0), (0, 2, 2, ck_one 11), (0, 6, 6, ck_one 0), (0, 5, 5, (0, 400, [(1000033, 0), (1000031, 4)])), (226, 11, 11, (0, 400, [(1000001, 0)])), (0, 3, 3, (0, 400, [(1000033, 0), (1000031, 4)])), (0, 4, 4, ck_one 0), (226, 9, 9, (0, 400, [(1000001, 0)])), (226, 12, 12, ck_one 0), (227, 1286, 1286, (0, 20, [])), (227, 1285, 1285, (0, 2, []))]))])
noncomputable def pg_s87_E : List (Nat × List ck_Sum) := [(250, [pg_s4, pg_s5, pg_s6]), (256, [pg_s8]), (269, [pg_s10]), (275, [pg_s66])]
set_option maxRecDepth 100000 in
noncomputable def pg_s87_F111 : ck_F := ([], [], [(0, 5, 5, (0, 400, [(1000033, 0), (1000031, 4)])), (226, 11, 11, (0, 399, [])), (227, 1286, 1286, (0, 20, [])), (227, 1285, 1285, (0, 2, [])), (0, 4, 4, (1, 4, [])), (0, 2, 2, ck_one 10), (0, 0, 0, (0, 400, [(30, 0)])), (0, 3, 3, ((-400), 400, [(1000031, 0)])), (0, 6, 6, (0, 1, [])), (226, 9, 9, (0, 400, [(1000001, 0)])), (226, 15, 15, (0, 400, [(2, 0)]))])
noncomputable def pg_s87_C111 : ck_C := (rl_A 10, pg_s87_F111, 0, .inl 2, true)
set_option maxRecDepth 100000 in
noncomputable def pg_s87_F147 : ck_F := ([], [], [(0, 5, 5, (0, 400, [(1000033, 0), (1000031, 4)])), (226, 11, 11, (0, 400, [(1000001, 0)])), (0, 3, 3, (0, 400, [(1000033, 0), (1000031, 4)])), (0, 4, 4, ck_one 0), (226, 9, 9, (0, 400, [(1000001, 0)])), (226, 12, 12, ck_one 0), (0, 0, 0, (0, 1, [])), (0, 6, 6, ck_one 1), (227, 1286, 1286, (0, 20, [])), (227, 1285, 1285, (0, 2, [])), (0, 2, 2, ck_one 10), (226, 15, 15, (0, 400, []))])
noncomputable def pg_s87_C147 : ck_C := (rl_A 10, pg_s87_F147, 0, .inl 2, true)
noncomputable def pg_s87_Z : List (Nat × ck_C) := [(147, pg_s87_C147), (111, pg_s87_C111)]
set_option maxRecDepth 100000 in
theorem pg_s87_a : (decide (pg_s87.2.2.1.length ≤ gm_ml 274) && ck_go pg_O none [] pg_s87_E 274 pg_s87.1.1 pg_s87.2.1 pg_s87.2.2.2.2.1 pg_s87.2.2.2.2.2 pg_s87_Z 416 false [(147, pg_s87_C147, 0, 0, 245), (111, pg_s87_C111, 0, 0, 245)] pg_s87.1.2.1 pg_s87.1.2.2 0 (pg_s87.2.2.1.map some ++ List.replicate (gm_ml 274 - pg_s87.2.2.1.length) none) [] pg_s87.2.1 pg_s87.2.2.2.1) = true := by decide +kernel
set_option maxRecDepth 100000 in
theorem pg_s87_b : ck_go pg_O none [] pg_s87_E 274 pg_s87.1.1 245 pg_s87.2.2.2.2.1 pg_s87.2.2.2.2.2 pg_s87_Z 416 false [(147, pg_s87_C147, 0, 0, 245)] 0 0 123 (rl_A 10) [] 245 (rl_F1 10 pg_s87_F111) = true := by decide +kernel
set_option maxRecDepth 100000 in
theorem pg_s87_c : ck_go pg_O none [] pg_s87_E 274 pg_s87.1.1 245 pg_s87.2.2.2.2.1 pg_s87.2.2.2.2.2 pg_s87_Z 416 false [] 0 0 159 (rl_A 10) [] 245 (rl_F2 10 pg_s87_F147) = true := by decide +kernel
theorem pg_s87_u : ck_cu pg_s87_Z = true := by decide +kernel
theorem pg_s87_h {X : Int → Int} {LX : Nat} : ck_nmu pg_O ∧ ck_OkE pg_O X LX pg_s87_E := ⟨pg_nmu, ck_E1 (ck_S1 pg_s4_s (ck_S1 pg_s5_s (ck_S1 pg_s6_s ck_S0))) (ck_E1 (ck_S1 pg_s8_s ck_S0) (ck_E1 (ck_S1 pg_s10_s ck_S0) (ck_E1 (ck_S1 pg_s66_s ck_S0) ck_E0)))⟩
theorem pg_s87_y147 {X : Int → Int} {LX : Nat} {σ σ0 : Nat → Int} {K0 : gm_K} {R0 : gm_R} {M0 : gm_M} (hσ : ∀ s, s < 100 → σ s = σ0 s) : ck_Hy pg_O X LX 274 pg_s87.1.1 pg_s87.2.2.2.2.1 245 K0 R0 M0 (ck_Q pg_O σ0 pg_s87.2.2.2.2.1 245 K0 R0 M0 pg_s87.2.2.2.2.2) σ (147, pg_s87_C147, 0, 0, 245) := rl_147 pg_s87_u pg_s87_h hσ (by decide) (by decide +kernel) (by decide +kernel) ⟨by decide +kernel, by decide +kernel, by decide +kernel, by decide +kernel, by decide +kernel⟩ pg_s87_c (fun _ h => nomatch h)
theorem pg_s87_y111 {X : Int → Int} {LX : Nat} {σ σ0 : Nat → Int} {K0 : gm_K} {R0 : gm_R} {M0 : gm_M} (hσ : ∀ s, s < 100 → σ s = σ0 s) : ck_Hy pg_O X LX 274 pg_s87.1.1 pg_s87.2.2.2.2.1 245 K0 R0 M0 (ck_Q pg_O σ0 pg_s87.2.2.2.2.1 245 K0 R0 M0 pg_s87.2.2.2.2.2) σ (111, pg_s87_C111, 0, 0, 245) := rl_111 pg_s87_u pg_s87_h hσ (by decide) (by decide +kernel) ⟨by decide +kernel, by decide +kernel, by decide +kernel, by decide +kernel⟩ pg_s87_b (fun h hm => by
  rw [List.mem_singleton.mp hm]
  exact ⟨List.mem_cons_self, pg_s87_y147 hσ⟩)
theorem pg_s87_s {X : Int → Int} {LX : Nat} : ck_Ok pg_O X LX 274 pg_s87 := by
  refine ck_ok_st (cuts := pg_s87_Z) pg_s87_u pg_s87_h pg_s87_a (fun h hm => ?_)
  rcases List.mem_cons.mp hm with rfl | hm
  · exact ⟨List.mem_cons_self, fun σ K0 R0 M0 => pg_s87_y147 (fun _ _ => rfl)⟩
  rw [List.mem_singleton.mp hm]
  exact ⟨List.mem_cons_of_mem _ List.mem_cons_self, fun σ K0 R0 M0 => pg_s87_y111 (fun _ _ => rfl)⟩
set_option maxRecDepth 100000 in
/-- GlacierMailModel.readLine -/
noncomputable def pg_s88 : ck_Sum := ((31, 0, 0), 245, [.inr (.inr (.inl 226)), .inl (ck_one 0), .inl (ck_one 10)], ([], [], [(0, 2, 2, ck_one 10), (0, 0, 0, (0, 400, [(30, 0)])), (0, 3, 3, ((-400), 400, [(31, 0)])), (0, 4, 4, ((-400), 400, [(32, 0)])), (0, 5, 5, (0, 400, [(33, 0)])), (0, 6, 6, (0, 1, [])), (226, 9, 9, (0, 400, [(1, 0)])), (226, 15, 15, (0, 400, [(2, 0)]))]), ([(0, 0, 6), (226, 9, 9), (226, 11, 12), (226, 15, 15), (227, 1285, 1288), (227, 1293, 2092)], []), [(.inr (some (.inl (ck_one 0))), 245, ([], [], [(0, 2, 2, ck_one 10), (0, 0, 0, (0, 400, [])), (0, 3, 3, (0, 400, [(1000033, 0)])), (0, 4, 4, ((-400), 400, [])), (0, 5, 5, (0, 400, [(1000033, 0)])), (0, 6, 6, (0, 1, [])), (226, 9, 9, (0, 400, [(1000001, 0)]))])), (.inr (some (.inl (ck_one 1))), 245, ([], [], [(0, 5, 5, (4, 400, [(1000033, 4)])), (226, 11, 11, (0, 400, [(1000001, 0)])), (0, 0, 0, ck_one 0), (0, 2, 2, ck_one 11), (0, 6, 6, ck_one 0), (0, 3, 3, (4, 400, [(1000033, 4)])), (0, 4, 4, ck_one 0), (226, 9, 9, (0, 400, [(1000001, 0)])), (226, 12, 12, ck_one 0), (227, 1286, 1286, (0, 20, [])), (227, 1285, 1285, (0, 2, []))]))])
set_option maxRecDepth 100000 in
theorem pg_s88_s {X : Int → Int} {LX : Nat} : ck_Ok pg_O X LX 247 pg_s88 := ck_okq (cuts := []) (f := 102) ⟨pg_nmu, ck_E1 (ck_S1 pg_s3_s ck_S0) (ck_E1 (ck_S1 pg_s87_s ck_S0) ck_E0)⟩ (by decide +kernel)
set_option maxRecDepth 100000 in
/-- GlacierMailModel.readLawLine -/
noncomputable def pg_s89 : ck_Sum := ((30, 0, 0), 245, [.inr (.inr (.inl 226)), .inl (ck_one 11)], ([], [], [(0, 2, 2, ck_one 11), (0, 0, 0, (0, 400, [(30, 0)])), (0, 3, 3, ((-400), 400, [(31, 0)])), (0, 4, 4, ((-400), 400, [(32, 0)])), (0, 5, 5, (0, 400, [(33, 0)])), (0, 6, 6, (0, 1, [])), (226, 9, 9, (0, 400, [(1, 0)])), (226, 15, 15, (0, 400, [(2, 0)]))]), ([(0, 0, 6), (226, 9, 9), (226, 11, 12), (226, 15, 15), (227, 1289, 2092)], []), [(.inr (some (.inl (ck_one 0))), 245, ([], [], [(0, 2, 2, ck_one 11), (0, 0, 0, (0, 400, [])), (0, 3, 3, ((-400), 400, [(1000031, 0)])), (0, 4, 4, ((-400), 400, [])), (0, 5, 5, (0, 400, [(1000033, 0)])), (0, 6, 6, (0, 1, [])), (226, 9, 9, (0, 400, [(1000001, 0)]))])), (.inr (some (.inl (ck_one 1))), 245, ([], [], [(0, 0, 0, ck_one 0), (0, 2, 2, ck_one 12), (0, 6, 6, ck_one 0), (0, 5, 5, (0, 400, [(1000033, 0), (1000031, 4)])), (226, 11, 11, (0, 400, [(1000001, 0)])), (0, 3, 3, (0, 400, [(1000033, 0), (1000031, 4)])), (0, 4, 4, ck_one 0), (226, 9, 9, (0, 400, [(1000001, 0)])), (226, 12, 12, ck_one 0), (227, 1290, 1290, (0, 20, [])), (227, 1289, 1289, (0, 2, []))]))])
noncomputable def pg_s89_E : List (Nat × List ck_Sum) := [(250, [pg_s4, pg_s5, pg_s6]), (256, [pg_s8]), (269, [pg_s10]), (275, [pg_s66])]
set_option maxRecDepth 100000 in
noncomputable def pg_s89_F111 : ck_F := ([], [], [(0, 5, 5, (0, 400, [(1000033, 0), (1000031, 4)])), (226, 11, 11, (0, 399, [])), (227, 1290, 1290, (0, 20, [])), (227, 1289, 1289, (0, 2, [])), (0, 4, 4, (1, 4, [])), (0, 2, 2, ck_one 11), (0, 0, 0, (0, 400, [(30, 0)])), (0, 3, 3, ((-400), 400, [(1000031, 0)])), (0, 6, 6, (0, 1, [])), (226, 9, 9, (0, 400, [(1000001, 0)])), (226, 15, 15, (0, 400, [(2, 0)]))])
noncomputable def pg_s89_C111 : ck_C := (rl_A 11, pg_s89_F111, 0, .inl 2, true)
set_option maxRecDepth 100000 in
noncomputable def pg_s89_F147 : ck_F := ([], [], [(0, 5, 5, (0, 400, [(1000033, 0), (1000031, 4)])), (226, 11, 11, (0, 400, [(1000001, 0)])), (0, 3, 3, (0, 400, [(1000033, 0), (1000031, 4)])), (0, 4, 4, ck_one 0), (226, 9, 9, (0, 400, [(1000001, 0)])), (226, 12, 12, ck_one 0), (0, 0, 0, (0, 1, [])), (0, 6, 6, ck_one 1), (227, 1290, 1290, (0, 20, [])), (227, 1289, 1289, (0, 2, [])), (0, 2, 2, ck_one 11), (226, 15, 15, (0, 400, []))])
noncomputable def pg_s89_C147 : ck_C := (rl_A 11, pg_s89_F147, 0, .inl 2, true)
noncomputable def pg_s89_Z : List (Nat × ck_C) := [(147, pg_s89_C147), (111, pg_s89_C111)]
set_option maxRecDepth 100000 in
theorem pg_s89_a : (decide (pg_s89.2.2.1.length ≤ gm_ml 274) && ck_go pg_O none [] pg_s89_E 274 pg_s89.1.1 pg_s89.2.1 pg_s89.2.2.2.2.1 pg_s89.2.2.2.2.2 pg_s89_Z 416 false [(147, pg_s89_C147, 0, 0, 245), (111, pg_s89_C111, 0, 0, 245)] pg_s89.1.2.1 pg_s89.1.2.2 0 (pg_s89.2.2.1.map some ++ List.replicate (gm_ml 274 - pg_s89.2.2.1.length) none) [] pg_s89.2.1 pg_s89.2.2.2.1) = true := by decide +kernel
set_option maxRecDepth 100000 in
theorem pg_s89_b : ck_go pg_O none [] pg_s89_E 274 pg_s89.1.1 245 pg_s89.2.2.2.2.1 pg_s89.2.2.2.2.2 pg_s89_Z 416 false [(147, pg_s89_C147, 0, 0, 245)] 0 0 123 (rl_A 11) [] 245 (rl_F1 11 pg_s89_F111) = true := by decide +kernel
set_option maxRecDepth 100000 in
theorem pg_s89_c : ck_go pg_O none [] pg_s89_E 274 pg_s89.1.1 245 pg_s89.2.2.2.2.1 pg_s89.2.2.2.2.2 pg_s89_Z 416 false [] 0 0 159 (rl_A 11) [] 245 (rl_F2 11 pg_s89_F147) = true := by decide +kernel
theorem pg_s89_u : ck_cu pg_s89_Z = true := by decide +kernel
theorem pg_s89_h {X : Int → Int} {LX : Nat} : ck_nmu pg_O ∧ ck_OkE pg_O X LX pg_s89_E := ⟨pg_nmu, ck_E1 (ck_S1 pg_s4_s (ck_S1 pg_s5_s (ck_S1 pg_s6_s ck_S0))) (ck_E1 (ck_S1 pg_s8_s ck_S0) (ck_E1 (ck_S1 pg_s10_s ck_S0) (ck_E1 (ck_S1 pg_s66_s ck_S0) ck_E0)))⟩
theorem pg_s89_y147 {X : Int → Int} {LX : Nat} {σ σ0 : Nat → Int} {K0 : gm_K} {R0 : gm_R} {M0 : gm_M} (hσ : ∀ s, s < 100 → σ s = σ0 s) : ck_Hy pg_O X LX 274 pg_s89.1.1 pg_s89.2.2.2.2.1 245 K0 R0 M0 (ck_Q pg_O σ0 pg_s89.2.2.2.2.1 245 K0 R0 M0 pg_s89.2.2.2.2.2) σ (147, pg_s89_C147, 0, 0, 245) := rl_147 pg_s89_u pg_s89_h hσ (by decide) (by decide +kernel) (by decide +kernel) ⟨by decide +kernel, by decide +kernel, by decide +kernel, by decide +kernel, by decide +kernel⟩ pg_s89_c (fun _ h => nomatch h)
theorem pg_s89_y111 {X : Int → Int} {LX : Nat} {σ σ0 : Nat → Int} {K0 : gm_K} {R0 : gm_R} {M0 : gm_M} (hσ : ∀ s, s < 100 → σ s = σ0 s) : ck_Hy pg_O X LX 274 pg_s89.1.1 pg_s89.2.2.2.2.1 245 K0 R0 M0 (ck_Q pg_O σ0 pg_s89.2.2.2.2.1 245 K0 R0 M0 pg_s89.2.2.2.2.2) σ (111, pg_s89_C111, 0, 0, 245) := rl_111 pg_s89_u pg_s89_h hσ (by decide) (by decide +kernel) ⟨by decide +kernel, by decide +kernel, by decide +kernel, by decide +kernel⟩ pg_s89_b (fun h hm => by
  rw [List.mem_singleton.mp hm]
  exact ⟨List.mem_cons_self, pg_s89_y147 hσ⟩)
theorem pg_s89_s {X : Int → Int} {LX : Nat} : ck_Ok pg_O X LX 274 pg_s89 := by
  refine ck_ok_st (cuts := pg_s89_Z) pg_s89_u pg_s89_h pg_s89_a (fun h hm => ?_)
  rcases List.mem_cons.mp hm with rfl | hm
  · exact ⟨List.mem_cons_self, fun σ K0 R0 M0 => pg_s89_y147 (fun _ _ => rfl)⟩
  rw [List.mem_singleton.mp hm]
  exact ⟨List.mem_cons_of_mem _ List.mem_cons_self, fun σ K0 R0 M0 => pg_s89_y111 (fun _ _ => rfl)⟩
set_option maxRecDepth 100000 in
/-- GlacierMailModel.readLine -/
noncomputable def pg_s90 : ck_Sum := ((31, 0, 0), 245, [.inr (.inr (.inl 226)), .inl (ck_one 0), .inl (ck_one 11)], ([], [], [(0, 2, 2, ck_one 11), (0, 0, 0, (0, 400, [(30, 0)])), (0, 3, 3, ((-400), 400, [(31, 0)])), (0, 4, 4, ((-400), 400, [(32, 0)])), (0, 5, 5, (0, 400, [(33, 0)])), (0, 6, 6, (0, 1, [])), (226, 9, 9, (0, 400, [(1, 0)])), (226, 15, 15, (0, 400, [(2, 0)]))]), ([(0, 0, 6), (226, 9, 9), (226, 11, 12), (226, 15, 15), (227, 1289, 2092)], []), [(.inr (some (.inl (ck_one 0))), 245, ([], [], [(0, 2, 2, ck_one 11), (0, 0, 0, (0, 400, [])), (0, 3, 3, (0, 400, [(1000033, 0)])), (0, 4, 4, ((-400), 400, [])), (0, 5, 5, (0, 400, [(1000033, 0)])), (0, 6, 6, (0, 1, [])), (226, 9, 9, (0, 400, [(1000001, 0)]))])), (.inr (some (.inl (ck_one 1))), 245, ([], [], [(0, 5, 5, (4, 400, [(1000033, 4)])), (226, 11, 11, (0, 400, [(1000001, 0)])), (0, 0, 0, ck_one 0), (0, 2, 2, ck_one 12), (0, 6, 6, ck_one 0), (0, 3, 3, (4, 400, [(1000033, 4)])), (0, 4, 4, ck_one 0), (226, 9, 9, (0, 400, [(1000001, 0)])), (226, 12, 12, ck_one 0), (227, 1290, 1290, (0, 20, [])), (227, 1289, 1289, (0, 2, []))]))])
set_option maxRecDepth 100000 in
theorem pg_s90_s {X : Int → Int} {LX : Nat} : ck_Ok pg_O X LX 247 pg_s90 := ck_okq (cuts := []) (f := 102) ⟨pg_nmu, ck_E1 (ck_S1 pg_s3_s ck_S0) (ck_E1 (ck_S1 pg_s89_s ck_S0) ck_E0)⟩ (by decide +kernel)
set_option maxRecDepth 100000 in
/-- GlacierMailModel.readLine -/
noncomputable def pg_s91 : ck_Sum := ((3, 0, 0), 245, [.inr (.inr (.inl 226)), .inl (ck_one 0), .inl (ck_one 12)], ([], [], [(0, 3, 3, ((-400), 400, [(31, 0)])), (0, 4, 4, ((-400), 400, [(32, 0)])), (0, 5, 5, (0, 400, [(33, 0)])), (226, 9, 9, (0, 400, [(1, 0)]))]), ([(0, 3, 5), (226, 9, 9), (226, 11, 11)], []), [(.inr (some (.inl (ck_one 0))), 245, ([], [], [(0, 5, 5, (0, 400, [(1000033, 0)])), (226, 11, 11, (0, 400, [(1000001, 0)])), (0, 3, 3, (0, 400, [(1000033, 0)])), (0, 4, 4, (0, 400, [])), (226, 9, 9, (0, 400, [(1000001, 0)]))]))])
set_option maxRecDepth 100000 in
theorem pg_s91_s {X : Int → Int} {LX : Nat} : ck_Ok pg_O X LX 247 pg_s91 := ck_okq (cuts := []) (f := 88) ⟨pg_nmu, ck_E1 (ck_S1 pg_s3_s ck_S0) ck_E0⟩ (by decide +kernel)
set_option maxRecDepth 100000 in
/-- GlacierMailModel.isAt -/
noncomputable def pg_s92 : ck_Sum := ((0, 0, 0), 245, [.inr (.inr (.inl 226)), .inl (ck_one 59), .inl (ck_one 59)], ([], [], [(226, 9, 9, (0, 400, [(1, 0)]))]), ([], []), [(.inr (some (.inl (ck_one 0))), 245, ([], [], [])), (.inr (some (.inl (ck_one 1))), 245, ([], [], [(226, 10, 10, (1, 400, [])), (226, 9, 9, (0, 399, [(1, 0)]))]))])
set_option maxRecDepth 100000 in
theorem pg_s92_s {X : Int → Int} {LX : Nat} : ck_Ok pg_O X LX 246 pg_s92 := ck_okq (cuts := []) (f := 114) ⟨pg_nmu, ck_E0⟩ (by decide +kernel)
set_option maxRecDepth 100000 in
/-- GlacierMailModel.throwsIf -/
noncomputable def pg_s93 : ck_Sum := ((0, 0, 0), 245, [.inr (.inr (.inl 226)), .inl (ck_one 0), .inl (ck_one 1)], ([], [], []), ([], []), [(.inr (some (.inl (ck_one 0))), 245, ([], [], []))])
set_option maxRecDepth 100000 in
theorem pg_s93_s {X : Int → Int} {LX : Nat} : ck_Ok pg_O X LX 282 pg_s93 := ck_okq (cuts := []) (f := 78) ⟨pg_nmu, ck_E0⟩ (by decide +kernel)
set_option maxRecDepth 100000 in
/-- GlacierMailModel.throwsIf -/
noncomputable def pg_s94 : ck_Sum := ((0, 0, 0), 245, [.inr (.inr (.inl 226)), .inl (ck_one 1), .inl (ck_one 1)], ([], [], []), ([(226, 0, 0)], []), [(.inr (some (.inl (ck_one 1))), 245, ([], [], [(226, 0, 0, ck_one 1)]))])
set_option maxRecDepth 100000 in
theorem pg_s94_s {X : Int → Int} {LX : Nat} : ck_Ok pg_O X LX 282 pg_s94 := ck_okq (cuts := []) (f := 84) ⟨pg_nmu, ck_E0⟩ (by decide +kernel)
end
/-! 74.lo -/
section
/-! A STATE WITH A LAW: told.law is 246 (a Law), 247 its codes (of a length not known), 248 its Rows, 249 their numbers. -/
noncomputable def l_fp (k : Nat) : List (Int × Int) := if k = 247 then [(-1, -1)] else j_fp k
noncomputable def l_J (t : List (Int × Int × Int × Int)) (K : gm_K) (M : gm_M) : Prop := j_J t K M ∧ ∃ N : Nat, N ≤ 400 ∧ K 247 = (0, N)
theorem l_h {t : List (Int × Int × Int × Int)} : ∀ (K K' : gm_K) (M M' : gm_M), (∀ k r, r ∈ l_fp k → K' k = K k) → (∀ k r, r ∈ l_fp k → ∀ j, r.1 ≤ j → j ≤ r.2 → M' k j = M k j) → l_J t K M → l_J t K' M' := by
  intro K K' M M' hK hM hJ
  obtain ⟨hJ, N, hN, h7⟩ := hJ
  have e : ∀ k r, r ∈ j_fp k → r ∈ l_fp k := fun k r hr => by
    unfold l_fp
    rw [if_neg]
    · exact hr
    · rintro rfl
      rw [show j_fp 247 = [] by decide] at hr
      cases hr
  exact ⟨j_h K K' M M' (fun k r hr => hK k r (e k r hr)) (fun k r hr => hM k r (e k r hr)) hJ, N, hN, by rw [hK 247 (-1, -1) (by decide)]; exact h7⟩
noncomputable def p2_LG (c : Option (Nat × Nat)) : gm_Or := (fun k => if k < 246 then p2_O.1 k else if k = 246 then some (14, 0) else if k = 247 then c else if k = 248 then some (6, 0) else if k = 249 then some (0, 48) else none, fun k j => if k < 246 then p2_O.2.1 k j else if k = 246 then (if j = 0 then some 248 else if j = 1 then some 247 else none) else if k = 248 then (if j = 2 then some 249 else none) else none, ⟨(fun k => if k < 246 then p2_O.2.2.ty k else if k = 248 then [(0, 0, 12, 12), (1, 1, 4, 4), (3, 3, 0, 12)] else [], l_fp, l_J p2_ty, p2_nm, none), ⟨l_h, fun _ h => nomatch h⟩⟩)
noncomputable abbrev p2_OL : gm_Or := p2_LG none
theorem pl_nmu : ck_nmu p2_OL := p2_nmu
/-- GlacierMail$Law.holds -/
noncomputable def lh_o : List ck_Oc := [(.inr (some (.inl (0, 1, []))), 249, ([], [], []))]
noncomputable def lh_S : ck_Sum := ((0, 0, 0), 249, [.inr (.inr (.inl 246)), .inl (-2147483648, 2147483647, []), .inl (-2147483648, 2147483647, []), .inr (.inr (.inl 204))], ([], [], []), ([], []), lh_o)
noncomputable def lh_C11 : ck_C := ([some (.inr (.inr (.inl 246))), none, some (.inl (-2147483648, 2147483647, [])), some (.inr (.inr (.inl 204))), some (.inl (0, 2147483647, [])), none, none, none, none, none, none, none, none, none], ([], [], []), 0, .inl 4, true)
noncomputable def lh_A31 : ck_AL := [some (.inr (.inr (.inl 246))), none, none, some (.inr (.inr (.inl 204))), some (.inl (0, 2147483647, [])), some (.inl (-2147483648, 400, [(51, 0)])), none, none, none, none, none, none, none, none]
noncomputable def lh_C55 (a : ck_I) : ck_C := ([some (.inr (.inr (.inl 246))), none, none, some (.inr (.inr (.inl 204))), none, some (.inl (-2147483648, 400, [(51, 0)])), some (.inl (-2147483648, 2147483647, [])), some (.inl (-2147483648, 2147483647, [])), some (.inl (-2147483648, 2147483647, [])), some (.inl a), none, none, none, none], ([], [], []), 0, .inl 9, true)
noncomputable def lh_A71 : ck_AL := [some (.inr (.inr (.inl 246))), none, none, some (.inr (.inr (.inl 204))), none, some (.inl (-2147483648, 400, [(51, 0)])), some (.inl (-2147483648, 2147483647, [])), some (.inl (-2147483648, 2147483647, [])), some (.inl (-2147483648, 2147483647, [])), some (.inl (0, 399, [(50, 0)])), some (.inl (-2147483648, 2147483647, [])), none, none, none]
noncomputable def lh_A296 : ck_AL := [none, none, none, none, none, none, some (.inl (-2147483648, 2147483647, [])), none, none, none, none, none, none, none]
theorem lh_a : (decide (lh_S.2.2.1.length ≤ gm_ml 41) && ck_go p2_OL none [] [] 41 lh_S.1.1 lh_S.2.1 lh_S.2.2.2.2.1 lh_S.2.2.2.2.2 [(11, lh_C11)] 60 false [(11, lh_C11, 0, 0, 249)] lh_S.1.2.1 lh_S.1.2.2 0 (lh_S.2.2.1.map some ++ List.replicate (gm_ml 41 - lh_S.2.2.1.length) none) [] lh_S.2.1 lh_S.2.2.2.1) = true := by decide +kernel
theorem lh_g31 : ck_go p2_OL none [] [] 41 0 249 ([], []) lh_o [(55, lh_C55 (0, 2147483647, []))] 60 true [(55, lh_C55 (0, 2147483647, []), 0, 0, 249)] 0 0 31 lh_A31 [] 249 ([], [], []) = true := by decide +kernel
theorem lh_g71 : ck_go p2_OL none [] [] 41 0 249 ([], []) lh_o [(55, lh_C55 (0, 400, [(50, 1)]))] 300 true [(55, lh_C55 (0, 400, [(50, 1)]), 0, 0, 249)] 0 0 71 lh_A71 [] 249 ([], [], []) = true := by decide +kernel
theorem lh_g296 : ck_go p2_OL none [] [] 41 0 249 ([], []) lh_o [] 60 true [] 0 0 296 lh_A296 [] 249 ([], [], []) = true := by decide +kernel
theorem lh_or : (p2_OL.1 246 = some (14, 0) ∧ p2_OL.2.1 246 ((1 : Nat) : Int) = some 247) := by decide +kernel
section LH
variable {X : Int → Int} {LX : Nat}
theorem lh_Qm {W : List (Nat × Int × Int) × List (Nat × Int)} {σ σ' : Nat → Int} {n0 n : Nat} {K0 K : gm_K} {R0 R : gm_R} {M0 M : gm_M} {o : gm_O} (h : ck_Q p2_OL σ W n0 K0 R0 M0 lh_o o n K R M) : ck_Q p2_OL σ' W n0 K0 R0 M0 lh_o o n K R M := by
  obtain ⟨h1, h2, oc, h3, h4, h5, h6⟩ := h
  rw [List.mem_singleton.mp h3] at h4 h5
  refine ⟨h1, h2, _, List.mem_cons_self, ?_, h5, ⟨(fun _ h => nomatch h), (fun _ h => nomatch h), (fun _ h => nomatch h)⟩⟩
  rcases o with u | x
  · rcases u with _ | v
    · exact h4
    · obtain ⟨x, rfl, h7, h8, h9, -⟩ := h4
      exact ⟨x, rfl, h7, h8, h9, fun _ h => nomatch h⟩
  · exact h4
noncomputable def lh_σ (σ : Nat → Int) (a b : Int) : Nat → Int := fun s => if s = 50 then a else if s = 51 then b else σ s
theorem lh_g1 {σ : Nat → Int} {s : Nat} {x : Int} {c : ck_A} {a : ck_I} (h : c = .inl a) (hx : gm_ir x) (h1 : a.1 ≤ x) (h2 : x ≤ a.2.1) (h3 : a.2.2 = [] ∨ a.2.2 = [(s, 0)] ∧ s < 1000000 ∧ σ s = x) : ck_ga σ c (gm_vi x) := by
  subst h
  refine ⟨x, rfl, hx, h1, h2, ?_⟩
  rcases h3 with h3 | ⟨h3, h4, h5⟩
  · rw [h3]
    exact fun _ h => nomatch h
  · rw [h3]
    exact ck_gt1 h4 (by omega)
/-- the loop over the codes -/
theorem lh_lp {N : Nat} {x : Int} {σ : Nat → Int} {K0 : gm_K} {R0 : gm_R} {M0 : gm_M} (hN : N ≤ 400) (hK0 : K0 247 = (0, N)) (hx : x ≤ (N : Int) ∧ gm_ir x) : ∀ (m : Nat) (i : Int) (bc bs : Nat) (L : gm_L) (K : gm_K) (R : gm_R) (M : gm_M) (y6 y7 y8 : Int), x - i ≤ (m : Int) → 0 ≤ i → gm_ir i → gm_Fx p2_OL 249 K R M → ck_fr ([], []) 249 K0 R0 M0 249 K R M → L.length = 14 → L[0]? = some (some (gm_vr 246)) → L[3]? = some (some (gm_vr 204)) → L[5]? = some (some (gm_vi x)) → L[6]? = some (some (gm_vi y6)) → gm_ir y6 → L[7]? = some (some (gm_vi y7)) → gm_ir y7 → L[8]? = some (some (gm_vi y8)) → gm_ir y8 → L[9]? = some (some (gm_vi i)) → gm_Wp X LX 0 bc bs 41 55 L [] 249 K R M (ck_Q p2_OL σ ([], []) 249 K0 R0 M0 lh_o) := by
  intro m
  induction m with
  | zero =>
    intro i bc bs L K R M y6 y7 y8 hm h0 hi hF hfr hL l0 l3 l5 l6 i6 l7 i7 l8 i8 l9
    refine gm_sz (gm_p_load (pc := 55) (i := .iload 9) (sr := 0) (j := 9) (by decide +kernel) rfl l9 rfl) ?_
    refine gm_sz (gm_p_load (pc := 57) (i := .iload 5) (sr := 0) (j := 5) (by decide +kernel) rfl l5 rfl) ?_
    refine gm_b_ic (cc := .ge) (pc := 59) (off := 237) (by decide +kernel) (by decide) (fun _ => ?_) (fun hp => ?_)
    · refine gm_Wp_wk (Nat.le_refl _) (Nat.zero_le _) (Nat.zero_le _) (ck_go_s (σ0 := σ) (cuts := []) (by decide) ⟨pl_nmu, ck_E0⟩ ck_X0 ck_l0 60 true [] 0 0 296 lh_A296 [] 249 ([], [], []) σ L [] K R M (fun _ _ => rfl) (fun _ h => nomatch h) ⟨hF, ⟨by rw [hL]; rfl, fun j b hb => ?_⟩, rfl, ⟨(fun _ h => nomatch h), (fun _ h => nomatch h), (fun _ h => nomatch h)⟩, hfr⟩ lh_g296)
      rcases j with _ | _ | _ | _ | _ | _ | _ | j
      · cases hb
      · cases hb
      · cases hb
      · cases hb
      · cases hb
      · cases hb
      · cases hb; exact ⟨_, l6, lh_g1 (s := 0) rfl i6 i6.1 (by have := i6.2; show y6 ≤ (2147483647 : Int); omega) (Or.inl rfl)⟩
      · rcases j with _ | _ | _ | _ | _ | _ | _ | j <;> cases hb
    · rw [gm_cm_w hi hx.2] at hp
      have hp : ¬ x ≤ i := hp
      omega
  | succ m ih =>
    intro i bc bs L K R M y6 y7 y8 hm h0 hi hF hfr hL l0 l3 l5 l6 i6 l7 i7 l8 i8 l9
    obtain ⟨k1, k2, k3⟩ := hF.1 246 _ lh_or.1
    have kL : (1 ≤ 246 ∧ 246 ≤ 249) ∧ (K 246).1 = 10 + 4 := ⟨⟨by decide, by decide⟩, by rw [k3]⟩
    have rL := (hF.2.1 246 _ _ lh_or.2).2
    have kC : (1 ≤ 247 ∧ 247 ≤ 249) ∧ K 247 = (0, N) := ⟨⟨by decide, by decide⟩, (hfr.2.1 247 (by decide)).trans hK0⟩
    refine gm_sz (gm_p_load (pc := 55) (i := .iload 9) (sr := 0) (j := 9) (by decide +kernel) rfl l9 rfl) ?_
    refine gm_sz (gm_p_load (pc := 57) (i := .iload 5) (sr := 0) (j := 5) (by decide +kernel) rfl l5 rfl) ?_
    refine gm_b_ic (cc := .ge) (pc := 59) (off := 237) (by decide +kernel) (by decide) (fun _ => ?_) (fun hp => ?_)
    · refine gm_Wp_wk (Nat.le_refl _) (Nat.zero_le _) (Nat.zero_le _) (ck_go_s (σ0 := σ) (cuts := []) (by decide) ⟨pl_nmu, ck_E0⟩ ck_X0 ck_l0 60 true [] 0 0 296 lh_A296 [] 249 ([], [], []) σ L [] K R M (fun _ _ => rfl) (fun _ h => nomatch h) ⟨hF, ⟨by rw [hL]; rfl, fun j b hb => ?_⟩, rfl, ⟨(fun _ h => nomatch h), (fun _ h => nomatch h), (fun _ h => nomatch h)⟩, hfr⟩ lh_g296)
      rcases j with _ | _ | _ | _ | _ | _ | _ | j
      · cases hb
      · cases hb
      · cases hb
      · cases hb
      · cases hb
      · cases hb
      · cases hb; exact ⟨_, l6, lh_g1 (s := 0) rfl i6 i6.1 (by have := i6.2; show y6 ≤ (2147483647 : Int); omega) (Or.inl rfl)⟩
      · rcases j with _ | _ | _ | _ | _ | _ | _ | j <;> cases hb
    · rw [gm_cm_w hi hx.2] at hp
      have hp : ¬ x ≤ i := hp
      refine gm_sz (gm_p_load (pc := 62) (i := .aload_n 0) (sr := 2) (j := 0) (by decide +kernel) rfl l0 rfl) ?_
      refine gm_sz (gm_p_get (pc := 63) (ix := 22) (ci := 10) (j := 1) (by decide +kernel) kL.1 kL.2 (by decide +kernel)) ?_
      rw [if_pos (show gm_isr 10 1 = true by decide +kernel), rL]
      refine gm_sz (gm_p_load (pc := 66) (i := .iload 9) (sr := 0) (j := 9) (by decide +kernel) rfl l9 rfl) ?_
      refine gm_sz (gm_p_iald (pc := 68) (by decide +kernel) kC.1 (by rw [kC.2]) (by rw [gm_w_id (by omega) (by omega), kC.2]; omega)) ?_
      refine gm_sz (gm_p_stor (pc := 69) (i := .istore 10) (sr := 0) (j := 10) (by decide +kernel) rfl (show 10 + 0 < L.length by omega) rfl) ?_
      refine ck_nvL ?_
      generalize hc : gm_w (M 247 (gm_w i)) = cd
      have icd : gm_ir cd := by rw [← hc]; exact ck_w_ir _
      rw [show gm_lst L 10 (gm_vi cd) = L.set 10 (some (gm_vi cd)) by
        have e : gm_lc L 10 = L := by
          show (match L[9]? with
            | some (some (.inr (.inl _))) => L.set 9 none
            | _ => L) = L
          rw [l9]
        show (gm_lc L 10).set 10 (some (gm_vi cd)) = _
        rw [e]]
      refine gm_Wp_mono (fun o n K R M h => lh_Qm (σ := lh_σ σ i x) h) ?_
      refine gm_Wp_wk (Nat.le_refl _) (Nat.zero_le _) (Nat.zero_le _) (ck_go_s (σ0 := lh_σ σ i x) (cuts := [(55, lh_C55 (0, 400, [(50, 1)]))]) (by decide +kernel) ⟨pl_nmu, ck_E0⟩ ck_X0 ck_l0 300 true [(55, lh_C55 (0, 400, [(50, 1)]), 0, 0, 249)] 0 0 71 lh_A71 [] 249 ([], [], []) (lh_σ σ i x) _ [] K R M (fun _ _ => rfl) (fun z hz => ?_) ⟨hF, ⟨by rw [List.length_set, hL]; rfl, fun j b hb => ?_⟩, rfl, ⟨(fun _ h => nomatch h), (fun _ h => nomatch h), (fun _ h => nomatch h)⟩, hfr⟩ lh_g71)
      · rw [List.mem_singleton.mp hz]
        refine ⟨List.mem_cons_self, fun v _ bc bs L K R M _ _ hS _ => ?_⟩
        obtain ⟨hF, hl, -, -, hfr⟩ := hS
        obtain ⟨u0, e0, g0⟩ := hl.2 0 (.inr (.inr (.inl 246))) rfl
        cases g0
        obtain ⟨u3, e3, g3⟩ := hl.2 3 (.inr (.inr (.inl 204))) rfl
        cases g3
        obtain ⟨u5, e5, x5, rfl, -, -, -, t5⟩ := hl.2 5 (.inl (-2147483648, 400, [(51, 0)])) rfl
        obtain ⟨u6, e6, x6, rfl, g6, -⟩ := hl.2 6 (.inl (-2147483648, 2147483647, [])) rfl
        obtain ⟨u7, e7, x7, rfl, g7, -⟩ := hl.2 7 (.inl (-2147483648, 2147483647, [])) rfl
        obtain ⟨u8, e8, x8, rfl, g8, -⟩ := hl.2 8 (.inl (-2147483648, 2147483647, [])) rfl
        obtain ⟨u9, e9, x9, rfl, g9, -, -, t9⟩ := hl.2 9 (.inl (0, 400, [(50, 1)])) rfl
        have y5 : x5 = x + 0 := (t5 (51, 0) List.mem_cons_self).1 (show 51 < 1000000 by decide)
        have y9 : x9 = i + 1 := (t9 (50, 1) List.mem_cons_self).1 (show 50 < 1000000 by decide)
        rw [Int.add_zero] at y5
        subst y5 y9
        exact gm_Wp_mono (fun o n K R M h => lh_Qm h) (ih (i + 1) bc bs L K R M x6 x7 x8 (by omega) (by omega) g9 hF hfr hl.1.symm e0 e3 e5 e6 g6 e7 g7 e8 g8 e9)
      · have q : ∀ (j : Nat) (v : gm_V), ¬ j = 10 → L[j]? = some (some v) → (L.set 10 (some (gm_vi cd)))[j]? = some (some v) := fun j v hj hv => by rw [List.getElem?_set, if_neg (fun e => hj e.symm), hv]
        have tp : ∀ {y : Int} {σ : Nat → Int}, gm_ir y → ck_ga σ (.inl (-2147483648, 2147483647, [])) (gm_vi y) := fun h => lh_g1 (s := 0) rfl h h.1 (by have := h.2; show _ ≤ (2147483647 : Int); omega) (Or.inl rfl)
        rcases j with _ | _ | _ | _ | _ | _ | _ | _ | _ | _ | _ | j
        · cases hb; exact ⟨_, q 0 _ (by decide) l0, rfl⟩
        · cases hb
        · cases hb
        · cases hb; exact ⟨_, q 3 _ (by decide) l3, rfl⟩
        · cases hb
        · cases hb; exact ⟨_, q 5 _ (by decide) l5, lh_g1 (s := 51) rfl hx.2 hx.2.1 (by show x ≤ (400 : Int); omega) (Or.inr ⟨rfl, by decide, rfl⟩)⟩
        · cases hb; exact ⟨_, q 6 _ (by decide) l6, tp i6⟩
        · cases hb; exact ⟨_, q 7 _ (by decide) l7, tp i7⟩
        · cases hb; exact ⟨_, q 8 _ (by decide) l8, tp i8⟩
        · cases hb; exact ⟨_, q 9 _ (by decide) l9, lh_g1 (s := 50) rfl hi h0 (by show i ≤ (399 : Int); omega) (Or.inr ⟨rfl, by decide, rfl⟩)⟩
        · cases hb; exact ⟨_, by rw [List.getElem?_set, if_pos rfl, if_pos (by omega)], tp icd⟩
        · rcases j with _ | _ | _ | j <;> cases hb
theorem lh_S_s : ck_Ok p2_OL X LX 41 lh_S := by
  refine ck_ok_st (cuts := [(11, lh_C11)]) (by decide +kernel) ⟨pl_nmu, ck_E0⟩ lh_a (fun h hm => ?_)
  rw [List.mem_singleton.mp hm]
  refine ⟨List.mem_singleton.mpr rfl, fun σ K0 R0 M0 v _ bc bs L K R M _ _ hS _ => ?_⟩
  obtain ⟨hF, hl, -, -, hfr⟩ := hS
  have hF : gm_Fx p2_OL 249 K R M := hF
  have hfr : ck_fr ([], []) 249 K0 R0 M0 249 K R M := hfr
  have hL : L.length = 14 := hl.1.symm
  obtain ⟨N, hN, hK⟩ := hF.2.2.2.2.2
  obtain ⟨u0, l0, g0⟩ := hl.2 0 (.inr (.inr (.inl 246))) rfl
  cases g0
  obtain ⟨u3, l3, g3⟩ := hl.2 3 (.inr (.inr (.inl 204))) rfl
  cases g3
  obtain ⟨u2, l2, to, rfl, i2, -⟩ := hl.2 2 (.inl (-2147483648, 2147483647, [])) rfl
  obtain ⟨u4, l4, bg, rfl, i4, b1, b2, -⟩ := hl.2 4 (.inl (0, 2147483647, [])) rfl
  obtain ⟨k1, k2, k3⟩ := hF.1 246 _ lh_or.1
  have kL : (1 ≤ 246 ∧ 246 ≤ 249) ∧ (K 246).1 = 10 + 4 := ⟨⟨by decide, by decide⟩, by rw [k3]⟩
  have rL := (hF.2.1 246 _ _ lh_or.2).2
  have kC : (1 ≤ 247 ∧ 247 ≤ 249) ∧ K 247 = (0, N) := ⟨⟨by decide, by decide⟩, hK⟩
  have hK0 : K0 247 = (0, N) := (hfr.2.1 247 (by decide)).symm.trans hK
  have tail : ∀ x : Int, x ≤ (N : Int) → gm_ir x → gm_Wp X LX 0 bc bs 41 29 L [gm_vi x] 249 K R M (ck_Q p2_OL σ ([], []) 249 K0 R0 M0 lh_o) := by
    intro x hx ix
    refine gm_sz (gm_p_stor (pc := 29) (i := .istore 5) (sr := 0) (j := 5) (by decide +kernel) rfl (show 5 + 0 < L.length by omega) rfl) ?_
    rw [show gm_lst L 5 (gm_vi x) = L.set 5 (some (gm_vi x)) by
      have e : gm_lc L 5 = L := by
        show (match L[4]? with
          | some (some (.inr (.inl _))) => L.set 4 none
          | _ => L) = L
        rw [l4]
      show (gm_lc L 5).set 5 (some (gm_vi x)) = _
      rw [e]]
    have q : ∀ (j : Nat) (v : gm_V), ¬ j = 5 → L[j]? = some (some v) → (L.set 5 (some (gm_vi x)))[j]? = some (some v) := fun j v hj hv => by rw [List.getElem?_set, if_neg (fun e => hj e.symm), hv]
    refine gm_Wp_mono (fun o n K R M h => lh_Qm (σ := lh_σ σ 0 x) h) ?_
    refine gm_Wp_wk (Nat.le_refl _) (Nat.zero_le _) (Nat.zero_le _) (ck_go_s (σ0 := lh_σ σ 0 x) (cuts := [(55, lh_C55 (0, 2147483647, []))]) (by decide +kernel) ⟨pl_nmu, ck_E0⟩ ck_X0 ck_l0 60 true [(55, lh_C55 (0, 2147483647, []), 0, 0, 249)] 0 0 31 lh_A31 [] 249 ([], [], []) (lh_σ σ 0 x) _ [] K R M (fun _ _ => rfl) (fun z hz => ?_) ⟨hF, ⟨by rw [List.length_set, hL]; rfl, fun j b hb => ?_⟩, rfl, ⟨(fun _ h => nomatch h), (fun _ h => nomatch h), (fun _ h => nomatch h)⟩, hfr⟩ lh_g31)
    · rw [List.mem_singleton.mp hz]
      refine ⟨List.mem_cons_self, fun v _ bc bs L K R M _ _ hS _ => ?_⟩
      obtain ⟨hF, hl, -, -, hfr⟩ := hS
      obtain ⟨u0, e0, g0⟩ := hl.2 0 (.inr (.inr (.inl 246))) rfl
      cases g0
      obtain ⟨u3, e3, g3⟩ := hl.2 3 (.inr (.inr (.inl 204))) rfl
      cases g3
      obtain ⟨u5, e5, x5, rfl, -, -, -, t5⟩ := hl.2 5 (.inl (-2147483648, 400, [(51, 0)])) rfl
      obtain ⟨u6, e6, x6, rfl, g6, -⟩ := hl.2 6 (.inl (-2147483648, 2147483647, [])) rfl
      obtain ⟨u7, e7, x7, rfl, g7, -⟩ := hl.2 7 (.inl (-2147483648, 2147483647, [])) rfl
      obtain ⟨u8, e8, x8, rfl, g8, -⟩ := hl.2 8 (.inl (-2147483648, 2147483647, [])) rfl
      obtain ⟨u9, e9, x9, rfl, g9, g91, -⟩ := hl.2 9 (.inl (0, 2147483647, [])) rfl
      have y5 : x5 = x + 0 := (t5 (51, 0) List.mem_cons_self).1 (show 51 < 1000000 by decide)
      rw [Int.add_zero] at y5
      subst y5
      exact gm_Wp_mono (fun o n K R M h => lh_Qm h) (lh_lp (σ := σ) hN hK0 ⟨hx, ix⟩ (x5 - x9).toNat x9 bc bs L K R M x6 x7 x8 (by omega) (by have g91 : (0 : Int) ≤ x9 := g91; exact g91) g9 hF hfr hl.1.symm e0 e3 e5 e6 g6 e7 g7 e8 g8 e9)
    · rcases j with _ | _ | _ | _ | _ | _ | j
      · cases hb; exact ⟨_, q 0 _ (by decide) l0, rfl⟩
      · cases hb
      · cases hb
      · cases hb; exact ⟨_, q 3 _ (by decide) l3, rfl⟩
      · cases hb; exact ⟨_, q 4 _ (by decide) l4, lh_g1 (s := 0) rfl i4 b1 b2 (Or.inl rfl)⟩
      · cases hb; exact ⟨_, by rw [List.getElem?_set, if_pos rfl, if_pos (by omega)], lh_g1 (s := 51) rfl ix ix.1 (by show x ≤ (400 : Int); omega) (Or.inr ⟨rfl, by decide, rfl⟩)⟩
      · rcases j with _ | _ | _ | _ | _ | _ | _ | _ | j <;> cases hb
  refine gm_sz (gm_p_load (pc := 11) (i := .iload_n 2) (sr := 0) (j := 2) (by decide +kernel) rfl l2 rfl) ?_
  refine gm_sz (gm_p_load (pc := 12) (i := .aload_n 0) (sr := 2) (j := 0) (by decide +kernel) rfl l0 rfl) ?_
  refine gm_sz (gm_p_get (pc := 13) (ix := 22) (ci := 10) (j := 1) (by decide +kernel) kL.1 kL.2 (by decide +kernel)) ?_
  rw [if_pos (show gm_isr 10 1 = true by decide +kernel), rL]
  refine gm_sz (gm_p_alen (pc := 16) (by decide +kernel) kC.1 (by rw [kC.2]; exact Nat.zero_le _)) ?_
  rw [show ((K 247).2 : Int) = (N : Int) by rw [kC.2]]
  refine gm_b_ic (cc := .ge) (pc := 17) (off := 7) (by decide +kernel) (by decide) (fun _ => ?_) (fun hp => ?_)
  · skip
    refine gm_sz (gm_p_load (pc := 24) (i := .aload_n 0) (sr := 2) (j := 0) (by decide +kernel) rfl l0 rfl) ?_
    refine gm_sz (gm_p_get (pc := 25) (ix := 22) (ci := 10) (j := 1) (by decide +kernel) kL.1 kL.2 (by decide +kernel)) ?_
    rw [if_pos (show gm_isr 10 1 = true by decide +kernel), rL]
    refine gm_sz (gm_p_alen (pc := 28) (by decide +kernel) kC.1 (by rw [kC.2]; exact Nat.zero_le _)) ?_
    rw [show ((K 247).2 : Int) = (N : Int) by rw [kC.2]]
    exact tail N (Int.le_refl _) ⟨by omega, by omega⟩
  · rw [gm_cm_w i2 ⟨by omega, by omega⟩] at hp
    have hp : ¬ (N : Int) ≤ to := hp
    refine gm_sz (gm_p_load (pc := 20) (i := .iload_n 2) (sr := 0) (j := 2) (by decide +kernel) rfl l2 rfl) ?_
    refine gm_sz (gm_p_goto (pc := 21) (off := 8) (by decide +kernel) (by decide)) ?_
    exact tail to (by omega) i2
end LH
end
/-! 74a.gl -/
section
/-! YEARS of the class under a law. -/
section GYL
variable {X : Int → Int} {LX : Nat}
end GYL
end
/-! 75a00.lq -/
section
/-! THE CLASS'S law(): reading, and a new Law (laid by wip/am/p2m.py). -/
set_option maxRecDepth 100000 in
/-- java/util/Arrays.fill -/
noncomputable def pm_s0 : ck_Sum := ((0, 0, 0), 245, [.inr (.inr (.inl 218)), .inl (ck_one 0)], ([], [], []), ([(218, 0, 47)], []), [(.inr none, 245, ([], [], []))])
set_option maxRecDepth 100000 in
theorem pm_s0_s {X : Int → Int} {LX : Nat} : ck_Ok p2_O X LX 8 pm_s0 := ck_okq (cuts := [(5, [some (.inr (.inr (.inl 218))), some (.inl (ck_one 0)), some (.inl (0, 48, [])), some (.inl (ck_one 48))], ([], [], []), 100, .inl 2, true)]) (f := 130) ⟨p2_nmu, ck_E0⟩ (by decide +kernel)
set_option maxRecDepth 100000 in
/-- GlacierMail$Rows.reset -/
noncomputable def pm_s1 : ck_Sum := ((1, 0, 0), 245, [.inr (.inr (.inl 217)), .inl (ck_one 0)], ([], [], []), ([(217, 3, 3), (218, 0, 47)], []), [(.inr none, 245, ([], [], [(217, 3, 3, ck_one 0)]))])
set_option maxRecDepth 100000 in
theorem pm_s1_s {X : Int → Int} {LX : Nat} : ck_Ok p2_O X LX 25 pm_s1 := ck_okq (cuts := []) (f := 96) ⟨p2_nmu, ck_E1 (ck_S1 pm_s0_s ck_S0) ck_E0⟩ (by decide +kernel)
set_option maxRecDepth 100000 in
/-- GlacierMail$LawReader.clear -/
noncomputable def pm_s2 : ck_Sum := ((2, 0, 0), 245, [.inr (.inr (.inl 215))], ([], [], []), ([(215, 4, 4), (217, 3, 3), (218, 0, 47)], []), [(.inr none, 245, ([], [], [(215, 4, 4, ck_one 0), (217, 3, 3, ck_one 0)]))])
set_option maxRecDepth 100000 in
theorem pm_s2_s {X : Int → Int} {LX : Nat} : ck_Ok p2_O X LX 73 pm_s2 := ck_okq (cuts := []) (f := 86) ⟨p2_nmu, ck_E1 (ck_S1 pm_s1_s ck_S0) ck_E0⟩ (by decide +kernel)
set_option maxRecDepth 100000 in
/-- GlacierMail$Words.isSmall -/
noncomputable def pm_s3 : ck_Sum := ((0, 0, 0), 245, [.inl ((-128), 127, [])], ([], [], []), ([], []), [(.inr (some (.inl (ck_one 0))), 245, ([], [], [])), (.inr (some (.inl (ck_one 1))), 245, ([], [], []))])
set_option maxRecDepth 100000 in
theorem pm_s3_s {X : Int → Int} {LX : Nat} : ck_Ok p2_O X LX 77 pm_s3 := ck_okq (cuts := []) (f := 88) ⟨p2_nmu, ck_E0⟩ (by decide +kernel)
set_option maxRecDepth 100000 in
/-- GlacierMail$Words.isDigit -/
noncomputable def pm_s4 : ck_Sum := ((0, 0, 0), 245, [.inl ((-128), 127, [])], ([], [], []), ([], []), [(.inr (some (.inl (ck_one 0))), 245, ([], [], [])), (.inr (some (.inl (ck_one 1))), 245, ([], [], []))])
set_option maxRecDepth 100000 in
theorem pm_s4_s {X : Int → Int} {LX : Nat} : ck_Ok p2_O X LX 78 pm_s4 := ck_okq (cuts := []) (f := 88) ⟨p2_nmu, ck_E0⟩ (by decide +kernel)
set_option maxRecDepth 100000 in
/-- GlacierMail$Words.next -/
noncomputable def pm_s5 : ck_Sum := ((1, 0, 0), 245, [.inr (.inr (.inl 216))], ([], [], [(216, 3, 3, (0, 400, [(13, 0)]))]), ([(216, 3, 4), (216, 6, 7)], []), [(.inr none, 245, ([], [], [(216, 3, 3, (0, 400, [(1000013, 0)]))]))])
set_option maxRecDepth 100000 in
theorem pm_s5_s {X : Int → Int} {LX : Nat} : ck_Ok p2_O X LX 76 pm_s5 := ck_okq (cuts := [(0, [some (.inr (.inr (.inl 216))), none], ([], [], [(216, 3, 3, (0, 400, [(1000013, 0)]))]), 100, .inr (216, 3), true), (160, [some (.inr (.inr (.inl 216))), none], ([], [], [(216, 6, 6, ck_one 258), (216, 2, 2, (1, 400, [])), (216, 3, 3, (0, 400, [(1000100, 0), (1000013, 0)])), (216, 4, 4, (0, 400, [(100, 0)]))]), 300, .inr (216, 3), true), (94, [some (.inr (.inr (.inl 216))), none], ([], [], [(216, 6, 6, ck_one 257), (216, 2, 2, (1, 400, [])), (216, 3, 3, (0, 400, [(1000100, 0), (1000013, 0)])), (216, 7, 7, ck_one (-1)), (216, 4, 4, (0, 400, [(100, 0), (1000013, 0)]))]), 500, .inr (216, 3), true)]) (f := 562) ⟨p2_nmu, ck_E1 (ck_S1 pm_s3_s ck_S0) (ck_E1 (ck_S1 pm_s4_s ck_S0) ck_E0)⟩ (by decide +kernel)
set_option maxRecDepth 100000 in
/-- GlacierMail$Words.start -/
noncomputable def pm_s6 : ck_Sum := ((2, 0, 0), 245, [.inr (.inr (.inl 216)), .inl (0, 400, [])], ([], [], [(216, 3, 3, (0, 400, [(13, 0)]))]), ([(216, 2, 7)], []), [(.inr none, 245, ([], [], [(216, 5, 5, ck_one (-1))]))])
set_option maxRecDepth 100000 in
theorem pm_s6_s {X : Int → Int} {LX : Nat} : ck_Ok p2_O X LX 75 pm_s6 := ck_okq (cuts := []) (f := 102) ⟨p2_nmu, ck_E1 (ck_S1 pm_s5_s ck_S0) ck_E0⟩ (by decide +kernel)
set_option maxRecDepth 100000 in
/-- GlacierMail$Words.refuse -/
noncomputable def pm_s7 : ck_Sum := ((0, 0, 0), 245, [.inr (.inr (.inl 216))], ([], [], []), ([(216, 5, 5)], []), [(.inr (some (.inl (ck_one 0))), 245, ([], [], [(216, 5, 5, (0, 400, []))]))])
set_option maxRecDepth 100000 in
theorem pm_s7_s {X : Int → Int} {LX : Nat} : ck_Ok p2_O X LX 93 pm_s7 := ck_okq (cuts := []) (f := 90) ⟨p2_nmu, ck_E0⟩ (by decide +kernel)
set_option maxRecDepth 100000 in
/-- GlacierMail$Words.wrong -/
noncomputable def pm_s8 : ck_Sum := ((0, 0, 0), 245, [.inr (.inr (.inl 216))], ([], [], []), ([], []), [(.inr (some (.inl (ck_one (-1)))), 245, ([], [], [(216, 5, 5, ck_one (-1))])), (.inr (some (.inl (0, 400, []))), 245, ([], [], [(216, 5, 5, (0, 400, []))]))])
set_option maxRecDepth 100000 in
theorem pm_s8_s {X : Int → Int} {LX : Nat} : ck_Ok p2_O X LX 121 pm_s8 := ck_okq (cuts := []) (f := 76) ⟨p2_nmu, ck_E0⟩ (by decide +kernel)
set_option maxRecDepth 100000 in
/-- GlacierMail$Words.isWord -/
noncomputable def pm_s9 : ck_Sum := ((6, 0, 0), 245, [.inr (.inr (.inl 216)), .inr (.inr (.inr 0))], ([], [], [(216, 3, 3, (0, 400, [(13, 0)]))]), ([], []), [(.inr (some (.inl (ck_one 0))), 245, ([], [], [])), (.inr (some (.inl (ck_one 1))), 245, ([], [], [(216, 3, 3, (4, 400, [(13, 0)])), (216, 4, 4, (0, 396, [])), (216, 6, 6, ck_one 257)]))])
set_option maxRecDepth 100000 in
theorem pm_s9_s {X : Int → Int} {LX : Nat} : ck_Ok p2_O X LX 81 pm_s9 := ck_okq (cuts := []) (f := 310) ⟨p2_nmu, ck_E0⟩ (by decide +kernel)
set_option maxRecDepth 100000 in
/-- GlacierMail$Words.isWord -/
noncomputable def pm_s10 : ck_Sum := ((6, 0, 0), 245, [.inr (.inr (.inl 216)), .inr (.inr (.inr 1))], ([], [], [(216, 3, 3, (0, 400, [(13, 0)]))]), ([], []), [(.inr (some (.inl (ck_one 0))), 245, ([], [], [])), (.inr (some (.inl (ck_one 1))), 245, ([], [], [(216, 3, 3, (4, 400, [(13, 0)])), (216, 4, 4, (0, 396, [])), (216, 6, 6, ck_one 257)]))])
set_option maxRecDepth 100000 in
theorem pm_s10_s {X : Int → Int} {LX : Nat} : ck_Ok p2_O X LX 81 pm_s10 := ck_okq (cuts := []) (f := 310) ⟨p2_nmu, ck_E0⟩ (by decide +kernel)
set_option maxRecDepth 100000 in
/-- GlacierMail$Words.isWord -/
noncomputable def pm_s11 : ck_Sum := ((6, 0, 0), 245, [.inr (.inr (.inl 216)), .inr (.inr (.inr 2))], ([], [], [(216, 3, 3, (0, 400, [(13, 0)]))]), ([], []), [(.inr (some (.inl (ck_one 0))), 245, ([], [], [])), (.inr (some (.inl (ck_one 1))), 245, ([], [], [(216, 3, 3, (4, 400, [(13, 0)])), (216, 4, 4, (0, 396, [])), (216, 6, 6, ck_one 257)]))])
set_option maxRecDepth 100000 in
theorem pm_s11_s {X : Int → Int} {LX : Nat} : ck_Ok p2_O X LX 81 pm_s11 := ck_okq (cuts := []) (f := 310) ⟨p2_nmu, ck_E0⟩ (by decide +kernel)
set_option maxRecDepth 100000 in
/-- GlacierMail$LawReader.readKind -/
noncomputable def pm_s12 : ck_Sum := ((7, 0, 0), 245, [.inr (.inr (.inl 215))], ([], [], [(216, 3, 3, (0, 400, [(13, 0)]))]), ([], []), [(.inr (some (.inl (ck_one (-1)))), 245, ([], [], [])), (.inr (some (.inl (ck_one 2))), 245, ([], [], [(216, 3, 3, (4, 400, [(13, 0)])), (216, 4, 4, (0, 396, [])), (216, 6, 6, ck_one 257)])), (.inr (some (.inl (ck_one 1))), 245, ([], [], [(216, 3, 3, (4, 400, [(13, 0)])), (216, 4, 4, (0, 396, [])), (216, 6, 6, ck_one 257)])), (.inr (some (.inl (ck_one 0))), 245, ([], [], [(216, 3, 3, (4, 400, [(13, 0)])), (216, 4, 4, (0, 396, [])), (216, 6, 6, ck_one 257)]))])
set_option maxRecDepth 100000 in
theorem pm_s12_s {X : Int → Int} {LX : Nat} : ck_Ok p2_O X LX 80 pm_s12 := ck_okq (cuts := []) (f := 106) ⟨p2_nmu, ck_E1 (ck_S1 pm_s9_s (ck_S1 pm_s10_s (ck_S1 pm_s11_s ck_S0))) ck_E0⟩ (by decide +kernel)
set_option maxRecDepth 100000 in
/-- GlacierMail$Words.needNumber -/
noncomputable def pm_s13 : ck_Sum := ((2, 0, 0), 245, [.inr (.inr (.inl 216)), .inl (ck_one 0), .inl (ck_one 20)], ([], [], [(216, 3, 3, (0, 400, [(13, 0)]))]), ([(216, 3, 7)], []), [(.inr (some (.inl (ck_one (-1)))), 245, ([], [], [(216, 5, 5, (0, 400, [])), (216, 3, 3, (0, 400, [(13, 0)]))])), (.inr (some (.inl (0, 20, []))), 245, ([], [], [(216, 3, 3, (0, 400, [(1000013, 0)]))]))])
set_option maxRecDepth 100000 in
theorem pm_s13_s {X : Int → Int} {LX : Nat} : ck_Ok p2_O X LX 94 pm_s13 := ck_okq (cuts := []) (f := 106) ⟨p2_nmu, ck_E1 (ck_S1 pm_s7_s ck_S0) (ck_E1 (ck_S1 pm_s5_s ck_S0) ck_E0)⟩ (by decide +kernel)
set_option maxRecDepth 100000 in
/-- GlacierMail$Words.isWord -/
noncomputable def pm_s14 : ck_Sum := ((6, 0, 0), 245, [.inr (.inr (.inl 216)), .inr (.inr (.inr 3))], ([], [], [(216, 3, 3, (0, 400, [(13, 0)]))]), ([], []), [(.inr (some (.inl (ck_one 0))), 245, ([], [], [])), (.inr (some (.inl (ck_one 1))), 245, ([], [], [(216, 3, 3, (2, 400, [(13, 0)])), (216, 4, 4, (0, 398, [])), (216, 6, 6, ck_one 257)]))])
set_option maxRecDepth 100000 in
theorem pm_s14_s {X : Int → Int} {LX : Nat} : ck_Ok p2_O X LX 81 pm_s14 := ck_okq (cuts := []) (f := 210) ⟨p2_nmu, ck_E0⟩ (by decide +kernel)
set_option maxRecDepth 100000 in
/-- GlacierMail$Words.takeWord -/
noncomputable def pm_s15 : ck_Sum := ((7, 0, 0), 245, [.inr (.inr (.inl 216)), .inr (.inr (.inr 3))], ([], [], [(216, 3, 3, (0, 400, [(13, 0)]))]), ([(216, 3, 4), (216, 6, 7)], []), [(.inr (some (.inl (ck_one 0))), 245, ([], [], [(216, 3, 3, (0, 400, [(13, 0)]))])), (.inr (some (.inl (ck_one 1))), 245, ([], [], [(216, 3, 3, (2, 400, [(1000013, 0)]))]))])
set_option maxRecDepth 100000 in
theorem pm_s15_s {X : Int → Int} {LX : Nat} : ck_Ok p2_O X LX 95 pm_s15 := ck_okq (cuts := []) (f := 90) ⟨p2_nmu, ck_E1 (ck_S1 pm_s14_s ck_S0) (ck_E1 (ck_S1 pm_s5_s ck_S0) ck_E0)⟩ (by decide +kernel)
set_option maxRecDepth 100000 in
/-- GlacierMail$Rows.add -/
noncomputable def pm_s16 : ck_Sum := ((0, 0, 0), 245, [.inr (.inr (.inl 217))], ([], [], []), ([(217, 3, 3)], []), [(.inr (some (.inl (0, 11, []))), 245, ([], [], [(217, 3, 3, (1, 12, []))])), (.inr (some (.inl (ck_one (-1)))), 245, ([], [], [(217, 3, 3, ck_one 12)]))])
set_option maxRecDepth 100000 in
theorem pm_s16_s {X : Int → Int} {LX : Nat} : ck_Ok p2_O X LX 102 pm_s16 := ck_okq (cuts := []) (f := 102) ⟨p2_nmu, ck_E0⟩ (by decide +kernel)
set_option maxRecDepth 100000 in
/-- GlacierMail$Rows.put -/
noncomputable def pm_s17 : ck_Sum := ((0, 0, 0), 245, [.inr (.inr (.inl 217)), .inl (0, 11, []), .inl (ck_one 0), .inl (ck_one 0)], ([], [], []), ([(218, 0, 0), (218, 4, 4), (218, 8, 8), (218, 12, 12), (218, 16, 16), (218, 20, 20), (218, 24, 24), (218, 28, 28), (218, 32, 32), (218, 36, 36), (218, 40, 40), (218, 44, 44)], []), [(.inr none, 245, ([], [], []))])
set_option maxRecDepth 100000 in
theorem pm_s17_s {X : Int → Int} {LX : Nat} : ck_Ok p2_O X LX 45 pm_s17 := ck_okq (cuts := []) (f := 116) ⟨p2_nmu, ck_E0⟩ (by decide +kernel)
set_option maxRecDepth 100000 in
/-- GlacierMail$Rows.put -/
noncomputable def pm_s18 : ck_Sum := ((0, 0, 0), 245, [.inr (.inr (.inl 217)), .inl (0, 11, []), .inl (ck_one 1), .inl (0, 20, [])], ([], [], []), ([(218, 1, 1), (218, 5, 5), (218, 9, 9), (218, 13, 13), (218, 17, 17), (218, 21, 21), (218, 25, 25), (218, 29, 29), (218, 33, 33), (218, 37, 37), (218, 41, 41), (218, 45, 45)], []), [(.inr none, 245, ([], [], []))])
set_option maxRecDepth 100000 in
theorem pm_s18_s {X : Int → Int} {LX : Nat} : ck_Ok p2_O X LX 45 pm_s18 := ck_okq (cuts := []) (f := 116) ⟨p2_nmu, ck_E0⟩ (by decide +kernel)
set_option maxRecDepth 100000 in
/-- GlacierMail$Rows.put -/
noncomputable def pm_s19 : ck_Sum := ((0, 0, 0), 245, [.inr (.inr (.inl 217)), .inl (0, 11, []), .inl (ck_one 2), .inl (0, 400, [])], ([], [], []), ([(218, 2, 2), (218, 6, 6), (218, 10, 10), (218, 14, 14), (218, 18, 18), (218, 22, 22), (218, 26, 26), (218, 30, 30), (218, 34, 34), (218, 38, 38), (218, 42, 42), (218, 46, 46)], []), [(.inr none, 245, ([], [], []))])
set_option maxRecDepth 100000 in
theorem pm_s19_s {X : Int → Int} {LX : Nat} : ck_Ok p2_O X LX 45 pm_s19 := ck_okq (cuts := []) (f := 116) ⟨p2_nmu, ck_E0⟩ (by decide +kernel)
set_option maxRecDepth 100000 in
/-- GlacierMail$Rows.put -/
noncomputable def pm_s20 : ck_Sum := ((0, 0, 0), 245, [.inr (.inr (.inl 217)), .inl (0, 11, []), .inl (ck_one 3), .inl (0, 400, [])], ([], [], []), ([(218, 3, 3), (218, 7, 7), (218, 11, 11), (218, 15, 15), (218, 19, 19), (218, 23, 23), (218, 27, 27), (218, 31, 31), (218, 35, 35), (218, 39, 39), (218, 43, 43), (218, 47, 47)], []), [(.inr none, 245, ([], [], []))])
set_option maxRecDepth 100000 in
theorem pm_s20_s {X : Int → Int} {LX : Nat} : ck_Ok p2_O X LX 45 pm_s20 := ck_okq (cuts := []) (f := 116) ⟨p2_nmu, ck_E0⟩ (by decide +kernel)
set_option maxRecDepth 100000 in
/-- GlacierMail$Rows.put -/
noncomputable def pm_s21 : ck_Sum := ((0, 0, 0), 245, [.inr (.inr (.inl 217)), .inl (ck_one (-1)), .inl (ck_one 0), .inl (ck_one 0)], ([], [], []), ([], []), [(.inr none, 245, ([], [], []))])
set_option maxRecDepth 100000 in
theorem pm_s21_s {X : Int → Int} {LX : Nat} : ck_Ok p2_O X LX 45 pm_s21 := ck_okq (cuts := []) (f := 76) ⟨p2_nmu, ck_E0⟩ (by decide +kernel)
set_option maxRecDepth 100000 in
/-- GlacierMail$Rows.put -/
noncomputable def pm_s22 : ck_Sum := ((0, 0, 0), 245, [.inr (.inr (.inl 217)), .inl (ck_one (-1)), .inl (ck_one 1), .inl (0, 20, [])], ([], [], []), ([], []), [(.inr none, 245, ([], [], []))])
set_option maxRecDepth 100000 in
theorem pm_s22_s {X : Int → Int} {LX : Nat} : ck_Ok p2_O X LX 45 pm_s22 := ck_okq (cuts := []) (f := 76) ⟨p2_nmu, ck_E0⟩ (by decide +kernel)
set_option maxRecDepth 100000 in
/-- GlacierMail$Rows.put -/
noncomputable def pm_s23 : ck_Sum := ((0, 0, 0), 245, [.inr (.inr (.inl 217)), .inl (ck_one (-1)), .inl (ck_one 2), .inl (0, 400, [])], ([], [], []), ([], []), [(.inr none, 245, ([], [], []))])
set_option maxRecDepth 100000 in
theorem pm_s23_s {X : Int → Int} {LX : Nat} : ck_Ok p2_O X LX 45 pm_s23 := ck_okq (cuts := []) (f := 76) ⟨p2_nmu, ck_E0⟩ (by decide +kernel)
set_option maxRecDepth 100000 in
/-- GlacierMail$Rows.put -/
noncomputable def pm_s24 : ck_Sum := ((0, 0, 0), 245, [.inr (.inr (.inl 217)), .inl (ck_one (-1)), .inl (ck_one 3), .inl (0, 400, [])], ([], [], []), ([], []), [(.inr none, 245, ([], [], []))])
set_option maxRecDepth 100000 in
theorem pm_s24_s {X : Int → Int} {LX : Nat} : ck_Ok p2_O X LX 45 pm_s24 := ck_okq (cuts := []) (f := 76) ⟨p2_nmu, ck_E0⟩ (by decide +kernel)
set_option maxRecDepth 100000 in
/-- GlacierMail$Rows.put -/
noncomputable def pm_s25 : ck_Sum := ((0, 0, 0), 245, [.inr (.inr (.inl 217)), .inl (0, 11, []), .inl (ck_one 0), .inl (ck_one 1)], ([], [], []), ([(218, 0, 0), (218, 4, 4), (218, 8, 8), (218, 12, 12), (218, 16, 16), (218, 20, 20), (218, 24, 24), (218, 28, 28), (218, 32, 32), (218, 36, 36), (218, 40, 40), (218, 44, 44)], []), [(.inr none, 245, ([], [], []))])
set_option maxRecDepth 100000 in
theorem pm_s25_s {X : Int → Int} {LX : Nat} : ck_Ok p2_O X LX 45 pm_s25 := ck_okq (cuts := []) (f := 116) ⟨p2_nmu, ck_E0⟩ (by decide +kernel)
set_option maxRecDepth 100000 in
/-- GlacierMail$Rows.put -/
noncomputable def pm_s26 : ck_Sum := ((0, 0, 0), 245, [.inr (.inr (.inl 217)), .inl (ck_one (-1)), .inl (ck_one 0), .inl (ck_one 1)], ([], [], []), ([], []), [(.inr none, 245, ([], [], []))])
set_option maxRecDepth 100000 in
theorem pm_s26_s {X : Int → Int} {LX : Nat} : ck_Ok p2_O X LX 45 pm_s26 := ck_okq (cuts := []) (f := 76) ⟨p2_nmu, ck_E0⟩ (by decide +kernel)
set_option maxRecDepth 100000 in
/-- GlacierMail$Rows.put -/
noncomputable def pm_s27 : ck_Sum := ((0, 0, 0), 245, [.inr (.inr (.inl 217)), .inl (0, 11, []), .inl (ck_one 0), .inl (ck_one 2)], ([], [], []), ([(218, 0, 0), (218, 4, 4), (218, 8, 8), (218, 12, 12), (218, 16, 16), (218, 20, 20), (218, 24, 24), (218, 28, 28), (218, 32, 32), (218, 36, 36), (218, 40, 40), (218, 44, 44)], []), [(.inr none, 245, ([], [], []))])
set_option maxRecDepth 100000 in
theorem pm_s27_s {X : Int → Int} {LX : Nat} : ck_Ok p2_O X LX 45 pm_s27 := ck_okq (cuts := []) (f := 116) ⟨p2_nmu, ck_E0⟩ (by decide +kernel)
set_option maxRecDepth 100000 in
/-- GlacierMail$Rows.put -/
noncomputable def pm_s28 : ck_Sum := ((0, 0, 0), 245, [.inr (.inr (.inl 217)), .inl (0, 11, []), .inl (ck_one 1), .inl (ck_one 0)], ([], [], []), ([(218, 1, 1), (218, 5, 5), (218, 9, 9), (218, 13, 13), (218, 17, 17), (218, 21, 21), (218, 25, 25), (218, 29, 29), (218, 33, 33), (218, 37, 37), (218, 41, 41), (218, 45, 45)], []), [(.inr none, 245, ([], [], []))])
set_option maxRecDepth 100000 in
theorem pm_s28_s {X : Int → Int} {LX : Nat} : ck_Ok p2_O X LX 45 pm_s28 := ck_okq (cuts := []) (f := 116) ⟨p2_nmu, ck_E0⟩ (by decide +kernel)
set_option maxRecDepth 100000 in
/-- GlacierMail$Rows.put -/
noncomputable def pm_s29 : ck_Sum := ((0, 0, 0), 245, [.inr (.inr (.inl 217)), .inl (ck_one (-1)), .inl (ck_one 0), .inl (ck_one 2)], ([], [], []), ([], []), [(.inr none, 245, ([], [], []))])
set_option maxRecDepth 100000 in
theorem pm_s29_s {X : Int → Int} {LX : Nat} : ck_Ok p2_O X LX 45 pm_s29 := ck_okq (cuts := []) (f := 76) ⟨p2_nmu, ck_E0⟩ (by decide +kernel)
set_option maxRecDepth 100000 in
/-- GlacierMail$Rows.put -/
noncomputable def pm_s30 : ck_Sum := ((0, 0, 0), 245, [.inr (.inr (.inl 217)), .inl (ck_one (-1)), .inl (ck_one 1), .inl (ck_one 0)], ([], [], []), ([], []), [(.inr none, 245, ([], [], []))])
set_option maxRecDepth 100000 in
theorem pm_s30_s {X : Int → Int} {LX : Nat} : ck_Ok p2_O X LX 45 pm_s30 := ck_okq (cuts := []) (f := 76) ⟨p2_nmu, ck_E0⟩ (by decide +kernel)
set_option maxRecDepth 100000 in
/-- GlacierMail$Words.isWord -/
noncomputable def pm_s31 : ck_Sum := ((6, 0, 0), 245, [.inr (.inr (.inl 216)), .inr (.inr (.inr 16))], ([], [], [(216, 3, 3, (0, 400, [(13, 0)]))]), ([], []), [(.inr (some (.inl (ck_one 0))), 245, ([], [], [])), (.inr (some (.inl (ck_one 1))), 245, ([], [], [(216, 3, 3, (2, 400, [(13, 0)])), (216, 4, 4, (0, 398, [])), (216, 6, 6, ck_one 257)]))])
set_option maxRecDepth 100000 in
theorem pm_s31_s {X : Int → Int} {LX : Nat} : ck_Ok p2_O X LX 81 pm_s31 := ck_okq (cuts := []) (f := 210) ⟨p2_nmu, ck_E0⟩ (by decide +kernel)
set_option maxRecDepth 100000 in
/-- GlacierMail$Words.takeWord -/
noncomputable def pm_s32 : ck_Sum := ((7, 0, 0), 245, [.inr (.inr (.inl 216)), .inr (.inr (.inr 16))], ([], [], [(216, 3, 3, (0, 400, [(13, 0)]))]), ([(216, 3, 4), (216, 6, 7)], []), [(.inr (some (.inl (ck_one 0))), 245, ([], [], [(216, 3, 3, (0, 400, [(13, 0)]))])), (.inr (some (.inl (ck_one 1))), 245, ([], [], [(216, 3, 3, (2, 400, [(1000013, 0)]))]))])
set_option maxRecDepth 100000 in
theorem pm_s32_s {X : Int → Int} {LX : Nat} : ck_Ok p2_O X LX 95 pm_s32 := ck_okq (cuts := []) (f := 90) ⟨p2_nmu, ck_E1 (ck_S1 pm_s31_s ck_S0) (ck_E1 (ck_S1 pm_s5_s ck_S0) ck_E0)⟩ (by decide +kernel)
set_option maxRecDepth 100000 in
/-- GlacierMail$Words.isWord -/
noncomputable def pm_s33 : ck_Sum := ((6, 0, 0), 245, [.inr (.inr (.inl 216)), .inr (.inr (.inr 15))], ([], [], [(216, 3, 3, (0, 400, [(13, 0)]))]), ([], []), [(.inr (some (.inl (ck_one 0))), 245, ([], [], [])), (.inr (some (.inl (ck_one 1))), 245, ([], [], [(216, 3, 3, (3, 400, [(13, 0)])), (216, 4, 4, (0, 397, [])), (216, 6, 6, ck_one 257)]))])
set_option maxRecDepth 100000 in
theorem pm_s33_s {X : Int → Int} {LX : Nat} : ck_Ok p2_O X LX 81 pm_s33 := ck_okq (cuts := []) (f := 260) ⟨p2_nmu, ck_E0⟩ (by decide +kernel)
set_option maxRecDepth 100000 in
/-- GlacierMail$Words.takeWord -/
noncomputable def pm_s34 : ck_Sum := ((7, 0, 0), 245, [.inr (.inr (.inl 216)), .inr (.inr (.inr 15))], ([], [], [(216, 3, 3, (0, 400, [(13, 0)]))]), ([(216, 3, 4), (216, 6, 7)], []), [(.inr (some (.inl (ck_one 0))), 245, ([], [], [(216, 3, 3, (0, 400, [(13, 0)]))])), (.inr (some (.inl (ck_one 1))), 245, ([], [], [(216, 3, 3, (3, 400, [(1000013, 0)]))]))])
set_option maxRecDepth 100000 in
theorem pm_s34_s {X : Int → Int} {LX : Nat} : ck_Ok p2_O X LX 95 pm_s34 := ck_okq (cuts := []) (f := 90) ⟨p2_nmu, ck_E1 (ck_S1 pm_s33_s ck_S0) (ck_E1 (ck_S1 pm_s5_s ck_S0) ck_E0)⟩ (by decide +kernel)
set_option maxRecDepth 100000 in
/-- GlacierMail$LawReader.put -/
noncomputable def pm_s35 : ck_Sum := ((0, 0, 0), 245, [.inr (.inr (.inl 215)), .inl (ck_one (-17))], ([], [], []), ([(215, 4, 4), (219, 0, 399)], []), [(.inr none, 245, ([], [], [(215, 4, 4, (1, 400, []))]))])
set_option maxRecDepth 100000 in
theorem pm_s35_s {X : Int → Int} {LX : Nat} : ck_Ok p2_O X LX 99 pm_s35 := ck_okq (cuts := []) (f := 108) ⟨p2_nmu, ck_E0⟩ (by decide +kernel)
set_option maxRecDepth 100000 in
/-- GlacierMail$LawReader.put -/
noncomputable def pm_s36 : ck_Sum := ((0, 0, 0), 245, [.inr (.inr (.inl 215)), .inl (ck_one (-16))], ([], [], []), ([(215, 4, 4), (219, 0, 399)], []), [(.inr none, 245, ([], [], [(215, 4, 4, (1, 400, []))]))])
set_option maxRecDepth 100000 in
theorem pm_s36_s {X : Int → Int} {LX : Nat} : ck_Ok p2_O X LX 99 pm_s36 := ck_okq (cuts := []) (f := 108) ⟨p2_nmu, ck_E0⟩ (by decide +kernel)
set_option maxRecDepth 100000 in
/-- GlacierMail$Words.isWord -/
noncomputable def pm_s37 : ck_Sum := ((6, 0, 0), 245, [.inr (.inr (.inl 216)), .inr (.inr (.inr 4))], ([], [], [(216, 3, 3, (0, 400, [(13, 0)]))]), ([], []), [(.inr (some (.inl (ck_one 0))), 245, ([], [], [])), (.inr (some (.inl (ck_one 1))), 245, ([], [], [(216, 3, 3, (3, 400, [(13, 0)])), (216, 4, 4, (0, 397, [])), (216, 6, 6, ck_one 257)]))])
set_option maxRecDepth 100000 in
theorem pm_s37_s {X : Int → Int} {LX : Nat} : ck_Ok p2_O X LX 81 pm_s37 := ck_okq (cuts := []) (f := 260) ⟨p2_nmu, ck_E0⟩ (by decide +kernel)
set_option maxRecDepth 100000 in
/-- GlacierMail$Words.isWord -/
noncomputable def pm_s38 : ck_Sum := ((6, 0, 0), 245, [.inr (.inr (.inl 216)), .inr (.inr (.inr 5))], ([], [], [(216, 3, 3, (0, 400, [(13, 0)]))]), ([], []), [(.inr (some (.inl (ck_one 0))), 245, ([], [], [])), (.inr (some (.inl (ck_one 1))), 245, ([], [], [(216, 3, 3, (4, 400, [(13, 0)])), (216, 4, 4, (0, 396, [])), (216, 6, 6, ck_one 257)]))])
set_option maxRecDepth 100000 in
theorem pm_s38_s {X : Int → Int} {LX : Nat} : ck_Ok p2_O X LX 81 pm_s38 := ck_okq (cuts := []) (f := 310) ⟨p2_nmu, ck_E0⟩ (by decide +kernel)
set_option maxRecDepth 100000 in
/-- GlacierMail$Words.takeWord -/
noncomputable def pm_s39 : ck_Sum := ((7, 0, 0), 245, [.inr (.inr (.inl 216)), .inr (.inr (.inr 5))], ([], [], [(216, 3, 3, (0, 400, [(13, 0)]))]), ([(216, 3, 4), (216, 6, 7)], []), [(.inr (some (.inl (ck_one 0))), 245, ([], [], [(216, 3, 3, (0, 400, [(13, 0)]))])), (.inr (some (.inl (ck_one 1))), 245, ([], [], [(216, 3, 3, (4, 400, [(1000013, 0)]))]))])
set_option maxRecDepth 100000 in
theorem pm_s39_s {X : Int → Int} {LX : Nat} : ck_Ok p2_O X LX 95 pm_s39 := ck_okq (cuts := []) (f := 90) ⟨p2_nmu, ck_E1 (ck_S1 pm_s38_s ck_S0) (ck_E1 (ck_S1 pm_s5_s ck_S0) ck_E0)⟩ (by decide +kernel)
set_option maxRecDepth 100000 in
/-- GlacierMail$Words.isWord -/
noncomputable def pm_s40 : ck_Sum := ((6, 0, 0), 245, [.inr (.inr (.inl 216)), .inr (.inr (.inr 6))], ([], [], [(216, 3, 3, (0, 400, [(13, 0)]))]), ([], []), [(.inr (some (.inl (ck_one 0))), 245, ([], [], [])), (.inr (some (.inl (ck_one 1))), 245, ([], [], [(216, 3, 3, (5, 400, [(13, 0)])), (216, 4, 4, (0, 395, [])), (216, 6, 6, ck_one 257)]))])
set_option maxRecDepth 100000 in
theorem pm_s40_s {X : Int → Int} {LX : Nat} : ck_Ok p2_O X LX 81 pm_s40 := ck_okq (cuts := []) (f := 360) ⟨p2_nmu, ck_E0⟩ (by decide +kernel)
set_option maxRecDepth 100000 in
/-- GlacierMail$Words.takeWord -/
noncomputable def pm_s41 : ck_Sum := ((7, 0, 0), 245, [.inr (.inr (.inl 216)), .inr (.inr (.inr 6))], ([], [], [(216, 3, 3, (0, 400, [(13, 0)]))]), ([(216, 3, 4), (216, 6, 7)], []), [(.inr (some (.inl (ck_one 0))), 245, ([], [], [(216, 3, 3, (0, 400, [(13, 0)]))])), (.inr (some (.inl (ck_one 1))), 245, ([], [], [(216, 3, 3, (5, 400, [(1000013, 0)]))]))])
set_option maxRecDepth 100000 in
theorem pm_s41_s {X : Int → Int} {LX : Nat} : ck_Ok p2_O X LX 95 pm_s41 := ck_okq (cuts := []) (f := 90) ⟨p2_nmu, ck_E1 (ck_S1 pm_s40_s ck_S0) (ck_E1 (ck_S1 pm_s5_s ck_S0) ck_E0)⟩ (by decide +kernel)
set_option maxRecDepth 100000 in
/-- GlacierMail$Words.isWord -/
noncomputable def pm_s42 : ck_Sum := ((6, 0, 0), 245, [.inr (.inr (.inl 216)), .inr (.inr (.inr 7))], ([], [], [(216, 3, 3, (0, 400, [(13, 0)]))]), ([], []), [(.inr (some (.inl (ck_one 0))), 245, ([], [], [])), (.inr (some (.inl (ck_one 1))), 245, ([], [], [(216, 3, 3, (4, 400, [(13, 0)])), (216, 4, 4, (0, 396, [])), (216, 6, 6, ck_one 257)]))])
set_option maxRecDepth 100000 in
theorem pm_s42_s {X : Int → Int} {LX : Nat} : ck_Ok p2_O X LX 81 pm_s42 := ck_okq (cuts := []) (f := 310) ⟨p2_nmu, ck_E0⟩ (by decide +kernel)
set_option maxRecDepth 100000 in
/-- GlacierMail$Words.isWord -/
noncomputable def pm_s43 : ck_Sum := ((6, 0, 0), 245, [.inr (.inr (.inl 216)), .inr (.inr (.inr 8))], ([], [], [(216, 3, 3, (0, 400, [(13, 0)]))]), ([], []), [(.inr (some (.inl (ck_one 0))), 245, ([], [], [])), (.inr (some (.inl (ck_one 1))), 245, ([], [], [(216, 3, 3, (3, 400, [(13, 0)])), (216, 4, 4, (0, 397, [])), (216, 6, 6, ck_one 257)]))])
set_option maxRecDepth 100000 in
theorem pm_s43_s {X : Int → Int} {LX : Nat} : ck_Ok p2_O X LX 81 pm_s43 := ck_okq (cuts := []) (f := 260) ⟨p2_nmu, ck_E0⟩ (by decide +kernel)
set_option maxRecDepth 100000 in
/-- GlacierMail$Words.isWord -/
noncomputable def pm_s44 : ck_Sum := ((6, 0, 0), 245, [.inr (.inr (.inl 216)), .inr (.inr (.inr 9))], ([], [], [(216, 3, 3, (0, 400, [(13, 0)]))]), ([], []), [(.inr (some (.inl (ck_one 0))), 245, ([], [], [])), (.inr (some (.inl (ck_one 1))), 245, ([], [], [(216, 3, 3, (4, 400, [(13, 0)])), (216, 4, 4, (0, 396, [])), (216, 6, 6, ck_one 257)]))])
set_option maxRecDepth 100000 in
theorem pm_s44_s {X : Int → Int} {LX : Nat} : ck_Ok p2_O X LX 81 pm_s44 := ck_okq (cuts := []) (f := 310) ⟨p2_nmu, ck_E0⟩ (by decide +kernel)
set_option maxRecDepth 100000 in
/-- GlacierMail$Words.isWord -/
noncomputable def pm_s45 : ck_Sum := ((6, 0, 0), 245, [.inr (.inr (.inl 216)), .inr (.inr (.inr 10))], ([], [], [(216, 3, 3, (0, 400, [(13, 0)]))]), ([], []), [(.inr (some (.inl (ck_one 0))), 245, ([], [], [])), (.inr (some (.inl (ck_one 1))), 245, ([], [], [(216, 3, 3, (4, 400, [(13, 0)])), (216, 4, 4, (0, 396, [])), (216, 6, 6, ck_one 257)]))])
set_option maxRecDepth 100000 in
theorem pm_s45_s {X : Int → Int} {LX : Nat} : ck_Ok p2_O X LX 81 pm_s45 := ck_okq (cuts := []) (f := 310) ⟨p2_nmu, ck_E0⟩ (by decide +kernel)
set_option maxRecDepth 100000 in
/-- GlacierMail$Words.isWord -/
noncomputable def pm_s46 : ck_Sum := ((6, 0, 0), 245, [.inr (.inr (.inl 216)), .inr (.inr (.inr 11))], ([], [], [(216, 3, 3, (0, 400, [(13, 0)]))]), ([], []), [(.inr (some (.inl (ck_one 0))), 245, ([], [], [])), (.inr (some (.inl (ck_one 1))), 245, ([], [], [(216, 3, 3, (5, 400, [(13, 0)])), (216, 4, 4, (0, 395, [])), (216, 6, 6, ck_one 257)]))])
set_option maxRecDepth 100000 in
theorem pm_s46_s {X : Int → Int} {LX : Nat} : ck_Ok p2_O X LX 81 pm_s46 := ck_okq (cuts := []) (f := 360) ⟨p2_nmu, ck_E0⟩ (by decide +kernel)
set_option maxRecDepth 100000 in
/-- GlacierMail$Words.isWord -/
noncomputable def pm_s47 : ck_Sum := ((6, 0, 0), 245, [.inr (.inr (.inl 216)), .inr (.inr (.inr 12))], ([], [], [(216, 3, 3, (0, 400, [(13, 0)]))]), ([], []), [(.inr (some (.inl (ck_one 0))), 245, ([], [], [])), (.inr (some (.inl (ck_one 1))), 245, ([], [], [(216, 3, 3, (6, 400, [(13, 0)])), (216, 4, 4, (0, 394, [])), (216, 6, 6, ck_one 257)]))])
set_option maxRecDepth 100000 in
theorem pm_s47_s {X : Int → Int} {LX : Nat} : ck_Ok p2_O X LX 81 pm_s47 := ck_okq (cuts := []) (f := 410) ⟨p2_nmu, ck_E0⟩ (by decide +kernel)
set_option maxRecDepth 100000 in
/-- GlacierMail$Words.isWord -/
noncomputable def pm_s48 : ck_Sum := ((6, 0, 0), 245, [.inr (.inr (.inl 216)), .inr (.inr (.inr 13))], ([], [], [(216, 3, 3, (0, 400, [(13, 0)]))]), ([], []), [(.inr (some (.inl (ck_one 0))), 245, ([], [], [])), (.inr (some (.inl (ck_one 1))), 245, ([], [], [(216, 3, 3, (3, 400, [(13, 0)])), (216, 4, 4, (0, 397, [])), (216, 6, 6, ck_one 257)]))])
set_option maxRecDepth 100000 in
theorem pm_s48_s {X : Int → Int} {LX : Nat} : ck_Ok p2_O X LX 81 pm_s48 := ck_okq (cuts := []) (f := 260) ⟨p2_nmu, ck_E0⟩ (by decide +kernel)
set_option maxRecDepth 100000 in
/-- GlacierMail$Words.isWord -/
noncomputable def pm_s49 : ck_Sum := ((6, 0, 0), 245, [.inr (.inr (.inl 216)), .inr (.inr (.inr 14))], ([], [], [(216, 3, 3, (0, 400, [(13, 0)]))]), ([], []), [(.inr (some (.inl (ck_one 0))), 245, ([], [], [])), (.inr (some (.inl (ck_one 1))), 245, ([], [], [(216, 3, 3, (4, 400, [(13, 0)])), (216, 4, 4, (0, 396, [])), (216, 6, 6, ck_one 257)]))])
set_option maxRecDepth 100000 in
theorem pm_s49_s {X : Int → Int} {LX : Nat} : ck_Ok p2_O X LX 81 pm_s49 := ck_okq (cuts := []) (f := 310) ⟨p2_nmu, ck_E0⟩ (by decide +kernel)
set_option maxRecDepth 100000 in
/-- GlacierMail$LawReader.factCode -/
noncomputable def pm_s50 : ck_Sum := ((7, 0, 0), 245, [.inr (.inr (.inl 215))], ([], [], [(216, 3, 3, (0, 400, [(13, 0)]))]), ([], []), [(.inr (some (.inl ((-9), (-1), []))), 245, ([], [], []))])
set_option maxRecDepth 100000 in
theorem pm_s50_s {X : Int → Int} {LX : Nat} : ck_Ok p2_O X LX 101 pm_s50 := ck_okq (cuts := []) (f := 156) ⟨p2_nmu, ck_E1 (ck_S1 pm_s42_s (ck_S1 pm_s43_s (ck_S1 pm_s44_s (ck_S1 pm_s45_s (ck_S1 pm_s46_s (ck_S1 pm_s47_s (ck_S1 pm_s48_s (ck_S1 pm_s49_s ck_S0)))))))) ck_E0⟩ (by decide +kernel)
set_option maxRecDepth 100000 in
/-- GlacierMail$LawReader.put -/
noncomputable def pm_s51 : ck_Sum := ((0, 0, 0), 245, [.inr (.inr (.inl 215)), .inl ((-9), (-2), [])], ([], [], []), ([(215, 4, 4), (219, 0, 399)], []), [(.inr none, 245, ([], [], [(215, 4, 4, (1, 400, []))]))])
set_option maxRecDepth 100000 in
theorem pm_s51_s {X : Int → Int} {LX : Nat} : ck_Ok p2_O X LX 99 pm_s51 := ck_okq (cuts := []) (f := 108) ⟨p2_nmu, ck_E0⟩ (by decide +kernel)
set_option maxRecDepth 100000 in
/-- GlacierMail$LawReader.put -/
noncomputable def pm_s52 : ck_Sum := ((0, 0, 0), 245, [.inr (.inr (.inl 215)), .inl ((-2147483648), 2147483647, [])], ([], [], []), ([(215, 4, 4), (219, 0, 399)], []), [(.inr none, 245, ([], [], [(215, 4, 4, (1, 400, []))]))])
set_option maxRecDepth 100000 in
theorem pm_s52_s {X : Int → Int} {LX : Nat} : ck_Ok p2_O X LX 99 pm_s52 := ck_okq (cuts := []) (f := 108) ⟨p2_nmu, ck_E0⟩ (by decide +kernel)
set_option maxRecDepth 100000 in
/-- GlacierMail$LawReader.readSum -/
noncomputable def pm_s53 : ck_Sum := ((8, 0, 0), 245, [.inr (.inr (.inl 215))], ([], [], [(216, 3, 3, (0, 400, [(13, 0)]))]), ([(215, 4, 4), (216, 3, 7), (219, 0, 399)], []), [(.inr (some (.inl (ck_one 0))), 245, ([], [], [(216, 5, 5, (0, 400, [])), (216, 3, 3, (0, 400, [(1000013, 0)]))])), (.inr (some (.inl (ck_one 1))), 245, ([], [], [(216, 3, 3, (0, 400, [(1000013, 0)])), (215, 4, 4, (1, 400, []))]))])
set_option maxRecDepth 100000 in
theorem pm_s53_s {X : Int → Int} {LX : Nat} : ck_Ok p2_O X LX 100 pm_s53 := ck_okq (cuts := [(2, [some (.inr (.inr (.inl 215))), some (.inl (0, 400, [])), none], ([], [], [(216, 3, 3, (0, 400, [(1000013, 0)]))]), 100, .inl 1, true)]) (f := 222) ⟨p2_nmu, ck_E1 (ck_S1 pm_s7_s ck_S0) (ck_E1 (ck_S1 pm_s50_s ck_S0) (ck_E1 (ck_S1 pm_s51_s (ck_S1 pm_s52_s ck_S0)) (ck_E1 (ck_S1 pm_s5_s ck_S0) ck_E0)))⟩ (by decide +kernel)
set_option maxRecDepth 100000 in
/-- GlacierMail$LawReader.put -/
noncomputable def pm_s54 : ck_Sum := ((0, 0, 0), 245, [.inr (.inr (.inl 215)), .inl (ck_one (-12))], ([], [], []), ([(215, 4, 4), (219, 0, 399)], []), [(.inr none, 245, ([], [], [(215, 4, 4, (1, 400, []))]))])
set_option maxRecDepth 100000 in
theorem pm_s54_s {X : Int → Int} {LX : Nat} : ck_Ok p2_O X LX 99 pm_s54 := ck_okq (cuts := []) (f := 108) ⟨p2_nmu, ck_E0⟩ (by decide +kernel)
set_option maxRecDepth 100000 in
/-- GlacierMail$LawReader.put -/
noncomputable def pm_s55 : ck_Sum := ((0, 0, 0), 245, [.inr (.inr (.inl 215)), .inl (ck_one (-13))], ([], [], []), ([(215, 4, 4), (219, 0, 399)], []), [(.inr none, 245, ([], [], [(215, 4, 4, (1, 400, []))]))])
set_option maxRecDepth 100000 in
theorem pm_s55_s {X : Int → Int} {LX : Nat} : ck_Ok p2_O X LX 99 pm_s55 := ck_okq (cuts := []) (f := 108) ⟨p2_nmu, ck_E0⟩ (by decide +kernel)
set_option maxRecDepth 100000 in
/-- GlacierMail$LawReader.put -/
noncomputable def pm_s56 : ck_Sum := ((0, 0, 0), 245, [.inr (.inr (.inl 215)), .inl (ck_one (-14))], ([], [], []), ([(215, 4, 4), (219, 0, 399)], []), [(.inr none, 245, ([], [], [(215, 4, 4, (1, 400, []))]))])
set_option maxRecDepth 100000 in
theorem pm_s56_s {X : Int → Int} {LX : Nat} : ck_Ok p2_O X LX 99 pm_s56 := ck_okq (cuts := []) (f := 108) ⟨p2_nmu, ck_E0⟩ (by decide +kernel)
set_option maxRecDepth 100000 in
/-- GlacierMail$LawReader.put -/
noncomputable def pm_s57 : ck_Sum := ((0, 0, 0), 245, [.inr (.inr (.inl 215)), .inl (ck_one (-11))], ([], [], []), ([(215, 4, 4), (219, 0, 399)], []), [(.inr none, 245, ([], [], [(215, 4, 4, (1, 400, []))]))])
set_option maxRecDepth 100000 in
theorem pm_s57_s {X : Int → Int} {LX : Nat} : ck_Ok p2_O X LX 99 pm_s57 := ck_okq (cuts := []) (f := 108) ⟨p2_nmu, ck_E0⟩ (by decide +kernel)
set_option maxRecDepth 100000 in
/-- GlacierMail$LawReader.put -/
noncomputable def pm_s58 : ck_Sum := ((0, 0, 0), 245, [.inr (.inr (.inl 215)), .inl (ck_one (-10))], ([], [], []), ([(215, 4, 4), (219, 0, 399)], []), [(.inr none, 245, ([], [], [(215, 4, 4, (1, 400, []))]))])
set_option maxRecDepth 100000 in
theorem pm_s58_s {X : Int → Int} {LX : Nat} : ck_Ok p2_O X LX 99 pm_s58 := ck_okq (cuts := []) (f := 108) ⟨p2_nmu, ck_E0⟩ (by decide +kernel)
set_option maxRecDepth 100000 in
/-- GlacierMail$LawReader.put -/
noncomputable def pm_s59 : ck_Sum := ((0, 0, 0), 245, [.inr (.inr (.inl 215)), .inl (ck_one (-15))], ([], [], []), ([(215, 4, 4), (219, 0, 399)], []), [(.inr none, 245, ([], [], [(215, 4, 4, (1, 400, []))]))])
set_option maxRecDepth 100000 in
theorem pm_s59_s {X : Int → Int} {LX : Nat} : ck_Ok p2_O X LX 99 pm_s59 := ck_okq (cuts := []) (f := 108) ⟨p2_nmu, ck_E0⟩ (by decide +kernel)
set_option maxRecDepth 100000 in
/-- GlacierMail$LawReader.readAtom -/
noncomputable def pm_s60 : ck_Sum := ((9, 0, 0), 245, [.inr (.inr (.inl 215)), .inl (ck_one 6)], ([], [], [(216, 3, 3, (0, 400, [(13, 0)]))]), ([(215, 4, 4), (216, 3, 7), (219, 0, 399)], []), [(.inr (some (.inl (ck_one 0))), 245, ([], [], [(216, 5, 5, (0, 400, [])), (216, 3, 3, (0, 400, [(1000013, 0)]))])), (.inr (some (.inl (ck_one 1))), 245, ([], [], [(215, 4, 4, (1, 400, [])), (216, 3, 3, (0, 400, [(1000013, 0)]))]))])
set_option maxRecDepth 100000 in
theorem pm_s60_s {X : Int → Int} {LX : Nat} : ck_Ok p2_O X LX 97 pm_s60 := ck_okq (cuts := []) (f := 174) ⟨p2_nmu, ck_E1 (ck_S1 pm_s37_s ck_S0) (ck_E1 (ck_S1 pm_s39_s (ck_S1 pm_s41_s ck_S0)) (ck_E1 (ck_S1 pm_s53_s ck_S0) (ck_E1 (ck_S1 pm_s5_s ck_S0) (ck_E1 (ck_S1 pm_s54_s (ck_S1 pm_s55_s (ck_S1 pm_s56_s (ck_S1 pm_s57_s (ck_S1 pm_s58_s ck_S0))))) (ck_E1 (ck_S1 pm_s7_s ck_S0) ck_E0)))))⟩ (by decide +kernel)
set_option maxRecDepth 100000 in
/-- GlacierMail$LawReader.readCondition -/
noncomputable def pm_s61 : ck_Sum := ((10, 0, 0), 245, [.inr (.inr (.inl 215)), .inl (ck_one 6)], ([], [], [(216, 3, 3, (0, 400, [(13, 0)]))]), ([(215, 4, 4), (216, 3, 7), (219, 0, 399)], []), [(.inr (some (.inl (ck_one 0))), 245, ([], [], [(216, 5, 5, (0, 400, [])), (216, 3, 3, (0, 400, [(1000013, 0)]))])), (.inr (some (.inl (ck_one 1))), 245, ([], [], [(216, 3, 3, (0, 400, [(1000013, 0)]))]))])
set_option maxRecDepth 100000 in
theorem pm_s61_s {X : Int → Int} {LX : Nat} : ck_Ok p2_O X LX 96 pm_s61 := ck_okq (cuts := [(2, [some (.inr (.inr (.inl 215))), some (.inl (ck_one 6)), some (.inl (0, 400, [])), none], ([], [], [(216, 3, 3, (0, 400, [(1000013, 0)]))]), 100, .inl 2, true), (11, [some (.inr (.inr (.inl 215))), some (.inl (ck_one 6)), some (.inl (0, 399, [(100, 0)])), some (.inl (0, 400, []))], ([], [], [(216, 3, 3, (0, 400, [(1000013, 0)]))]), 300, .inl 3, true)]) (f := 296) ⟨p2_nmu, ck_E1 (ck_S1 pm_s7_s ck_S0) (ck_E1 (ck_S1 pm_s32_s (ck_S1 pm_s34_s ck_S0)) (ck_E1 (ck_S1 pm_s35_s (ck_S1 pm_s36_s ck_S0)) (ck_E1 (ck_S1 pm_s60_s ck_S0) ck_E0)))⟩ (by decide +kernel)
set_option maxRecDepth 100000 in
/-- GlacierMail$Words.needSign -/
noncomputable def pm_s62 : ck_Sum := ((2, 0, 0), 245, [.inr (.inr (.inl 216)), .inl (ck_one 41)], ([], [], [(216, 3, 3, (0, 400, [(13, 0)]))]), ([(216, 3, 7)], []), [(.inr (some (.inl (ck_one 1))), 245, ([], [], [(216, 3, 3, (0, 400, [(1000013, 0)]))])), (.inr (some (.inl (ck_one 0))), 245, ([], [], [(216, 5, 5, (0, 400, [])), (216, 3, 3, (0, 400, [(13, 0)]))]))])
set_option maxRecDepth 100000 in
theorem pm_s62_s {X : Int → Int} {LX : Nat} : ck_Ok p2_O X LX 98 pm_s62 := ck_okq (cuts := []) (f := 86) ⟨p2_nmu, ck_E1 (ck_S1 pm_s5_s ck_S0) (ck_E1 (ck_S1 pm_s7_s ck_S0) ck_E0)⟩ (by decide +kernel)
set_option maxRecDepth 100000 in
/-- GlacierMail$LawReader.readAtom -/
noncomputable def pm_s63 : ck_Sum := ((11, 0, 0), 245, [.inr (.inr (.inl 215)), .inl (ck_one 5)], ([], [], [(216, 3, 3, (0, 400, [(13, 0)]))]), ([(215, 4, 4), (216, 3, 7), (219, 0, 399)], []), [(.inr (some (.inl (ck_one 0))), 245, ([], [], [(216, 5, 5, (0, 400, [])), (216, 3, 3, (0, 400, [(1000013, 0)]))])), (.inr (some (.inl (ck_one 1))), 245, ([], [], [(216, 3, 3, (0, 400, [(1000013, 0)]))]))])
set_option maxRecDepth 100000 in
theorem pm_s63_s {X : Int → Int} {LX : Nat} : ck_Ok p2_O X LX 97 pm_s63 := ck_okq (cuts := []) (f := 174) ⟨p2_nmu, ck_E1 (ck_S1 pm_s37_s ck_S0) (ck_E1 (ck_S1 pm_s39_s (ck_S1 pm_s41_s ck_S0)) (ck_E1 (ck_S1 pm_s53_s ck_S0) (ck_E1 (ck_S1 pm_s5_s ck_S0) (ck_E1 (ck_S1 pm_s54_s (ck_S1 pm_s55_s (ck_S1 pm_s56_s (ck_S1 pm_s57_s (ck_S1 pm_s58_s (ck_S1 pm_s59_s ck_S0)))))) (ck_E1 (ck_S1 pm_s7_s ck_S0) (ck_E1 (ck_S1 pm_s61_s ck_S0) (ck_E1 (ck_S1 pm_s62_s ck_S0) (ck_E1 (ck_S1 pm_s60_s ck_S0) ck_E0))))))))⟩ (by decide +kernel)
set_option maxRecDepth 100000 in
/-- GlacierMail$LawReader.readCondition -/
noncomputable def pm_s64 : ck_Sum := ((12, 0, 0), 245, [.inr (.inr (.inl 215)), .inl (ck_one 5)], ([], [], [(216, 3, 3, (0, 400, [(13, 0)]))]), ([(215, 4, 4), (216, 3, 7), (219, 0, 399)], []), [(.inr (some (.inl (ck_one 0))), 245, ([], [], [(216, 5, 5, (0, 400, [])), (216, 3, 3, (0, 400, [(1000013, 0)]))])), (.inr (some (.inl (ck_one 1))), 245, ([], [], [(216, 3, 3, (0, 400, [(1000013, 0)]))]))])
set_option maxRecDepth 100000 in
theorem pm_s64_s {X : Int → Int} {LX : Nat} : ck_Ok p2_O X LX 96 pm_s64 := ck_okq (cuts := [(2, [some (.inr (.inr (.inl 215))), some (.inl (ck_one 5)), some (.inl (0, 400, [])), none], ([], [], [(216, 3, 3, (0, 400, [(1000013, 0)]))]), 100, .inl 2, true), (11, [some (.inr (.inr (.inl 215))), some (.inl (ck_one 5)), some (.inl (0, 399, [(100, 0)])), some (.inl (0, 400, []))], ([], [], [(216, 3, 3, (0, 400, [(1000013, 0)]))]), 300, .inl 3, true)]) (f := 296) ⟨p2_nmu, ck_E1 (ck_S1 pm_s7_s ck_S0) (ck_E1 (ck_S1 pm_s32_s (ck_S1 pm_s34_s ck_S0)) (ck_E1 (ck_S1 pm_s35_s (ck_S1 pm_s36_s ck_S0)) (ck_E1 (ck_S1 pm_s63_s ck_S0) ck_E0)))⟩ (by decide +kernel)
set_option maxRecDepth 100000 in
/-- GlacierMail$LawReader.readAtom -/
noncomputable def pm_s65 : ck_Sum := ((13, 0, 0), 245, [.inr (.inr (.inl 215)), .inl (ck_one 4)], ([], [], [(216, 3, 3, (0, 400, [(13, 0)]))]), ([(215, 4, 4), (216, 3, 7), (219, 0, 399)], []), [(.inr (some (.inl (ck_one 0))), 245, ([], [], [(216, 5, 5, (0, 400, [])), (216, 3, 3, (0, 400, [(1000013, 0)]))])), (.inr (some (.inl (ck_one 1))), 245, ([], [], [(216, 3, 3, (0, 400, [(1000013, 0)]))]))])
set_option maxRecDepth 100000 in
theorem pm_s65_s {X : Int → Int} {LX : Nat} : ck_Ok p2_O X LX 97 pm_s65 := ck_okq (cuts := []) (f := 174) ⟨p2_nmu, ck_E1 (ck_S1 pm_s37_s ck_S0) (ck_E1 (ck_S1 pm_s39_s (ck_S1 pm_s41_s ck_S0)) (ck_E1 (ck_S1 pm_s53_s ck_S0) (ck_E1 (ck_S1 pm_s5_s ck_S0) (ck_E1 (ck_S1 pm_s54_s (ck_S1 pm_s55_s (ck_S1 pm_s56_s (ck_S1 pm_s57_s (ck_S1 pm_s58_s (ck_S1 pm_s59_s ck_S0)))))) (ck_E1 (ck_S1 pm_s7_s ck_S0) (ck_E1 (ck_S1 pm_s64_s ck_S0) (ck_E1 (ck_S1 pm_s62_s ck_S0) (ck_E1 (ck_S1 pm_s63_s ck_S0) ck_E0))))))))⟩ (by decide +kernel)
set_option maxRecDepth 100000 in
/-- GlacierMail$LawReader.readCondition -/
noncomputable def pm_s66 : ck_Sum := ((14, 0, 0), 245, [.inr (.inr (.inl 215)), .inl (ck_one 4)], ([], [], [(216, 3, 3, (0, 400, [(13, 0)]))]), ([(215, 4, 4), (216, 3, 7), (219, 0, 399)], []), [(.inr (some (.inl (ck_one 0))), 245, ([], [], [(216, 5, 5, (0, 400, [])), (216, 3, 3, (0, 400, [(1000013, 0)]))])), (.inr (some (.inl (ck_one 1))), 245, ([], [], [(216, 3, 3, (0, 400, [(1000013, 0)]))]))])
set_option maxRecDepth 100000 in
theorem pm_s66_s {X : Int → Int} {LX : Nat} : ck_Ok p2_O X LX 96 pm_s66 := ck_okq (cuts := [(2, [some (.inr (.inr (.inl 215))), some (.inl (ck_one 4)), some (.inl (0, 400, [])), none], ([], [], [(216, 3, 3, (0, 400, [(1000013, 0)]))]), 100, .inl 2, true), (11, [some (.inr (.inr (.inl 215))), some (.inl (ck_one 4)), some (.inl (0, 399, [(100, 0)])), some (.inl (0, 400, []))], ([], [], [(216, 3, 3, (0, 400, [(1000013, 0)]))]), 300, .inl 3, true)]) (f := 296) ⟨p2_nmu, ck_E1 (ck_S1 pm_s7_s ck_S0) (ck_E1 (ck_S1 pm_s32_s (ck_S1 pm_s34_s ck_S0)) (ck_E1 (ck_S1 pm_s35_s (ck_S1 pm_s36_s ck_S0)) (ck_E1 (ck_S1 pm_s65_s ck_S0) ck_E0)))⟩ (by decide +kernel)
set_option maxRecDepth 100000 in
/-- GlacierMail$LawReader.readAtom -/
noncomputable def pm_s67 : ck_Sum := ((15, 0, 0), 245, [.inr (.inr (.inl 215)), .inl (ck_one 3)], ([], [], [(216, 3, 3, (0, 400, [(13, 0)]))]), ([(215, 4, 4), (216, 3, 7), (219, 0, 399)], []), [(.inr (some (.inl (ck_one 0))), 245, ([], [], [(216, 5, 5, (0, 400, [])), (216, 3, 3, (0, 400, [(1000013, 0)]))])), (.inr (some (.inl (ck_one 1))), 245, ([], [], [(216, 3, 3, (0, 400, [(1000013, 0)]))]))])
set_option maxRecDepth 100000 in
theorem pm_s67_s {X : Int → Int} {LX : Nat} : ck_Ok p2_O X LX 97 pm_s67 := ck_okq (cuts := []) (f := 174) ⟨p2_nmu, ck_E1 (ck_S1 pm_s37_s ck_S0) (ck_E1 (ck_S1 pm_s39_s (ck_S1 pm_s41_s ck_S0)) (ck_E1 (ck_S1 pm_s53_s ck_S0) (ck_E1 (ck_S1 pm_s5_s ck_S0) (ck_E1 (ck_S1 pm_s54_s (ck_S1 pm_s55_s (ck_S1 pm_s56_s (ck_S1 pm_s57_s (ck_S1 pm_s58_s (ck_S1 pm_s59_s ck_S0)))))) (ck_E1 (ck_S1 pm_s7_s ck_S0) (ck_E1 (ck_S1 pm_s66_s ck_S0) (ck_E1 (ck_S1 pm_s62_s ck_S0) (ck_E1 (ck_S1 pm_s65_s ck_S0) ck_E0))))))))⟩ (by decide +kernel)
set_option maxRecDepth 100000 in
/-- GlacierMail$LawReader.readCondition -/
noncomputable def pm_s68 : ck_Sum := ((16, 0, 0), 245, [.inr (.inr (.inl 215)), .inl (ck_one 3)], ([], [], [(216, 3, 3, (0, 400, [(13, 0)]))]), ([(215, 4, 4), (216, 3, 7), (219, 0, 399)], []), [(.inr (some (.inl (ck_one 0))), 245, ([], [], [(216, 5, 5, (0, 400, [])), (216, 3, 3, (0, 400, [(1000013, 0)]))])), (.inr (some (.inl (ck_one 1))), 245, ([], [], [(216, 3, 3, (0, 400, [(1000013, 0)]))]))])
set_option maxRecDepth 100000 in
theorem pm_s68_s {X : Int → Int} {LX : Nat} : ck_Ok p2_O X LX 96 pm_s68 := ck_okq (cuts := [(2, [some (.inr (.inr (.inl 215))), some (.inl (ck_one 3)), some (.inl (0, 400, [])), none], ([], [], [(216, 3, 3, (0, 400, [(1000013, 0)]))]), 100, .inl 2, true), (11, [some (.inr (.inr (.inl 215))), some (.inl (ck_one 3)), some (.inl (0, 399, [(100, 0)])), some (.inl (0, 400, []))], ([], [], [(216, 3, 3, (0, 400, [(1000013, 0)]))]), 300, .inl 3, true)]) (f := 296) ⟨p2_nmu, ck_E1 (ck_S1 pm_s7_s ck_S0) (ck_E1 (ck_S1 pm_s32_s (ck_S1 pm_s34_s ck_S0)) (ck_E1 (ck_S1 pm_s35_s (ck_S1 pm_s36_s ck_S0)) (ck_E1 (ck_S1 pm_s67_s ck_S0) ck_E0)))⟩ (by decide +kernel)
set_option maxRecDepth 100000 in
/-- GlacierMail$LawReader.readAtom -/
noncomputable def pm_s69 : ck_Sum := ((17, 0, 0), 245, [.inr (.inr (.inl 215)), .inl (ck_one 2)], ([], [], [(216, 3, 3, (0, 400, [(13, 0)]))]), ([(215, 4, 4), (216, 3, 7), (219, 0, 399)], []), [(.inr (some (.inl (ck_one 0))), 245, ([], [], [(216, 5, 5, (0, 400, [])), (216, 3, 3, (0, 400, [(1000013, 0)]))])), (.inr (some (.inl (ck_one 1))), 245, ([], [], [(216, 3, 3, (0, 400, [(1000013, 0)]))]))])
set_option maxRecDepth 100000 in
theorem pm_s69_s {X : Int → Int} {LX : Nat} : ck_Ok p2_O X LX 97 pm_s69 := ck_okq (cuts := []) (f := 174) ⟨p2_nmu, ck_E1 (ck_S1 pm_s37_s ck_S0) (ck_E1 (ck_S1 pm_s39_s (ck_S1 pm_s41_s ck_S0)) (ck_E1 (ck_S1 pm_s53_s ck_S0) (ck_E1 (ck_S1 pm_s5_s ck_S0) (ck_E1 (ck_S1 pm_s54_s (ck_S1 pm_s55_s (ck_S1 pm_s56_s (ck_S1 pm_s57_s (ck_S1 pm_s58_s (ck_S1 pm_s59_s ck_S0)))))) (ck_E1 (ck_S1 pm_s7_s ck_S0) (ck_E1 (ck_S1 pm_s68_s ck_S0) (ck_E1 (ck_S1 pm_s62_s ck_S0) (ck_E1 (ck_S1 pm_s67_s ck_S0) ck_E0))))))))⟩ (by decide +kernel)
set_option maxRecDepth 100000 in
/-- GlacierMail$LawReader.readCondition -/
noncomputable def pm_s70 : ck_Sum := ((18, 0, 0), 245, [.inr (.inr (.inl 215)), .inl (ck_one 2)], ([], [], [(216, 3, 3, (0, 400, [(13, 0)]))]), ([(215, 4, 4), (216, 3, 7), (219, 0, 399)], []), [(.inr (some (.inl (ck_one 0))), 245, ([], [], [(216, 5, 5, (0, 400, [])), (216, 3, 3, (0, 400, [(1000013, 0)]))])), (.inr (some (.inl (ck_one 1))), 245, ([], [], [(216, 3, 3, (0, 400, [(1000013, 0)]))]))])
set_option maxRecDepth 100000 in
theorem pm_s70_s {X : Int → Int} {LX : Nat} : ck_Ok p2_O X LX 96 pm_s70 := ck_okq (cuts := [(2, [some (.inr (.inr (.inl 215))), some (.inl (ck_one 2)), some (.inl (0, 400, [])), none], ([], [], [(216, 3, 3, (0, 400, [(1000013, 0)]))]), 100, .inl 2, true), (11, [some (.inr (.inr (.inl 215))), some (.inl (ck_one 2)), some (.inl (0, 399, [(100, 0)])), some (.inl (0, 400, []))], ([], [], [(216, 3, 3, (0, 400, [(1000013, 0)]))]), 300, .inl 3, true)]) (f := 296) ⟨p2_nmu, ck_E1 (ck_S1 pm_s7_s ck_S0) (ck_E1 (ck_S1 pm_s32_s (ck_S1 pm_s34_s ck_S0)) (ck_E1 (ck_S1 pm_s35_s (ck_S1 pm_s36_s ck_S0)) (ck_E1 (ck_S1 pm_s69_s ck_S0) ck_E0)))⟩ (by decide +kernel)
set_option maxRecDepth 100000 in
/-- GlacierMail$LawReader.readAtom -/
noncomputable def pm_s71 : ck_Sum := ((19, 0, 0), 245, [.inr (.inr (.inl 215)), .inl (ck_one 1)], ([], [], [(216, 3, 3, (0, 400, [(13, 0)]))]), ([(215, 4, 4), (216, 3, 7), (219, 0, 399)], []), [(.inr (some (.inl (ck_one 0))), 245, ([], [], [(216, 5, 5, (0, 400, [])), (216, 3, 3, (0, 400, [(1000013, 0)]))])), (.inr (some (.inl (ck_one 1))), 245, ([], [], [(216, 3, 3, (0, 400, [(1000013, 0)]))]))])
set_option maxRecDepth 100000 in
theorem pm_s71_s {X : Int → Int} {LX : Nat} : ck_Ok p2_O X LX 97 pm_s71 := ck_okq (cuts := []) (f := 174) ⟨p2_nmu, ck_E1 (ck_S1 pm_s37_s ck_S0) (ck_E1 (ck_S1 pm_s39_s (ck_S1 pm_s41_s ck_S0)) (ck_E1 (ck_S1 pm_s53_s ck_S0) (ck_E1 (ck_S1 pm_s5_s ck_S0) (ck_E1 (ck_S1 pm_s54_s (ck_S1 pm_s55_s (ck_S1 pm_s56_s (ck_S1 pm_s57_s (ck_S1 pm_s58_s (ck_S1 pm_s59_s ck_S0)))))) (ck_E1 (ck_S1 pm_s7_s ck_S0) (ck_E1 (ck_S1 pm_s70_s ck_S0) (ck_E1 (ck_S1 pm_s62_s ck_S0) (ck_E1 (ck_S1 pm_s69_s ck_S0) ck_E0))))))))⟩ (by decide +kernel)
set_option maxRecDepth 100000 in
/-- GlacierMail$LawReader.readCondition -/
noncomputable def pm_s72 : ck_Sum := ((20, 0, 0), 245, [.inr (.inr (.inl 215)), .inl (ck_one 1)], ([], [], [(216, 3, 3, (0, 400, [(13, 0)]))]), ([(215, 4, 4), (216, 3, 7), (219, 0, 399)], []), [(.inr (some (.inl (ck_one 0))), 245, ([], [], [(216, 5, 5, (0, 400, [])), (216, 3, 3, (0, 400, [(1000013, 0)]))])), (.inr (some (.inl (ck_one 1))), 245, ([], [], [(216, 3, 3, (0, 400, [(1000013, 0)]))]))])
set_option maxRecDepth 100000 in
theorem pm_s72_s {X : Int → Int} {LX : Nat} : ck_Ok p2_O X LX 96 pm_s72 := ck_okq (cuts := [(2, [some (.inr (.inr (.inl 215))), some (.inl (ck_one 1)), some (.inl (0, 400, [])), none], ([], [], [(216, 3, 3, (0, 400, [(1000013, 0)]))]), 100, .inl 2, true), (11, [some (.inr (.inr (.inl 215))), some (.inl (ck_one 1)), some (.inl (0, 399, [(100, 0)])), some (.inl (0, 400, []))], ([], [], [(216, 3, 3, (0, 400, [(1000013, 0)]))]), 300, .inl 3, true)]) (f := 296) ⟨p2_nmu, ck_E1 (ck_S1 pm_s7_s ck_S0) (ck_E1 (ck_S1 pm_s32_s (ck_S1 pm_s34_s ck_S0)) (ck_E1 (ck_S1 pm_s35_s (ck_S1 pm_s36_s ck_S0)) (ck_E1 (ck_S1 pm_s71_s ck_S0) ck_E0)))⟩ (by decide +kernel)
set_option maxRecDepth 100000 in
/-- GlacierMail$LawReader.readAtom -/
noncomputable def pm_s73 : ck_Sum := ((21, 0, 0), 245, [.inr (.inr (.inl 215)), .inl (ck_one 0)], ([], [], [(216, 3, 3, (0, 400, [(13, 0)]))]), ([(215, 4, 4), (216, 3, 7), (219, 0, 399)], []), [(.inr (some (.inl (ck_one 0))), 245, ([], [], [(216, 5, 5, (0, 400, [])), (216, 3, 3, (0, 400, [(1000013, 0)]))])), (.inr (some (.inl (ck_one 1))), 245, ([], [], [(216, 3, 3, (0, 400, [(1000013, 0)]))]))])
set_option maxRecDepth 100000 in
theorem pm_s73_s {X : Int → Int} {LX : Nat} : ck_Ok p2_O X LX 97 pm_s73 := ck_okq (cuts := []) (f := 174) ⟨p2_nmu, ck_E1 (ck_S1 pm_s37_s ck_S0) (ck_E1 (ck_S1 pm_s39_s (ck_S1 pm_s41_s ck_S0)) (ck_E1 (ck_S1 pm_s53_s ck_S0) (ck_E1 (ck_S1 pm_s5_s ck_S0) (ck_E1 (ck_S1 pm_s54_s (ck_S1 pm_s55_s (ck_S1 pm_s56_s (ck_S1 pm_s57_s (ck_S1 pm_s58_s (ck_S1 pm_s59_s ck_S0)))))) (ck_E1 (ck_S1 pm_s7_s ck_S0) (ck_E1 (ck_S1 pm_s72_s ck_S0) (ck_E1 (ck_S1 pm_s62_s ck_S0) (ck_E1 (ck_S1 pm_s71_s ck_S0) ck_E0))))))))⟩ (by decide +kernel)
set_option maxRecDepth 100000 in
/-- GlacierMail$LawReader.readCondition -/
noncomputable def pm_s74 : ck_Sum := ((22, 0, 0), 245, [.inr (.inr (.inl 215)), .inl (ck_one 0)], ([], [], [(216, 3, 3, (0, 400, [(13, 0)]))]), ([(215, 4, 4), (216, 3, 7), (219, 0, 399)], []), [(.inr (some (.inl (ck_one 0))), 245, ([], [], [(216, 5, 5, (0, 400, [])), (216, 3, 3, (0, 400, [(1000013, 0)]))])), (.inr (some (.inl (ck_one 1))), 245, ([], [], [(216, 3, 3, (0, 400, [(1000013, 0)]))]))])
set_option maxRecDepth 100000 in
theorem pm_s74_s {X : Int → Int} {LX : Nat} : ck_Ok p2_O X LX 96 pm_s74 := ck_okq (cuts := [(2, [some (.inr (.inr (.inl 215))), some (.inl (ck_one 0)), some (.inl (0, 400, [])), none], ([], [], [(216, 3, 3, (0, 400, [(1000013, 0)]))]), 100, .inl 2, true), (11, [some (.inr (.inr (.inl 215))), some (.inl (ck_one 0)), some (.inl (0, 399, [(100, 0)])), some (.inl (0, 400, []))], ([], [], [(216, 3, 3, (0, 400, [(1000013, 0)]))]), 300, .inl 3, true)]) (f := 296) ⟨p2_nmu, ck_E1 (ck_S1 pm_s7_s ck_S0) (ck_E1 (ck_S1 pm_s32_s (ck_S1 pm_s34_s ck_S0)) (ck_E1 (ck_S1 pm_s35_s (ck_S1 pm_s36_s ck_S0)) (ck_E1 (ck_S1 pm_s73_s ck_S0) ck_E0)))⟩ (by decide +kernel)
set_option maxRecDepth 100000 in
/-- GlacierMail$LawReader.readLine -/
noncomputable def pm_s75 : ck_Sum := ((23, 0, 0), 245, [.inr (.inr (.inl 215))], ([], [], [(216, 3, 3, (0, 400, [(13, 0)]))]), ([(215, 4, 4), (216, 3, 7), (217, 3, 3), (218, 0, 47), (219, 0, 399)], []), [(.inr (some (.inl (ck_one 0))), 245, ([], [], [(216, 5, 5, (0, 400, [])), (216, 3, 3, (0, 400, [(1000013, 0)]))])), (.inr (some (.inl (ck_one 1))), 245, ([], [], [(217, 3, 3, (1, 12, [])), (216, 3, 3, (4, 400, [(1000013, 0)]))]))])
set_option maxRecDepth 100000 in
theorem pm_s75_s {X : Int → Int} {LX : Nat} : ck_Ok p2_O X LX 79 pm_s75 := ck_okq (cuts := []) (f := 198) ⟨p2_nmu, ck_E1 (ck_S1 pm_s12_s ck_S0) (ck_E1 (ck_S1 pm_s7_s ck_S0) (ck_E1 (ck_S1 pm_s5_s ck_S0) (ck_E1 (ck_S1 pm_s13_s ck_S0) (ck_E1 (ck_S1 pm_s15_s ck_S0) (ck_E1 (ck_S1 pm_s16_s ck_S0) (ck_E1 (ck_S1 pm_s17_s (ck_S1 pm_s18_s (ck_S1 pm_s19_s (ck_S1 pm_s20_s (ck_S1 pm_s21_s (ck_S1 pm_s22_s (ck_S1 pm_s23_s (ck_S1 pm_s24_s (ck_S1 pm_s25_s (ck_S1 pm_s26_s (ck_S1 pm_s27_s (ck_S1 pm_s28_s (ck_S1 pm_s29_s (ck_S1 pm_s30_s ck_S0)))))))))))))) (ck_E1 (ck_S1 pm_s74_s ck_S0) ck_E0)))))))⟩ (by decide +kernel)
set_option maxRecDepth 100000 in
/-- GlacierMail$Words.needSign -/
noncomputable def pm_s76 : ck_Sum := ((2, 0, 0), 245, [.inr (.inr (.inl 216)), .inl (ck_one 59)], ([], [], [(216, 3, 3, (0, 400, [(13, 0)]))]), ([(216, 3, 7)], []), [(.inr (some (.inl (ck_one 1))), 245, ([], [], [(216, 3, 3, (0, 400, [(1000013, 0)]))])), (.inr (some (.inl (ck_one 0))), 245, ([], [], [(216, 5, 5, (0, 400, [])), (216, 3, 3, (0, 400, [(13, 0)]))]))])
set_option maxRecDepth 100000 in
theorem pm_s76_s {X : Int → Int} {LX : Nat} : ck_Ok p2_O X LX 98 pm_s76 := ck_okq (cuts := []) (f := 86) ⟨p2_nmu, ck_E1 (ck_S1 pm_s5_s ck_S0) (ck_E1 (ck_S1 pm_s7_s ck_S0) ck_E0)⟩ (by decide +kernel)
set_option maxRecDepth 100000 in
/-- GlacierMail$TextReader.readText -/
noncomputable def pm_s77 : ck_Sum := ((24, 0, 0), 245, [.inr (.inr (.inl 215)), .inl (0, 400, [])], ([], [], [(216, 3, 3, (0, 400, [(13, 0)]))]), ([(215, 4, 4), (216, 2, 7), (217, 3, 3), (218, 0, 47), (219, 0, 399)], []), [(.inr (some (.inl (ck_one (-1)))), 245, ([], [], [(216, 5, 5, ck_one (-1))])), (.inr (some (.inl (0, 400, []))), 245, ([], [], [(216, 5, 5, (0, 400, []))]))])
set_option maxRecDepth 100000 in
theorem pm_s77_s {X : Int → Int} {LX : Nat} : ck_Ok p2_O X LX 72 pm_s77 := ck_okq (cuts := [(29, [some (.inr (.inr (.inl 215))), some (.inl (0, 400, [])), some (.inl (0, 12, []))], ([], [], [(217, 3, 3, (0, 12, []))]), 100, .inl 2, true)]) (f := 174) ⟨p2_nmu, ck_E1 (ck_S1 pm_s2_s ck_S0) (ck_E1 (ck_S1 pm_s6_s ck_S0) (ck_E1 (ck_S1 pm_s7_s ck_S0) (ck_E1 (ck_S1 pm_s8_s ck_S0) (ck_E1 (ck_S1 pm_s75_s ck_S0) (ck_E1 (ck_S1 pm_s76_s ck_S0) ck_E0)))))⟩ (by decide +kernel)
set_option maxRecDepth 100000 in
/-- GlacierMail$Rows.<init> -/
noncomputable def pm_s79 : ck_Sum := ((1, 1, 48), 248, [.inr (.inr (.inl 248)), .inl (ck_one 12), .inl (ck_one 4)], ([(248, 6, 0)], [], []), ([(248, 0, 1), (248, 3, 3)], [(248, 2)]), [(.inr none, 249, ([(249, 0, 48)], [(248, 2, 249)], [(248, 1, 1, ck_one 4), (248, 0, 0, ck_one 12), (248, 3, 3, ck_one 0), (249, 0, 47, ck_one 0)]))])
set_option maxRecDepth 100000 in
theorem pm_s79_s {X : Int → Int} {LX : Nat} : ck_Ok p2_O X LX 2 pm_s79 := ck_okq (cuts := []) (f := 106) ⟨p2_nmu, ck_E0⟩ (by decide +kernel)
set_option maxRecDepth 100000 in
/-- GlacierMail$Rows.copyFrom -/
noncomputable def pm_s80 : ck_Sum := ((1, 0, 0), 249, [.inr (.inr (.inl 248)), .inr (.inr (.inl 217))], ([(248, 6, 0), (249, 0, 48)], [(248, 2, 249)], [(248, 0, 0, ck_one 12)]), ([(248, 3, 3), (249, 0, 47)], []), [(.inr none, 249, ([], [], [(248, 3, 3, (0, 12, []))]))])
set_option maxRecDepth 100000 in
theorem pm_s80_s {X : Int → Int} {LX : Nat} : ck_Ok p2_O X LX 58 pm_s80 := ck_okq (cuts := []) (f := 114) ⟨p2_nmu, ck_E0⟩ (by decide +kernel)
set_option maxRecDepth 100000 in
/-- GlacierMail$Law.<init> -/
noncomputable def lq_init : ck_Sum := ((2, 2, 52), 247, [.inr (.inr (.inl 246)), .inr (.inr (.inl 217)), .inr (.inr (.inl 247))], ([(246, 14, 0)], [], []), ([], [(246, 0), (246, 1)]), [(.inr none, 249, ([(248, 6, 0), (249, 0, 48)], [(246, 0, 248), (246, 1, 247), (248, 2, 249)], [(248, 3, 3, (0, 12, [])), (248, 1, 1, ck_one 4), (248, 0, 0, ck_one 12), (248, 2, 2, ck_one 0)]))])
set_option maxRecDepth 100000 in
theorem lq_init_s {X : Int → Int} {LX : Nat} : ck_Ok p2_O X LX 126 lq_init := ck_okq (cuts := []) (f := 104) ⟨p2_nmu, ck_E1 (ck_S1 pm_s79_s ck_S0) (ck_E1 (ck_S1 pm_s80_s ck_S0) ck_E0)⟩ (by decide +kernel)
set_option maxRecDepth 100000 in
/-- GlacierMail$Ice.reckonHeats -/
noncomputable def pm_s82 : ck_Sum := ((0, 0, 0), 249, [.inr (.inr (.inl 200))], ([], [], []), ([(201, 0, 299)], []), [(.inr none, 249, ([], [], []))])
set_option maxRecDepth 100000 in
theorem pm_s82_s {X : Int → Int} {LX : Nat} : ck_Ok p2_OL X LX 6 pm_s82 := ck_okq (cuts := [(10, [some (.inr (.inr (.inl 200))), some (.inl ((-2147483648), 2147483647, [])), some (.inl (0, 300, []))], ([], [], []), 100, .inl 2, true)]) (f := 182) ⟨pl_nmu, ck_E0⟩ (by decide +kernel)
set_option maxRecDepth 100000 in
/-- java/util/Arrays.fill -/
noncomputable def pm_s83 : ck_Sum := ((0, 0, 0), 249, [.inr (.inr (.inl 202)), .inl (ck_one 0)], ([], [], []), ([(202, 0, 593)], []), [(.inr none, 249, ([], [], []))])
set_option maxRecDepth 100000 in
theorem pm_s83_s {X : Int → Int} {LX : Nat} : ck_Ok p2_OL X LX 8 pm_s83 := ck_okq (cuts := [(5, [some (.inr (.inr (.inl 202))), some (.inl (ck_one 0)), some (.inl (0, 594, [])), some (.inl (ck_one 594))], ([], [], []), 100, .inl 2, true)]) (f := 130) ⟨pl_nmu, ck_E0⟩ (by decide +kernel)
set_option maxRecDepth 100000 in
/-- GlacierMail$Rows.size -/
noncomputable def pm_s84 : ck_Sum := ((0, 0, 0), 249, [.inr (.inr (.inl 4))], ([], [], []), ([], []), [(.inr (some (.inl (0, 8, []))), 249, ([], [], []))])
set_option maxRecDepth 100000 in
theorem pm_s84_s {X : Int → Int} {LX : Nat} : ck_Ok p2_OL X LX 9 pm_s84 := ck_okq (cuts := []) (f := 76) ⟨pl_nmu, ck_E0⟩ (by decide +kernel)
set_option maxRecDepth 100000 in
/-- GlacierMail$Rows.get -/
noncomputable def pm_s85 : ck_Sum := ((0, 0, 0), 249, [.inr (.inr (.inl 4)), .inl ((-2147483648), 2147483647, []), .inl ((-2147483648), 2147483647, [])], ([], [], []), ([], []), [(.inr (some (.inl (ck_one (-1)))), 249, ([], [], [])), (.inr (some (.inl (0, 98, []))), 249, ([], [], [(4, 3, 3, (1, 8, []))]))])
set_option maxRecDepth 100000 in
theorem pm_s85_s {X : Int → Int} {LX : Nat} : ck_Ok p2_OL X LX 10 pm_s85 := ck_okq (cuts := []) (f := 114) ⟨pl_nmu, ck_E0⟩ (by decide +kernel)
set_option maxRecDepth 100000 in
/-- GlacierMail$Ice.reckonSpeeds -/
noncomputable def pm_s86 : ck_Sum := ((1, 0, 0), 249, [.inr (.inr (.inl 200))], ([], [], []), ([(202, 0, 593)], []), [(.inr none, 249, ([], [], []))])
set_option maxRecDepth 100000 in
theorem pm_s86_s {X : Int → Int} {LX : Nat} : ck_Ok p2_OL X LX 7 pm_s86 := ck_okq (cuts := [(10, [some (.inr (.inr (.inl 200))), some (.inl (0, 9, [])), none, none, none, none], ([], [], []), 100, .inl 1, true), (43, [some (.inr (.inr (.inl 200))), some (.inl (0, 7, [(100, 0)])), some (.inl (0, 98, [])), some (.inl (0, 6, [])), none, none], ([], [], []), 300, .inl 3, true), (79, [some (.inr (.inr (.inl 200))), some (.inl (0, 7, [(100, 0)])), some (.inl (0, 98, [])), some (.inl (0, 5, [(300, 0)])), some (.inl ((-1), 98, [])), some (.inl (0, 99, []))], ([], [], []), 500, .inl 5, true)]) (f := 290) ⟨pl_nmu, ck_E1 (ck_S1 pm_s83_s ck_S0) (ck_E1 (ck_S1 pm_s84_s ck_S0) (ck_E1 (ck_S1 pm_s85_s ck_S0) ck_E0))⟩ (by decide +kernel)
set_option maxRecDepth 100000 in
/-- java/util/Arrays.fill -/
noncomputable def pm_s87 : ck_Sum := ((0, 0, 0), 249, [.inr (.inr (.inl 203)), .inl (ck_one 0)], ([], [], []), ([(203, 0, 299)], []), [(.inr none, 249, ([], [], []))])
set_option maxRecDepth 100000 in
theorem pm_s87_s {X : Int → Int} {LX : Nat} : ck_Ok p2_OL X LX 8 pm_s87 := ck_okq (cuts := [(5, [some (.inr (.inr (.inl 203))), some (.inl (ck_one 0)), some (.inl (0, 300, [])), some (.inl (ck_one 300))], ([], [], []), 100, .inl 2, true)]) (f := 130) ⟨pl_nmu, ck_E0⟩ (by decide +kernel)
set_option maxRecDepth 100000 in
/-- GlacierMail$Rows.size -/
noncomputable def pm_s88 : ck_Sum := ((0, 0, 0), 249, [.inr (.inr (.inl 6))], ([], [], []), ([], []), [(.inr (some (.inl (0, 8, []))), 249, ([], [], []))])
set_option maxRecDepth 100000 in
theorem pm_s88_s {X : Int → Int} {LX : Nat} : ck_Ok p2_OL X LX 9 pm_s88 := ck_okq (cuts := []) (f := 76) ⟨pl_nmu, ck_E0⟩ (by decide +kernel)
set_option maxRecDepth 100000 in
/-- GlacierMail$Rows.get -/
noncomputable def pm_s89 : ck_Sum := ((0, 0, 0), 249, [.inr (.inr (.inl 6)), .inl ((-2147483648), 2147483647, []), .inl ((-2147483648), 2147483647, [])], ([], [], []), ([], []), [(.inr (some (.inl (ck_one (-1)))), 249, ([], [], [])), (.inr (some (.inl (0, 299, []))), 249, ([], [], [(6, 3, 3, (1, 8, []))]))])
set_option maxRecDepth 100000 in
theorem pm_s89_s {X : Int → Int} {LX : Nat} : ck_Ok p2_OL X LX 10 pm_s89 := ck_okq (cuts := []) (f := 114) ⟨pl_nmu, ck_E0⟩ (by decide +kernel)
set_option maxRecDepth 100000 in
/-- GlacierMail$Ice.reckonFloods -/
noncomputable def pm_s90 : ck_Sum := ((1, 0, 0), 249, [.inr (.inr (.inl 200))], ([], [], []), ([(203, 0, 299)], []), [(.inr none, 249, ([], [], []))])
set_option maxRecDepth 100000 in
theorem pm_s90_s {X : Int → Int} {LX : Nat} : ck_Ok p2_OL X LX 12 pm_s90 := ck_okq (cuts := [(10, [some (.inr (.inr (.inl 200))), some (.inl (0, 9, [])), none], ([], [], []), 100, .inl 1, true)]) (f := 214) ⟨pl_nmu, ck_E1 (ck_S1 pm_s87_s ck_S0) (ck_E1 (ck_S1 pm_s88_s ck_S0) (ck_E1 (ck_S1 pm_s89_s ck_S0) ck_E0))⟩ (by decide +kernel)
end
/-! 75a01.lq -/
section
/-! THE CLASS'S law(): reading, and a new Law (laid by wip/am/p2m.py). -/
set_option maxRecDepth 100000 in
/-- GlacierMail$Ice.renew -/
noncomputable def pm_s91 : ck_Sum := ((2, 0, 0), 249, [.inr (.inr (.inl 200))], ([], [], []), ([(200, 6, 6), (201, 0, 299), (202, 0, 593), (203, 0, 299)], []), [(.inr none, 249, ([], [], [(200, 6, 6, ck_one 1)]))])
set_option maxRecDepth 100000 in
theorem pm_s91_s {X : Int → Int} {LX : Nat} : ck_Ok p2_OL X LX 5 pm_s91 := ck_okq (cuts := []) (f := 90) ⟨pl_nmu, ck_E1 (ck_S1 pm_s82_s ck_S0) (ck_E1 (ck_S1 pm_s86_s ck_S0) (ck_E1 (ck_S1 pm_s90_s ck_S0) ck_E0))⟩ (by decide +kernel)
set_option maxRecDepth 100000 in
/-- GlacierMail$History.forget -/
noncomputable def pm_s92 : ck_Sum := ((0, 0, 0), 249, [.inr (.inr (.inl 42))], ([], [], []), ([(42, 2, 2)], []), [(.inr none, 249, ([], [], [(42, 2, 2, ck_one 0)]))])
set_option maxRecDepth 100000 in
theorem pm_s92_s {X : Int → Int} {LX : Nat} : ck_Ok p2_OL X LX 62 pm_s92 := ck_okq (cuts := []) (f := 78) ⟨pl_nmu, ck_E0⟩ (by decide +kernel)
set_option maxRecDepth 100000 in
/-- GlacierMail.forgetWays -/
noncomputable def lq_fw : ck_Sum := ((3, 0, 0), 249, [.inr (.inr (.inl 1))], ([], [], []), ([(1, 15, 15), (42, 2, 2), (200, 6, 6), (201, 0, 299), (202, 0, 593), (203, 0, 299)], []), [(.inr none, 249, ([], [], [(1, 15, 15, ck_one 0), (42, 2, 2, ck_one 0), (200, 6, 6, ck_one 1)]))])
set_option maxRecDepth 100000 in
theorem lq_fw_s {X : Int → Int} {LX : Nat} : ck_Ok p2_OL X LX 61 lq_fw := ck_okq (cuts := []) (f := 90) ⟨pl_nmu, ck_E1 (ck_S1 pm_s91_s ck_S0) (ck_E1 (ck_S1 pm_s92_s ck_S0) ck_E0)⟩ (by decide +kernel)
set_option maxRecDepth 100000 in
/-- GlacierMail$Rows.size -/
noncomputable def pm_s94 : ck_Sum := ((0, 0, 0), 249, [.inr (.inr (.inl 248))], ([], [], []), ([], []), [(.inr (some (.inl (0, 12, []))), 249, ([], [], []))])
set_option maxRecDepth 100000 in
theorem pm_s94_s {X : Int → Int} {LX : Nat} : ck_Ok p2_OL X LX 9 pm_s94 := ck_okq (cuts := []) (f := 76) ⟨pl_nmu, ck_E0⟩ (by decide +kernel)
set_option maxRecDepth 100000 in
/-- GlacierMail.lawLines -/
noncomputable def lq_ll : ck_Sum := ((1, 0, 0), 249, [.inr (.inr (.inl 1))], ([], [(3, 8, 246)], []), ([], []), [(.inr (some (.inl (0, 12, []))), 249, ([], [], []))])
set_option maxRecDepth 100000 in
theorem lq_ll_s {X : Int → Int} {LX : Nat} : ck_Ok p2_OL X LX 64 lq_ll := ck_okq (cuts := []) (f := 90) ⟨pl_nmu, ck_E1 (ck_S1 pm_s94_s ck_S0) ck_E0⟩ (by decide +kernel)
end
/-! 75b.law -/
section
/-! THE REFERENCE'S law(), put together. -/
set_option maxRecDepth 100000 in
/-- GlacierMailModel.warms -/
noncomputable def pg_s95 : ck_Sum := ((0, 0, 0), 245, [.inr (.inr (.inl 226))], ([], [], []), ([(226, 26, 26), (234, 0, 299)], []), [(.inr none, 245, ([], [], [(226, 26, 26, ck_one (-1))]))])
set_option maxRecDepth 100000 in
theorem pg_s95_s {X : Int → Int} {LX : Nat} : ck_Ok pg_O X LX 235 pg_s95 := ck_okq (cuts := [(10, [some (.inr (.inr (.inl 226))), some (.inl ((-2147483648), 2147483647, [])), some (.inl (0, 300, []))], ([], [], []), 100, .inl 2, true)]) (f := 182) ⟨pg_nmu, ck_E0⟩ (by decide +kernel)
noncomputable def lw_us : ck_Sum := ((0, 0, 0), 245, [.inr (.inr (.inl 226))], ([], [], []), ([(226, 0, 0), (226, 8, 10)], []), [(.inr none, 245, ([], [], [(226, 9, 9, ck_one 0), (226, 8, 8, ck_one 0)]))])
theorem lw_us_e : ck_ok p2_O none [] [] 244 [] 60 lw_us = true := by decide +kernel
noncomputable def lw_E : List (Nat × List ck_Sum) := [(245, [pg_s1]), (247, [pg_s68, pg_s70, pg_s72, pg_s74, pg_s76, pg_s78, pg_s80, pg_s82, pg_s84, pg_s86, pg_s88, pg_s90, pg_s91]), (246, [pg_s92])]
noncomputable def lw_W9 : List (Nat × Int × Int) × List (Nat × Int) := ([(0, 0, 6), (226, 9, 9), (226, 11, 12), (226, 15, 15), (227, 1245, 2092)], [])
noncomputable def lw_f (v : Int) : ck_F := ([], [], (226, 8, 8, ck_one 0) :: (if v < 0 then [] else [(0, 2, 2, ck_one v)]))
noncomputable def lw_oc (v : Int) : ck_Oc := (.inr (some (.inl (ck_one v))), 245, lw_f v)
noncomputable def lw_l : List Int := [-1, 0, 1, 2, 3, 4, 5, 6, 7, 8, 9, 10, 11, 12]
noncomputable def lw_F9 : ck_F := ([], [], [(0, 0, 0, ck_one 0), (0, 2, 2, ck_one 0), (0, 3, 3, (0, 400, [])), (0, 4, 4, (-400, 0, [])), (0, 5, 5, ck_one 0), (0, 6, 6, ck_one 0), (226, 15, 15, ck_one 0), (226, 9, 9, ck_one 0), (226, 8, 8, ck_one 0)])
set_option maxRecDepth 100000 in
theorem lw_g9 : ck_go pg_O none [] lw_E 243 32 245 lw_W9 (lw_l.map lw_oc) [] 702 false [] 0 0 9 [some (.inr (.inr (.inl 226))), some (.inl (ck_one 0)), none] [] 245 lw_F9 = true := by decide +kernel
noncomputable def lw_W : List (Nat × Int × Int) × List (Nat × Int) := ([(0, 0, 6), (226, 0, 0), (226, 6, 6), (226, 8, 13), (226, 15, 15), (226, 26, 26), (227, 8, 8), (227, 395, 2092), (234, 0, 299)], [])
noncomputable def lw_o : List ck_Oc := [(.inr (some (.inl (0, 12, []))), 245, ([], [], [(226, 8, 8, ck_one 0)]))]
/-- GlacierMailModel.law -/
noncomputable def lw_S : ck_Sum := ((33, 0, 0), 245, [.inr (.inr (.inl 226))], ([], [], []), lw_W, lw_o)
noncomputable def lw_E3 : List (Nat × List ck_Sum) := [(282, [pg_s93, pg_s94]), (235, [pg_s95])]
noncomputable def lw_A (k : Int) : ck_AL := [some (.inr (.inr (.inl 226))), some (.inl (ck_one k)), some (.inl (ck_one 0))]
noncomputable def lw_B (k : Int) : ck_AL := [some (.inr (.inr (.inl 226))), some (.inl (ck_one k)), some (.inl (ck_one 849))]
noncomputable def lw_F (k : Int) : ck_F := ([], [], [(0, 2, 2, ck_one k), (227, 1244, 1244, ck_one k), (226, 8, 8, ck_one 0)])
noncomputable def lw_C (k : Int) : ck_C := (lw_A k, lw_F k, 0, .inl 2, true)
set_option maxRecDepth 100000 in
theorem lw_g5 : (List.range 13).all (fun (k : Nat) => ck_go pg_O none [] lw_E3 283 33 245 lw_W lw_o [(52, lw_C k)] 200 false [(52, lw_C k, 0, 0, 245)] 0 0 5 [some (.inr (.inr (.inl 226))), none, none] [(.inl (ck_one k), none)] 245 (lw_f k)) = true := by decide +kernel
set_option maxRecDepth 100000 in
theorem lw_gm : ck_go pg_O none [] lw_E3 283 33 245 lw_W lw_o [] 200 false [] 0 0 5 [some (.inr (.inr (.inl 226))), none, none] [(.inl (ck_one (-1)), none)] 245 (lw_f (-1)) = true := by decide +kernel
set_option maxRecDepth 100000 in
theorem lw_g85 : (List.range 13).all (fun (k : Nat) => ck_go pg_O none [] lw_E3 283 33 245 lw_W lw_o [] 200 false [] 0 0 85 (lw_B k) [] 245 ([], [], ck_cws [(227, 395, 1243)] (lw_F k).2.2)) = true := by decide +kernel
theorem lw_cu : (List.range 13).all (fun (k : Nat) => ck_cu [(52, lw_C k)]) = true := by decide +kernel
theorem lw_tc : cp_tc p2_O 227 227 395 1244 849 = true := by decide +kernel
section LW
variable {X : Int → Int} {LX : Nat}
theorem lw_us_s : ck_Ok p2_O X LX 244 lw_us := ck_ok_s ⟨p2_nmu, ck_E0⟩ ck_X0 ck_l0 lw_us_e
theorem lw_hE : ck_nmu pg_O ∧ ck_OkE pg_O X LX lw_E := ⟨pg_nmu, ck_E1 (ck_S1 pg_s1_s ck_S0) (ck_E1 (ck_S1 pg_s68_s (ck_S1 pg_s70_s (ck_S1 pg_s72_s (ck_S1 pg_s74_s (ck_S1 pg_s76_s (ck_S1 pg_s78_s (ck_S1 pg_s80_s (ck_S1 pg_s82_s (ck_S1 pg_s84_s (ck_S1 pg_s86_s (ck_S1 pg_s88_s (ck_S1 pg_s90_s (ck_S1 pg_s91_s ck_S0))))))))))))) (ck_E1 (ck_S1 pg_s92_s ck_S0) ck_E0))⟩
theorem lw_hE3 : ck_nmu pg_O ∧ ck_OkE pg_O X LX lw_E3 := ⟨pg_nmu, ck_E1 (ck_S1 pg_s93_s (ck_S1 pg_s94_s ck_S0)) (ck_E1 (ck_S1 pg_s95_s ck_S0) ck_E0)⟩
noncomputable def lw_M (M : gm_M) (b : Int) : gm_M := gm_uM (gm_uM (gm_uM (gm_uM (gm_uM (gm_uM (gm_uM (gm_uM M 226 15 0) 0 0 0) 0 1 0) 0 2 0) 0 3 b) 0 4 (0 - b)) 0 5 0) 0 6 0
theorem lw_Mx {M : gm_M} {b j : Int} {c : Nat} (h1 : ¬ c = 0) (h2 : ¬ (c = 226 ∧ j = 15)) : lw_M M b c j = M c j := by
  unfold lw_M
  rw [uM_ne (by omega), uM_ne (by omega), uM_ne (by omega), uM_ne (by omega), uM_ne (by omega), uM_ne (by omega), uM_ne (by omega), uM_ne (by omega)]
theorem lw_M0 {M : gm_M} {b : Int} : ((lw_M M b 0 0 = 0 ∧ lw_M M b 0 1 = 0) ∧ (lw_M M b 0 2 = 0 ∧ lw_M M b 0 3 = b)) ∧ (lw_M M b 0 4 = 0 - b ∧ lw_M M b 0 5 = 0) ∧ (lw_M M b 0 6 = 0 ∧ lw_M M b 226 15 = 0) := by
  refine ⟨⟨⟨?_, ?_⟩, ?_, ?_⟩, ⟨?_, ?_⟩, ?_, ?_⟩
  · unfold lw_M; rw [uM_ne (by omega), uM_ne (by omega), uM_ne (by omega), uM_ne (by omega), uM_ne (by omega), uM_ne (by omega), uM_at]
  · unfold lw_M; rw [uM_ne (by omega), uM_ne (by omega), uM_ne (by omega), uM_ne (by omega), uM_ne (by omega), uM_at]
  · unfold lw_M; rw [uM_ne (by omega), uM_ne (by omega), uM_ne (by omega), uM_ne (by omega), uM_at]
  · unfold lw_M; rw [uM_ne (by omega), uM_ne (by omega), uM_ne (by omega), uM_at]
  · unfold lw_M; rw [uM_ne (by omega), uM_ne (by omega), uM_at]
  · unfold lw_M; rw [uM_ne (by omega), uM_at]
  · unfold lw_M; rw [uM_at]
  · unfold lw_M; rw [uM_ne (by omega), uM_ne (by omega), uM_ne (by omega), uM_ne (by omega), uM_ne (by omega), uM_ne (by omega), uM_ne (by omega), uM_at]
/-- readAll of a law, from behind 'steps = 0' on: counted from here -/
theorem lw_9 {σ : Nat → Int} {K : gm_K} {R : gm_R} {M : gm_M} {L : gm_L} (hF : gm_Fx p2_O 245 K R M) (h9 : M 226 9 = 0) (h8 : M 226 8 = 0) (hL : L.length = 3) (l0 : L[0]? = some (some (gm_vr 226))) (l1 : L[1]? = some (some (gm_vi 0))) : gm_Wp X LX 32 0 0 243 9 L [] 245 K R (gm_uM M 226 15 0) (ck_Q pg_O σ lw_W9 245 K R (lw_M M (M 226 11)) (lw_l.map lw_oc)) := by
  have bb := ((gm_tyr_s hF (show gm_tyr p2_O 226 11 11 = some (0, 400) by decide +kernel)).2 11 (Int.le_refl _) (Int.le_refl _)).2
  have b1 : (0 : Int) ≤ M 226 11 := bb.1
  have b2 : M 226 11 ≤ (400 : Int) := bb.2
  clear bb
  generalize hb : M 226 11 = b at *
  obtain ⟨⟨⟨v0, v1⟩, v2, v3⟩, ⟨v4, v5⟩, v6, v15⟩ := lw_M0 (M := M) (b := b)
  have x9 : lw_M M b 226 9 = 0 := (lw_Mx (by decide) (by omega)).trans h9
  have x8 : lw_M M b 226 8 = 0 := (lw_Mx (by decide) (by omega)).trans h8
  have x11 : lw_M M b 226 11 = b := (lw_Mx (by decide) (by omega)).trans hb
  refine gm_Wp_g (M' := lw_M M b) (fun c i hc => by unfold lw_M; rw [uM_ne (by omega), uM_ne (by omega), uM_ne (by omega), uM_ne (by omega), uM_ne (by omega), uM_ne (by omega), uM_ne (by omega)]) ?_
  have hF2 : gm_Fx p2_O 245 K R (lw_M M b) := by
    refine ⟨hF.1, hF.2.1, ?_, hF.2.2.2.1, j_J_w (K := K) (fun k j k1 _ => lw_Mx (by omega) (by omega)) hF.2.2.2.2⟩
    exact gm_Ft_M (gm_Ft_M (gm_Ft_M (gm_Ft_M (gm_Ft_M (gm_Ft_M (gm_Ft_M (gm_Ft_M (O := p2_O) hF.2.2.1 (show gm_tyv p2_O 226 15 15 0 0 = true by decide +kernel) (Int.le_refl _) (Int.le_refl _)) pg_t0 (Int.le_refl _) (Int.le_refl _)) pg_t0 (Int.le_refl _) (Int.le_refl _)) pg_t0 (Int.le_refl _) (Int.le_refl _)) pg_t0 (Int.le_refl _) (Int.le_refl _)) pg_t0 (Int.le_refl _) (Int.le_refl _)) pg_t0 (Int.le_refl _) (Int.le_refl _)) pg_t0 (Int.le_refl _) (Int.le_refl _)
  have hX : jX (lw_M M b) := by
    unfold jX
    rw [v0, v1, v2, v3, v4, v5, v6, v15, x9, x11]
    exact ⟨⟨⟨rfl, by omega, by omega⟩, ⟨by decide, by decide, by decide⟩, fun h => absurd h (by decide)⟩, jD_0, jL_0⟩
  refine ck_go_s (σ0 := σ) (cuts := []) (by decide) lw_hE ck_X0 ck_l0 702 false [] 0 0 9 [some (.inr (.inr (.inl 226))), some (.inl (ck_one 0)), none] [] 245 lw_F9 σ L [] K R (lw_M M b) (fun _ _ => rfl) (fun _ h => nomatch h) ⟨p2_pg hF2 hX, ⟨by rw [hL]; rfl, fun j c hc => ?_⟩, rfl, ⟨(fun _ h => nomatch h), (fun _ h => nomatch h), fun q hq => ?_⟩, ck_fr_0⟩ lw_g9
  · rcases j with _ | _ | _ | j
    · cases hc; exact ⟨_, l0, rfl⟩
    · cases hc; exact ⟨_, l1, 0, rfl, ⟨by decide, by decide⟩, ck_one_s 0⟩
    · cases hc
    · cases hc
  · have z : ∀ {k : Nat} {j : Int}, k ≤ 245 → lw_M M b k j = 0 → ((k, j, j, ck_one 0) : Nat × Int × Int × ck_I).1 ≤ 245 ∧ ∀ i, ((k, j, j, ck_one 0) : Nat × Int × Int × ck_I).2.1 ≤ i → i ≤ ((k, j, j, ck_one 0) : Nat × Int × Int × ck_I).2.2.1 → gm_ir (lw_M M b ((k, j, j, ck_one 0) : Nat × Int × Int × ck_I).1 i) ∧ ck_gi σ ((k, j, j, ck_one 0) : Nat × Int × Int × ck_I).2.2.2 (lw_M M b ((k, j, j, ck_one 0) : Nat × Int × Int × ck_I).1 i) := fun hk h => ck_f1 hk (by rw [h]; exact ⟨by decide, by decide⟩) (by rw [h]; exact ck_one_s 0)
    have hq : q ∈ lw_F9.2.2 := hq
    unfold lw_F9 at hq
    rcases List.mem_cons.mp hq with rfl | hq
    · exact z (by decide) v0
    rcases List.mem_cons.mp hq with rfl | hq
    · exact z (by decide) v2
    rcases List.mem_cons.mp hq with rfl | hq
    · exact ck_f1 (by decide) (by rw [v3]; exact ⟨by omega, by omega⟩) (by rw [v3]; exact ⟨b1, b2, fun _ h => nomatch h⟩)
    rcases List.mem_cons.mp hq with rfl | hq
    · exact ck_f1 (by decide) (by rw [v4]; exact ⟨by omega, by omega⟩) (by rw [v4]; exact ⟨by show (-400 : Int) ≤ 0 - b; omega, by show 0 - b ≤ (0 : Int); omega, fun _ h => nomatch h⟩)
    rcases List.mem_cons.mp hq with rfl | hq
    · exact z (by decide) v5
    rcases List.mem_cons.mp hq with rfl | hq
    · exact z (by decide) v6
    rcases List.mem_cons.mp hq with rfl | hq
    · exact z (by decide) v15
    rcases List.mem_cons.mp hq with rfl | hq
    · exact z (by decide) x9
    rw [List.mem_singleton.mp hq]
    exact z (by decide) x8
/-- the copy -/
theorem lw_52 {σ σ0 : Nat → Int} {K0 : gm_K} {R0 : gm_R} {M0 : gm_M} {k : Nat} (hk : k < 13) (hσ : ∀ s, s < 100 → σ s = σ0 s) : ck_Hy pg_O X LX 283 33 lw_W 245 K0 R0 M0 (ck_Q pg_O σ0 lw_W 245 K0 R0 M0 lw_o) σ (52, lw_C k, 0, 0, 245) := by
  refine ck_cpH (v := 2) (A := 227) (B := 227) (N := 849) (wa := 395) (wb := 1243) (pc' := 85) (f := 200) (cuts := []) (ch := []) (by decide) lw_hE3 hσ ⟨by decide, by decide⟩ (by decide +kernel) (fun bc bs L K R M hS => ?_) (List.all_eq_true.mp lw_g85 k (List.mem_range.mpr hk)) (fun _ h => nomatch h)
  obtain ⟨hF, hl, -, hf, -⟩ := hS
  have hF : gm_Fx pg_O 245 K R M := hF
  have hP := pg_p2 hF
  have hl : ck_gl σ (lw_A k) L := hl
  have hf : ck_gf σ (lw_F k) 245 K R M := hf
  obtain ⟨u0, l0, g0⟩ := hl.2 0 (.inr (.inr (.inl 226))) rfl
  cases g0
  obtain ⟨u1, l1, y1, rfl, -⟩ := hl.2 1 (.inl (ck_one k)) rfl
  obtain ⟨u2, lv, x1, rfl, -, e1, e2, -⟩ := hl.2 2 (.inl (ck_one 0)) rfl
  have e1 : (0 : Int) ≤ x1 := e1
  have e2 : x1 ≤ (0 : Int) := e2
  have e3 : x1 = 0 := by omega
  subst e3
  have q2 := ((hf.2.2 (0, 2, 2, ck_one k) List.mem_cons_self).2 2 (Int.le_refl _) (Int.le_refl _)).2
  have q21 : (k : Int) ≤ M 0 2 := q2.1
  have q22 : M 0 2 ≤ (k : Int) := q2.2.1
  have q4 := ((hf.2.2 (227, 1244, 1244, ck_one k) (List.mem_cons_of_mem _ List.mem_cons_self)).2 1244 (Int.le_refl _) (Int.le_refl _)).2
  have q41 : (k : Int) ≤ M 227 1244 := q4.1
  have q42 : M 227 1244 ≤ (k : Int) := q4.2.1
  have kA := (md_kd hP md_o.1.2).2
  obtain ⟨hJ, hX⟩ := hF.2.2.2.2
  obtain ⟨-, ⟨b1, b2, b3⟩, -⟩ := hX.1
  have hT : jT (fun j => M 227 (1244 + j)) := jT_of (c := M 0 2) (e := M 0 1) (by omega) (by show M 227 (1244 + 0) ≤ M 0 2; rw [Int.add_zero]; omega) hX.2.2
  have hgx : ∀ j, ¬ (395 ≤ j ∧ j < 395 + 849) → gm_cpy M 227 227 395 1244 849 227 j = M 227 j := fun j hj => gm_cpy_out hj
  have hJ2 : j_J p2_ty K (gm_cpy M 227 227 395 1244 849) := by
    unfold j_J at hJ ⊢
    rw [gm_cpy_f (by decide : ¬ 228 = 227), gm_cpy_f (by decide : ¬ 229 = 227), gm_cpy_f (by decide : ¬ 230 = 227)]
    refine j_law hJ (fun j h1 h2 => hgx j (by omega)) (jT_cg (fun j h1 h2 => ?_) hT)
    show gm_cpy M 227 227 395 1244 849 227 (395 + j) = M 227 (1244 + j)
    exact gm_cpy_at ⟨by omega, by omega⟩ (by omega)
  refine ⟨395, 1244, ⟨by decide, by decide⟩, p2_pg (gm_Fx_cpy hP (cp_tc_s hP lw_tc) hJ2) (jX_cg (fun c r hr j j1 j2 => ?_) hX), fun Q hx => ?_⟩
  · by_cases e : c = 227
    · subst e
      have := of_decide_eq_true (List.all_eq_true.mp (show (jg_e 227).all (fun r => decide (1247 ≤ r.1)) = true by decide +kernel) r hr)
      exact hgx j (by omega)
    · exact gm_cpy_ne e
  · exact cp_lp (iv := .iload_n 2) (v := 2) (ixA := 13) (ixB := 13) (jA := 1) (jB := 1) (A := 227) (B := 227) (mo := 226) (p := 52) (qA := 68) (qB := 77) (N := 849) (a := 395) (b := 1244) (offe := 29) (offb := (-30)) (by decide) (md_mo hP) (md_kd hP md_o.1.2).1 (md_kd hP md_o.1.2).1 (md_rf hP md_r.1.1) (md_rf hP md_r.1.1) (by decide +kernel) (by decide +kernel) (by decide +kernel) (by decide +kernel) ⟨by omega, ⟨by omega, by omega⟩, ⟨by omega, by omega⟩, by omega, by omega⟩ (fun _ => by decide) (by decide) (by decide +kernel) l0 lv ⟨rfl, rfl⟩ ⟨gm_vi y1, l1, by simp [gm_sort]⟩ (by decide +kernel) (by decide +kernel) (by decide +kernel) (by decide) (by decide +kernel) (by decide +kernel) (cp_sg_ci (iv := .iload_n 2) (c := 395) lv ⟨rfl, rfl⟩ (by decide +kernel) (by decide +kernel) (by decide +kernel) (by decide +kernel)) (by decide +kernel) (by decide +kernel) (cp_sg_ci (iv := .iload_n 2) (c := 1244) lv ⟨rfl, rfl⟩ (by decide +kernel) (by decide +kernel) (by decide +kernel) (by decide +kernel)) (by decide +kernel) (by decide +kernel) (by decide +kernel) (by decide +kernel) (by decide) (by decide) hx
theorem lw_fr {V W : List (Nat × Int × Int) × List (Nat × Int)} {K0 K : gm_K} {R0 R : gm_R} {M0 M : gm_M} (h : ck_fr V 245 K0 R0 M0 245 K R M) (hw : V.1.all (fun w => ck_okW W.1 245 w.1 w.2.1 w.2.2) = true) (hr : V.2.all (fun w => ck_okR W.2 245 w.1 w.2) = true) : ck_fr W 245 K0 R0 M0 245 K R M := ck_fr_tr ck_fr_0 h hw hr
theorem lw_S_s : ck_Ok p2_O X LX 283 lw_S := by
  intro d σ vs n K R M hd hn hvs hnm hF hf
  obtain ⟨_, _, rfl, rfl, rfl⟩ := hvs
  have hn : n = 245 := hn
  subst hn
  refine gm_Wp_wk (d' := 33) (bc' := 0) (bs' := 0) hd (Nat.le_refl _) (Nat.le_refl _) ?_
  refine gm_sz (gm_p_load (pc := 0) (i := .aload_n 0) (sr := 2) (j := 0) (by decide +kernel) rfl rfl rfl) ?_
  refine gm_sz (gm_p_const (pc := 1) (i := .iconst 0) (v := gm_vi 0) (by decide +kernel) (by decide +kernel)) ?_
  refine gm_c_virt (k := 226) (ci := 11) (mj := 243) (ix := 296) (pc := 2) (as := [gm_vi 0]) (st := []) (d' := 32) (bc' := 0) (bs' := 0) (by decide +kernel) (by decide +kernel) (by decide +kernel) (by decide +kernel) (md_mo hF).1 (md_mo hF).2 (by decide) (by decide +kernel) (show 1 = gm_na 243 by decide +kernel) (fun v hv => by rw [List.mem_singleton.mp hv]; simp [gm_sort]) (show 1 + 1 ≤ gm_ml 243 by decide +kernel) (Nat.le_of_ble_eq_true rfl) (by decide) (Nat.zero_le _) (Nat.zero_le _) ?_
  refine gm_sz (gm_p_load (pc := 0) (i := .aload_n 0) (sr := 2) (j := 0) (by decide +kernel) rfl rfl rfl) ?_
  refine gm_c_virt (k := 226) (ci := 11) (mj := 244) (ix := 289) (pc := 1) (as := []) (st := []) (d' := 0) (bc' := 0) (bs' := 0) (by decide +kernel) (by decide +kernel) (by decide +kernel) (by decide +kernel) (md_mo hF).1 (md_mo hF).2 (by decide) (by decide +kernel) (show 0 = gm_na 244 by decide +kernel) (fun v hv => nomatch hv) (show 0 + 1 ≤ gm_ml 244 by decide +kernel) (Nat.le_of_ble_eq_true rfl) (by decide) (Nat.zero_le _) (Nat.zero_le _) ?_
  refine gm_Wp_mono (fun o n K1 R1 M1 h => ?_) (lw_us_s 0 (ck_sn p2_O (fun _ => 0) M) [gm_vr 226] 245 K R M (Nat.le_refl _) rfl ⟨_, _, rfl, rfl, rfl⟩ (ck_sn_s p2_nmu) hF ⟨(fun _ h => nomatch h), (fun _ h => nomatch h), (fun _ h => nomatch h)⟩)
  obtain ⟨f1, f2, oc, f3, f4, f5, f6⟩ := h
  rw [List.mem_singleton.mp f3] at f4 f5 f6
  have f5 : n = 245 := f5
  subst f5
  have r9 := ((f6.2.2 (226, 9, 9, ck_one 0) List.mem_cons_self).2 9 (Int.le_refl _) (Int.le_refl _)).2
  have r91 : (0 : Int) ≤ M1 226 9 := r9.1
  have r92 : M1 226 9 ≤ (0 : Int) := r9.2.1
  have r8 := ((f6.2.2 (226, 8, 8, ck_one 0) (List.mem_cons_of_mem _ List.mem_cons_self)).2 8 (Int.le_refl _) (Int.le_refl _)).2
  have r81 : (0 : Int) ≤ M1 226 8 := r8.1
  have r82 : M1 226 8 ≤ (0 : Int) := r8.2.1
  have fr1 : ck_fr lw_W 245 K R M 245 K1 R1 M1 := lw_fr f2 (by decide) (by decide)
  rcases o with (_ | v) | x
  case inl.some => exact absurd f4 id
  case inr => exact absurd f4 id
  show gm_Wp X LX 32 0 0 243 4 (gm_ent 243 [gm_vr 226, gm_vi 0]) [] 245 K1 R1 M1 _
  refine gm_sz (gm_p_load (pc := 4) (i := .aload_n 0) (sr := 2) (j := 0) (by decide +kernel) rfl rfl rfl) ?_
  refine gm_sz (gm_p_const (pc := 5) (i := .iconst 0) (v := gm_vi 0) (by decide +kernel) (by decide +kernel)) ?_
  refine gm_sz (gm_p_puti (pc := 6) (ix := 224) (ci := 11) (j := 15) (by decide +kernel) (md_mo f1).1 (md_mo f1).2 (by decide +kernel) (by decide +kernel) (Or.inl (by decide +kernel))) ?_
  refine gm_Wp_mono (fun o n K2 R2 M2 h => ?_) (lw_9 (σ := σ) f1 (by omega) (by omega) rfl rfl rfl)
  obtain ⟨g1, g2, oc, g3, g4, g5, g6⟩ := h
  obtain ⟨v, hv, rfl⟩ := List.mem_map.mp g3
  have g5 : n = 245 := g5
  subst g5
  have fr2 : ck_fr lw_W 245 K R M 245 K1 R1 (lw_M M1 (M1 226 11)) := by
    have w : ∀ j, 0 ≤ j → j ≤ 6 → ck_okW lw_W.1 245 0 0 6 = true := fun _ _ _ => by decide
    exact ck_fr_M (lo := 0) (hi := 6) (ck_fr_M (lo := 0) (hi := 6) (ck_fr_M (lo := 0) (hi := 6) (ck_fr_M (lo := 0) (hi := 6) (ck_fr_M (lo := 0) (hi := 6) (ck_fr_M (lo := 0) (hi := 6) (ck_fr_M (lo := 0) (hi := 6) (ck_fr_M (lo := 15) (hi := 15) fr1 (by decide) (by decide) (by decide)) (by decide) (by decide) (by decide)) (by decide) (by decide) (by decide)) (by decide) (by decide) (by decide)) (by decide) (by decide) (by decide)) (by decide) (by decide) (by decide)) (by decide) (by decide) (by decide)) (by decide) (by decide) (by decide)
  have fr3 : ck_fr lw_W 245 K R M 245 K2 R2 M2 := ck_fr_tr fr2 g2 (by decide) (by decide)
  rcases o with (_ | u) | x
  case inl.none => exact absurd g4 id
  case inr => exact absurd g4 id
  obtain ⟨x, rfl, gx, gi⟩ := g4
  have hv2 : v = -1 ∨ ∃ k : Nat, k < 13 ∧ v = (k : Int) := by
    have := List.all_eq_true.mp (show lw_l.all (fun v => decide (v = -1 ∨ (0 ≤ v ∧ v < 13))) = true by decide) v hv
    rcases of_decide_eq_true this with h | h
    · exact Or.inl h
    · exact Or.inr ⟨v.toNat, by omega, by omega⟩
  refine gm_Wp_mono (Q := ck_Q pg_O σ lw_W 245 K R M lw_o) (fun o n K R M h => ⟨pg_p2 h.1, h.2⟩) ?_
  show gm_Wp X LX 33 0 0 283 5 (gm_ent 283 [gm_vr 226]) [gm_vi x] 245 K2 R2 M2 _
  have hst : ck_St pg_O σ lw_W 245 K R M [some (.inr (.inr (.inl 226))), none, none] [(.inl (ck_one v), none)] (lw_f v) (gm_ent 283 [gm_vr 226]) [gm_vi x] 245 K2 R2 M2 := by
    refine ⟨g1, ⟨rfl, fun j c hc => ?_⟩, ⟨_, _, rfl, ⟨⟨x, rfl, gx, gi⟩, trivial⟩, rfl⟩, g6, fr3⟩
    rcases j with _ | _ | _ | j
    · cases hc; exact ⟨_, rfl, rfl⟩
    · cases hc
    · cases hc
    · cases hc
  rcases hv2 with rfl | ⟨k, hk, rfl⟩
  · exact ck_go_s (σ0 := σ) (cuts := []) (by decide) lw_hE3 ck_X0 ck_l0 200 false [] 0 0 5 _ _ 245 _ σ _ _ K2 R2 M2 (fun _ _ => rfl) (fun _ h => nomatch h) hst lw_gm
  · refine ck_go_s (σ0 := σ) (cuts := [(52, lw_C k)]) (List.all_eq_true.mp lw_cu k (List.mem_range.mpr hk)) lw_hE3 ck_X0 ck_l0 200 false [(52, lw_C k, 0, 0, 245)] 0 0 5 _ _ 245 _ σ _ _ K2 R2 M2 (fun _ _ => rfl) (fun z hz => ?_) hst (List.all_eq_true.mp lw_g5 k (List.mem_range.mpr hk))
    rw [List.mem_singleton.mp hz]
    exact ⟨List.mem_cons_self, lw_52 hk (fun _ _ => rfl)⟩
end LW
end
/-! 76a.sub -/
section
/-! A CALL IN A PART OF THE WORLD: the callee sees some of the cells, under numbers of its own; the others stay. -/
/-- cells 1 to n1 of the one are cells of the other, under the numbers ρ -/
noncomputable def gm_sbw (ti : Nat → ClassId) (ρ : Nat → Nat) (n1 : Nat) (α1 : Nat → Nat) (K1 : gm_K) (R1 : gm_R) (M1 : gm_M) (n : Nat) (α : Nat → Nat) (K : gm_K) (R : gm_R) (M : gm_M) : Prop :=
  ∀ i, 1 ≤ i → i ≤ n1 → (1 ≤ ρ i ∧ ρ i ≤ n) ∧ α1 i = α (ρ i) ∧ gm_en ti α1 K1 R1 M1 i = gm_en ti α K R M (ρ i)
/-- behind it: the callee's cells, the others, the new ones -/
noncomputable def gm_bgw (ti : Nat → ClassId) (ρ : Nat → Nat) (n1 n1' : Nat) (α1 : Nat → Nat) (K1 : gm_K) (R1 : gm_R) (M1 : gm_M) (n n' : Nat) (α : Nat → Nat) (K : gm_K) (R : gm_R) (M : gm_M) (α' : Nat → Nat) (K' : gm_K) (R' : gm_R) (M' : gm_M) : Prop :=
  (n1 ≤ n1' ∧ n' = n + (n1' - n1)) ∧ (∀ i, 1 ≤ i → i ≤ n1 → α' (ρ i) = α1 i ∧ gm_en ti α' K' R' M' (ρ i) = gm_en ti α1 K1 R1 M1 i) ∧ (∀ k, 1 ≤ k → k ≤ n → (∀ i, 1 ≤ i → i ≤ n1 → ¬ ρ i = k) → α' k = α k ∧ gm_en ti α' K' R' M' k = gm_en ti α K R M k) ∧ ∀ t, 1 ≤ t → t ≤ n1' - n1 → α' (n + t) = α1 (n1 + t) ∧ gm_en ti α' K' R' M' (n + t) = gm_en ti α1 K1 R1 M1 (n1 + t)
theorem gm_wl_get {ti : Nat → ClassId} {α : Nat → Nat} {n : Nat} {K : gm_K} {R : gm_R} {M : gm_M} {i : Nat} {q : Nat × va_E} (h : (gm_wl ti α n K R M)[i]? = some q) : i < n ∧ q = (α (i + 1), gm_en ti α K R M (i + 1)) := by
  have hl := (List.getElem?_eq_some_iff.mp h).1
  rw [gm_wl_len] at hl
  have := gm_wl_at (ti := ti) (α := α) (n := n) (K := K) (R := R) (M := M) (k := i + 1) (by omega) (by omega)
  rw [Nat.add_sub_cancel, h] at this
  cases this
  exact ⟨hl, rfl⟩
theorem gm_sbw_P {D : va_G} {ti : Nat → ClassId} {ρ : Nat → Nat} {n1 n : Nat} {α1 α : Nat → Nat} {K1 K : gm_K} {R1 R : gm_R} {M1 M : gm_M} {H : Heap} (hs : gm_sbw ti ρ n1 α1 K1 R1 M1 n α K R M) (hP : va_P D gm_cs (gm_wl ti α n K R M) H) : va_P D gm_cs (gm_wl ti α1 n1 K1 R1 M1) H := by
  intro k q hq
  obtain ⟨h1, rfl⟩ := gm_wl_get hq
  obtain ⟨h2, h3, h4⟩ := hs (k + 1) (by omega) (by omega)
  rw [h3, h4]
  exact hP (ρ (k + 1) - 1) _ (gm_wl_at h2.1 h2.2)
theorem gm_sbw_D {A : Nat → Prop} {ti : Nat → ClassId} {ρ : Nat → Nat} {n1 n : Nat} {α1 α : Nat → Nat} {K1 K : gm_K} {R1 R : gm_R} {M1 M : gm_M} (hs : gm_sbw ti ρ n1 α1 K1 R1 M1 n α K R M) (hi : ∀ i j, 1 ≤ i → i ≤ n1 → 1 ≤ j → j ≤ n1 → ρ i = ρ j → i = j) (hD : va_D A (gm_wl ti α n K R M)) : va_D A (gm_wl ti α1 n1 K1 R1 M1) := by
  refine ⟨fun i j p q hp hq e => ?_, fun k q hq => ?_⟩
  · obtain ⟨i1, rfl⟩ := gm_wl_get hp
    obtain ⟨j1, rfl⟩ := gm_wl_get hq
    obtain ⟨a2, a3, -⟩ := hs (i + 1) (by omega) (by omega)
    obtain ⟨b2, b3, -⟩ := hs (j + 1) (by omega) (by omega)
    have e : α1 (i + 1) = α1 (j + 1) := e
    rw [a3, b3] at e
    have := hD.1 (ρ (i + 1) - 1) (ρ (j + 1) - 1) _ _ (gm_wl_at a2.1 a2.2) (gm_wl_at b2.1 b2.2) e
    have := hi (i + 1) (j + 1) (by omega) (by omega) (by omega) (by omega) (by omega)
    omega
  · obtain ⟨h1, rfl⟩ := gm_wl_get hq
    obtain ⟨h2, h3, -⟩ := hs (k + 1) (by omega) (by omega)
    show A (α1 (k + 1))
    rw [h3]
    exact hD.2 (ρ (k + 1) - 1) _ (gm_wl_at h2.1 h2.2)
/-- a big cell is one of the callee's, another, or new -/
theorem gm_bgw_at {ti : Nat → ClassId} {ρ : Nat → Nat} {n1 n1' n n' : Nat} {α1 α α' : Nat → Nat} {K1 K K' : gm_K} {R1 R R' : gm_R} {M1 M M' : gm_M} (hb : gm_bgw ti ρ n1 n1' α1 K1 R1 M1 n n' α K R M α' K' R' M') {k : Nat} (h1 : 1 ≤ k) (h2 : k ≤ n') : (∃ i, (1 ≤ i ∧ i ≤ n1') ∧ (α' k = α1 i ∧ gm_en ti α' K' R' M' k = gm_en ti α1 K1 R1 M1 i) ∧ ((i ≤ n1 ∧ ρ i = k) ∨ (n1 < i ∧ k = n + (i - n1)))) ∨ ((k ≤ n ∧ ∀ i, 1 ≤ i → i ≤ n1 → ¬ ρ i = k) ∧ α' k = α k ∧ gm_en ti α' K' R' M' k = gm_en ti α K R M k) := by
  obtain ⟨⟨e1, e2⟩, b1, b2, b3⟩ := hb
  by_cases hk : k ≤ n
  · by_cases hi : ∃ i, (1 ≤ i ∧ i ≤ n1) ∧ ρ i = k
    · obtain ⟨i, ⟨i1, i2⟩, rfl⟩ := hi
      exact Or.inl ⟨i, ⟨i1, by omega⟩, b1 i i1 i2, Or.inl ⟨i2, rfl⟩⟩
    · have hi2 : ∀ i, 1 ≤ i → i ≤ n1 → ¬ ρ i = k := fun i i1 i2 e => hi ⟨i, ⟨i1, i2⟩, e⟩
      exact Or.inr ⟨⟨hk, hi2⟩, b2 k h1 hk hi2⟩
  · have := b3 (k - n) (by omega) (by omega)
    rw [show n + (k - n) = k by omega] at this
    exact Or.inl ⟨n1 + (k - n), ⟨by omega, by omega⟩, this, Or.inr ⟨by omega, by omega⟩⟩
theorem gm_bgw_PD {D : va_G} {A0 : Nat → Prop} {ti : Nat → ClassId} {ρ : Nat → Nat} {n1 n1' n n' : Nat} {α0 α1 α α' : Nat → Nat} {K0 K1 K K' : gm_K} {R0 R1 R R' : gm_R} {M0 M1 M M' : gm_M} {H H1 : Heap} (hs : gm_sbw ti ρ n1 α0 K0 R0 M0 n α K R M) (hb : gm_bgw ti ρ n1 n1' α1 K1 R1 M1 n n' α K R M α' K' R' M') (hP : va_P D gm_cs (gm_wl ti α n K R M) H) (hD : va_D A0 (gm_wl ti α n K R M))
    (hk : ∀ q : Nat, q < H.size → ¬ va_A (gm_wl ti α0 n1 K0 R0 M0) H.size q → H1[q]? = H[q]?) (hF : ∀ q, va_A (gm_wl ti α0 n1 K0 R0 M0) H.size q → A0 q) (hP1 : va_P D gm_cs (gm_wl ti α1 n1' K1 R1 M1) H1) (hD1 : va_D (va_A (gm_wl ti α0 n1 K0 R0 M0) H.size) (gm_wl ti α1 n1' K1 R1 M1)) : va_P D gm_cs (gm_wl ti α' n' K' R' M') H1 ∧ va_D A0 (gm_wl ti α' n' K' R' M') := by
  have apart : ∀ k, 1 ≤ k → k ≤ n → (∀ i, 1 ≤ i → i ≤ n1 → ¬ ρ i = k) → α k < H.size ∧ ¬ va_A (gm_wl ti α0 n1 K0 R0 M0) H.size (α k) := by
    intro k k1 k2 hi
    have hat := gm_wl_at (ti := ti) (α := α) (n := n) (K := K) (R := R) (M := M) k1 k2
    have hl := (hP (k - 1) _ hat).lt
    refine ⟨hl, fun h => ?_⟩
    rcases h with ⟨j, e, h⟩ | h
    · obtain ⟨j1, j2⟩ := gm_wl_get h
      have j3 : α k = α0 (j + 1) := congrArg Prod.fst j2
      obtain ⟨a1, a2, -⟩ := hs (j + 1) (by omega) (by omega)
      rw [a2] at j3
      have := hD.1 (k - 1) (ρ (j + 1) - 1) _ _ hat (gm_wl_at a1.1 a1.2) j3
      exact hi (j + 1) (by omega) (by omega) (by omega)
    · exact absurd hl (Nat.not_lt.mpr h)
  refine ⟨fun k q hq => ?_, fun x y p q hp hq e => ?_, fun k q hq => ?_⟩
  · obtain ⟨h1, rfl⟩ := gm_wl_get hq
    rcases gm_bgw_at hb (k := k + 1) (by omega) (by omega) with ⟨i, i1, ⟨i2, i3⟩, -⟩ | ⟨⟨k1, k2⟩, k3, k4⟩
    · rw [i2, i3]
      exact hP1 (i - 1) _ (gm_wl_at i1.1 i1.2)
    · rw [k3, k4]
      obtain ⟨g1, g2⟩ := apart (k + 1) (by omega) k1 k2
      have hat := gm_wl_at (ti := ti) (α := α) (n := n) (K := K) (R := R) (M := M) (k := k + 1) (by omega) k1
      exact (hP _ _ hat).kept (hk _ g1 g2)
  · obtain ⟨x1, rfl⟩ := gm_wl_get hp
    obtain ⟨y1, rfl⟩ := gm_wl_get hq
    have e : α' (x + 1) = α' (y + 1) := e
    rcases gm_bgw_at hb (k := x + 1) (by omega) (by omega) with ⟨i, i1, ⟨i2, -⟩, i4⟩ | ⟨⟨k1, k2⟩, k3, -⟩
    · rcases gm_bgw_at hb (k := y + 1) (by omega) (by omega) with ⟨j, j1, ⟨j2, -⟩, j4⟩ | ⟨⟨l1, l2⟩, l3, -⟩
      · rw [i2, j2] at e
        have := hD1.1 (i - 1) (j - 1) _ _ (gm_wl_at i1.1 i1.2) (gm_wl_at j1.1 j1.2) e
        have hij : i = j := by omega
        subst hij
        rcases i4 with ⟨i5, i6⟩ | ⟨i5, i6⟩
        · rcases j4 with ⟨j5, j6⟩ | ⟨j5, j6⟩
          · omega
          · omega
        · rcases j4 with ⟨j5, j6⟩ | ⟨j5, j6⟩
          · omega
          · omega
      · rw [i2, l3] at e
        have h1 := hD1.2 (i - 1) _ (gm_wl_at i1.1 i1.2)
        have h1 : va_A (gm_wl ti α0 n1 K0 R0 M0) H.size (α1 i) := h1
        rw [e] at h1
        exact absurd h1 (apart (y + 1) (by omega) l1 l2).2
    · rcases gm_bgw_at hb (k := y + 1) (by omega) (by omega) with ⟨j, j1, ⟨j2, -⟩, j4⟩ | ⟨⟨l1, l2⟩, l3, -⟩
      · rw [k3, j2] at e
        have h1 := hD1.2 (j - 1) _ (gm_wl_at j1.1 j1.2)
        have h1 : va_A (gm_wl ti α0 n1 K0 R0 M0) H.size (α1 j) := h1
        rw [← e] at h1
        exact absurd h1 (apart (x + 1) (by omega) k1 k2).2
      · rw [k3, l3] at e
        have := hD.1 x y _ _ (gm_wl_at (k := x + 1) (by omega) k1) (gm_wl_at (k := y + 1) (by omega) l1) e
        omega
  · obtain ⟨h1, rfl⟩ := gm_wl_get hq
    show A0 (α' (k + 1))
    rcases gm_bgw_at hb (k := k + 1) (by omega) (by omega) with ⟨i, i1, ⟨i2, -⟩, -⟩ | ⟨⟨k1, k2⟩, k3, -⟩
    · rw [i2]
      exact hF _ (hD1.2 (i - 1) _ (gm_wl_at i1.1 i1.2))
    · rw [k3]
      exact hD.2 _ _ (gm_wl_at (k := k + 1) (by omega) k1)
/-- what a callee in a part of the world owes its caller -/
noncomputable def gm_owe (X : Int → Int) (LX d bc bs mi pc : Nat) (L : gm_L) (st : List gm_V) (ρ : Nat → Nat) (f : (Nat → Nat) → Nat → Nat) (n1 n : Nat) (K : gm_K) (R : gm_R) (M : gm_M) (Q : gm_Q) : gm_Q := fun o n1' K1' R1' M1' => ∃ u, o = .inl u ∧ (u = none ∨ ∃ x, u = some (gm_vi x)) ∧ ∃ (n' : Nat) (K' : gm_K) (R' : gm_R) (M' : gm_M), (∀ (ti : Nat → ClassId) (α α1' : Nat → Nat), gm_xt (f α) n1 α1' n1' → ∃ α', gm_xt α n α' n' ∧ gm_bgw ti ρ n1 n1' α1' K1' R1' M1' n n' α K R M α' K' R' M') ∧ gm_Rv n' R' ∧ gm_Wp X LX d bc bs mi pc L (u.toList ++ st) n' K' R' M' Q
section SUB
variable {X : Int → Int} {LX d bc bs mi pc : Nat} {L : gm_L} {st : List gm_V} {n : Nat} {K : gm_K} {R : gm_R} {M : gm_M} {Q : gm_Q}
theorem gm_tailS {p : Program} {l : Launch} {e : Env} {Rm : Room} {s : State} {m : MethodId} {args : Array Value} {below : List Frame} {meth : Method} {c : Code} {H : Heap} {locs : List Loc} {cells slots bc' bs' mc ms n0 n1 : Nat} {D : va_G} {ti : Nat → ClassId} {adK adV α α0 : Nat → Nat} {A : Nat → Prop} {a : Array Value} {ls : Array Slot} {sv0 sv : List Value} {ρ : Nat → Nat} {f : (Nat → Nat) → Nat → Nat} {K1 : gm_K} {R1 : gm_R} {M1 : gm_M}
    (hs : gm_sbw ti ρ n1 (f α) K1 R1 M1 n α K R M) (hcx : gm_Cx mi p l s m args meth c) (hev : gm_Ev X LX adK adV A s) (hd : d ≤ Rm.frames) (hd2 : d * 300 ≤ Rm.locals) (hmc : mc ≤ Rm.cells) (hms : ms ≤ Rm.slots) (hA : ∀ q, s.heap.size ≤ q → A q) (hxt : gm_xt α0 n0 α n) (hb1 : bc' ≤ bc) (hb2 : bs' ≤ bs) (hc1 : cells + bc ≤ mc) (hc2 : slots + bs ≤ ms) (hP : va_P D gm_cs (gm_wl ti α n K R M) H) (hD : va_D A (gm_wl ti α n K R M)) (hSv : va_S A s.heap H locs) (hL : gm_lr α adK n (gm_ml mi) L ls) (hS : gm_sr α adK n st sv) (hA1 : ∀ q, va_A (gm_wl ti (f α) n1 K1 R1 M1) H.size q → A q)
    (hr : vx_Run p l e Rm s m args below meth c H locs cells slots bc' bs' (F0 m pc ls sv0) sv (gm_QC D ti adK (va_A (gm_wl ti (f α) n1 K1 R1 M1) H.size) (f α) n1 (gm_owe X LX d (bc - bc') (bs - bs') mi (pc + 3) L st ρ f n1 n K R M Q) a) (gm_XC D ti (va_A (gm_wl ti (f α) n1 K1 R1 M1) H.size) (f α) n1 (gm_owe X LX d (bc - bc') (bs - bs') mi (pc + 3) L st ρ f n1 n K R M Q)) (va_A (gm_wl ti (f α) n1 K1 R1 M1) H.size)) :
    W p l e Rm s m args below meth c H locs cells slots (vx_MQ below (gm_QC D ti adK A α0 n0 Q) (gm_XC D ti A α0 n0 Q) args s mc ms A) (F0 m pc ls sv0) := by
  intro T hT Xs
  rcases hr T hT Xs with ⟨v, st₀, t, T', L9, h0, X', hL9, e1, e2, ⟨⟨v', u, α1', n1', K1', R1', M1', hv, ho, hq, hx9, hk, hp, hd9, hrv⟩, hF⟩, stp⟩ | ⟨q, st₀, t, T', L9, E, ce, h0, X', hL9, e1, e2, ⟨⟨x, α', n', K', R', M', rfl, hx5, hq, -⟩, hF⟩, hce, hcv, hcl, stp⟩
  · cases hv
    obtain ⟨k1, k2, k3⟩ := vx_keep h0 e1 hSv (fun q _ h => hA1 q h) hA1 hL9 hF
    have hvm : s.vm.Alike t.vm := by rw [← e2]; exact X'.warmed.alike
    obtain ⟨u', hu, hui, n', K', R', M', hbig, hrv', hw⟩ := hq
    cases hu
    obtain ⟨α', hxt', hb⟩ := hbig ti α α1' hx9
    obtain ⟨g1, g2⟩ := gm_bgw_PD hs hb hP hD k2 hA1 (by rw [e1]; exact hp) hd9
    obtain ⟨t2, a1, b1⟩ := hw p l e Rm s m args below meth c D ti adK adV A α0 n0 mc ms hcx hev hd hd2 hmc hms hA α' T'.heap (locs ++ L9) (cells + bc') (slots + bs') ls (v.toList ++ sv) (hxt.trans hxt') (by omega) (by omega) ⟨va_K.moved hvm.symm hk, g1, g2, k3, hrv'⟩ (gm_lr_ext hxt' hL) (by
      rcases hui with rfl | ⟨x, rfl⟩
      · cases ho; exact gm_sr_ext hxt' hS
      · obtain ⟨w, rfl, hw⟩ := ho; exact ⟨w, sv, rfl, hw, gm_sr_ext hxt' hS⟩) T' rfl X'
    exact ⟨t2, stp t2 a1, b1⟩
  · obtain ⟨u, hu, -⟩ := hq
    cases hu
theorem gm_sr_i {α1 adK : Nat → Nat} {n1 : Nat} : ∀ {as : List gm_V} {ws : List Value}, gm_sr α1 adK n1 as ws → (∀ v ∈ as, ∃ x, v = gm_vi x) → ∀ {α : Nat → Nat} {n : Nat}, gm_sr α adK n as ws := by
  intro as
  induction as with
  | nil => intro ws h _ α n; exact h
  | cons v as ih =>
    intro ws h hi α n
    obtain ⟨w, ws', rfl, hw, h⟩ := h
    obtain ⟨x, rfl⟩ := hi v List.mem_cons_self
    exact ⟨w, ws', rfl, hw, ih h (fun v hv => hi v (List.mem_cons_of_mem _ hv))⟩
theorem gm_c_virtS {ix mj k1 ci d' bc' bs' n1 : Nat} {as : List gm_V} {ρ : Nat → Nat} {f : (Nat → Nat) → Nat → Nat} {K1 : gm_K} {R1 : gm_R} {M1 : gm_M} (hs : ∀ (ti : Nat → ClassId) (α : Nat → Nat), gm_sbw ti ρ n1 (f α) K1 R1 M1 n α K R M) (hinj : ∀ i j, 1 ≤ i → i ≤ n1 → 1 ≤ j → j ≤ n1 → ρ i = ρ j → i = j) (hrv1 : gm_Rv n1 R1) (hk1 : 1 ≤ k1 ∧ k1 ≤ n1) (hK1 : (K1 k1).1 = ci + 4) (h : gm_at mi pc = some (.invokevirtual ix)) (hc : gm_cal (gm_ow mi) ix = some (0, mj)) (hmx : gm_ow mj ≠ gm_mxi) (hci : ci < 12) (hcn : gm_cn ci = (gm_mn mj).cls) (hna : as.length = gm_na mj) (has : ∀ v ∈ as, ∃ x, v = gm_vi x) (hlen : as.length + 1 ≤ gm_ml mj) (hst : (st.map gm_cat).sum ≤ 8) (hd' : d' + 1 ≤ d) (hb1 : bc' ≤ bc) (hb2 : bs' ≤ bs)
    (hW : gm_Wp X LX d' bc' bs' mj 0 (gm_ent mj (gm_vr k1 :: as)) [] n1 K1 R1 M1 (gm_owe X LX d (bc - bc') (bs - bs') mi (pc + 3) L st ρ f n1 n K R M Q)) : gm_Wp X LX d bc bs mi pc L (as.reverse ++ gm_vr (ρ k1) :: st) n K R M Q := by
  intro p l e Rm s m args below meth c D ti adK adV A α0 n0 mc ms hcx hev hd hd2 hmc hms hA α H locs cells slots ls sv hxt hc1 hc2 hR hL hS
  obtain ⟨w1, w2, rfl, hw1, w, sv2, rfl, ⟨rfl, hkn⟩, hS2⟩ := gm_sr_app hS
  have hdg := gm_dec hcx h rfl
  obtain ⟨hx, hb, hml, hown, -, -, hts, -, hl, -⟩ := id hcx
  obtain ⟨hKn, hP, hD, hSv, hRv⟩ := id hR
  obtain ⟨hj, i1, i2, i3, -, -, i6, -⟩ := gm_cal_spec hc
  obtain ⟨j1, -, j3, j4, j5, -⟩ := gm_mck_spec hj
  have hs := hs ti α
  obtain ⟨s1, s2, s3⟩ := hs k1 hk1.1 hk1.2
  have hP1 := gm_sbw_P hs hP
  have hD1 := gm_sbw_D hs hinj hD
  have hA1 := gm_sub_A hD1 hSv hA
  have hcat : ∀ v ∈ as, ¬ gm_sort v = 1 := fun v hv => by obtain ⟨x, rfl⟩ := has v hv; simp [gm_sort]
  have hvs : gm_sr (f α) adK n1 (gm_vr k1 :: as) (Value.ref (f α k1) :: w1.reverse) := ⟨_, _, rfl, ⟨(gm_rf_pos hk1.1 (Nat.lt_of_le_of_lt hk1.2 hrv1.1)).symm, Or.inl hk1.2⟩, by have := gm_sr_rev (gm_sr_i hw1 (fun v hv => has v (by simpa using hv)) (α := f α) (n := n1)); rwa [List.reverse_reverse] at this⟩
  have hM := gm_met (adV := adV) (ti := ti) (D := D) hj hmx (i6 (by omega)) l hl hW hvs (by intro v hv; rcases List.mem_cons.mp hv with rfl | hv; exact (by simp [gm_sort]); exact hcat v hv) (by simpa using hlen) hP1 (hD1.self (sz := H.size)) hrv1 (fun q h => Or.inr h)
  have he := gm_wl_at (ti := ti) (α := f α) (K := K1) (R := R1) (M := M1) hk1.1 hk1.2
  rw [gm_en_obj hK1] at he
  obtain ⟨T, N, hcs, -⟩ := gm_cs_get hci
  have hcode : gm_cwd mj = .code (gm_mn mj) (gm_bc mj) (gm_ml mj) (gm_rt mj) := by unfold gm_cwd; rw [if_pos (i6 (by omega))]
  have hwl : w1.length = as.length := by have := (gm_sr_at hw1).1; simpa using this
  have hG : GoodIn gm_T (wsV (gm_rn (gm_ow mi)) ix (gm_mn mj).cls (gm_mn mj) (gm_cwd mj :: gm_T)) := by
    intro w hw
    refine ⟨?_, ?_⟩
    · simp only [wsV, List.cons_append, List.nil_append, List.mem_cons] at hw
      rcases hw with rfl | rfl | rfl | rfl | rfl | hw
      · exact i2 (by omega)
      · exact (i3 rfl).1
      · exact (i3 rfl).2
      · exact i1
      · exact j1
      · exact hw
    · simp only [wsV, List.cons_append, List.nil_append, List.mem_cons] at hw
      rcases hw with rfl | rfl | rfl | rfl | rfl | hw
      · exact Or.inl rfl
      · exact Or.inl rfl
      · exact Or.inl rfl
      · exact Or.inl rfl
      · exact (gm_T_good _ j1).2
      · exact (gm_T_good _ hw).2
  rw [gm_rf_pos s1.1 (Nat.lt_of_le_of_lt s1.2 hRv.1), ← s2]
  refine gm_tailS (bc' := bc') (bs' := bs') hs hcx hev hd hd2 hmc hms hA hxt hb1 hb2 hc1 hc2 hP hD hSv hL hS2 hA1 (a := (Value.ref (f α k1) :: w1.reverse).toArray) ?_
  refine vx_runV (As := w1.reverse) (n := gm_na mj) (index := ix) (C := (gm_mn mj).cls) ⟨hx, hb, hml, hown, hts⟩ hM (cwV (rm := { frames := d', cells := bc', slots := bs', locals := d' * 300 }) (gm_na mj) hts hG (by rw [hcode]) rfl rfl ⟨rfl, j3.1, j3.2, j4⟩ ⟨by show d' + 1 ≤ _; omega, by show 8 + (gm_ml mj + 11) + d' * 300 ≤ _; omega⟩) ⟨gm_blind, ?_, fun U hU hWm => ⟨rfl, hU, gm_Ev_to hev hWm (by rw [hU]; exact hSv.1) (fun a h1 h2 => by rw [hU]; exact hSv.2.1 a h1 h2) hA1, va_K.moved hWm.alike hKn⟩⟩ rfl (by rw [List.length_reverse, hwl, hna]) ?_ (by rw [List.reverse_reverse]) (lv_room (by rw [gm_sum_eq hS2]; exact hst)) hdg ⟨by omega, by omega⟩
  · have := va_recv hKn hP1 hcs he
    rw [hcn] at this
    exact this
  · exact hL.2.choose_spec.1.1
/-- arguments: numbers, and cells under their own numbers -/
noncomputable def gm_ar (ρ : Nat → Nat) (n1 : Nat) : List gm_V → List gm_V → Prop
  | [], bs => bs = []
  | a :: as, bs => ∃ b bs', bs = b :: bs' ∧ ((∃ x, a = gm_vi x ∧ b = gm_vi x) ∨ ∃ k, (1 ≤ k ∧ k ≤ n1) ∧ a = gm_vr k ∧ b = gm_vr (ρ k)) ∧ gm_ar ρ n1 as bs'
theorem gm_ar_s {ti : Nat → ClassId} {ρ : Nat → Nat} {n1 n : Nat} {α1 α adK : Nat → Nat} {K1 K : gm_K} {R1 R : gm_R} {M1 M : gm_M} (hs : gm_sbw ti ρ n1 α1 K1 R1 M1 n α K R M) (hn : n < 100000) (hn1 : n1 < 100000) : ∀ {as bs : List gm_V} {ws : List Value}, gm_ar ρ n1 as bs → gm_sr α adK n bs ws → gm_sr α1 adK n1 as ws ∧ (∀ v ∈ as, ¬ gm_sort v = 1) ∧ as.length = bs.length := by
  intro as
  induction as with
  | nil => intro bs ws h h2; cases h; exact ⟨h2, (fun _ h => nomatch h), rfl⟩
  | cons a as ih =>
    intro bs ws h h2
    obtain ⟨b, bs', rfl, hab, h⟩ := h
    obtain ⟨w, ws', rfl, hw, h2⟩ := h2
    obtain ⟨i1, i2, i3⟩ := ih h h2
    refine ⟨⟨w, ws', rfl, ?_, i1⟩, fun v hv => ?_, by rw [List.length_cons, List.length_cons, i3]⟩
    · rcases hab with ⟨x, rfl, rfl⟩ | ⟨k, hk, rfl, rfl⟩
      · exact hw
      · obtain ⟨s1, s2, -⟩ := hs k hk.1 hk.2
        obtain ⟨rfl, -⟩ := hw
        refine ⟨?_, Or.inl hk.2⟩
        rw [gm_rf_pos s1.1 (Nat.lt_of_le_of_lt s1.2 hn), gm_rf_pos hk.1 (Nat.lt_of_le_of_lt hk.2 hn1), s2]
    · rcases List.mem_cons.mp hv with rfl | hv
      · rcases hab with ⟨x, rfl, -⟩ | ⟨k, -, rfl, -⟩ <;> simp [gm_sort]
      · exact i2 v hv
theorem gm_c_statS {ix mj d' bc' bs' n1 : Nat} {as1 as : List gm_V} {ρ : Nat → Nat} {f : (Nat → Nat) → Nat → Nat} {K1 : gm_K} {R1 : gm_R} {M1 : gm_M} (hs : ∀ (ti : Nat → ClassId) (α : Nat → Nat), gm_sbw ti ρ n1 (f α) K1 R1 M1 n α K R M) (hinj : ∀ i j, 1 ≤ i → i ≤ n1 → 1 ≤ j → j ≤ n1 → ρ i = ρ j → i = j) (hrv1 : gm_Rv n1 R1) (har : gm_ar ρ n1 as1 as) (h : gm_at mi pc = some (.invokestatic ix)) (hc : gm_cal (gm_ow mi) ix = some (5, mj)) (hmx : gm_ow mj ≠ gm_mxi) (hhj : ¬ gm_hh mj = []) (hna : as1.length = gm_na mj) (hlen : as1.length ≤ gm_ml mj) (hst : (st.map gm_cat).sum ≤ 8) (hd' : d' + 1 ≤ d) (hb1 : bc' ≤ bc) (hb2 : bs' ≤ bs)
    (hW : gm_Wp X LX d' bc' bs' mj 0 (gm_ent mj as1) [] n1 K1 R1 M1 (gm_owe X LX d (bc - bc') (bs - bs') mi (pc + 3) L st ρ f n1 n K R M Q)) : gm_Wp X LX d bc bs mi pc L (as.reverse ++ st) n K R M Q := by
  intro p l e Rm s m args below meth c D ti adK adV A α0 n0 mc ms hcx hev hd hd2 hmc hms hA α H locs cells slots ls sv hxt hc1 hc2 hR hL hS
  obtain ⟨w1, sv2, rfl, hw1, hS2⟩ := gm_sr_app hS
  have hdg := gm_dec hcx h rfl
  obtain ⟨hx, hb, hml, hown, -, -, hts, -, hl, -⟩ := id hcx
  obtain ⟨hKn, hP, hD, hSv, hRv⟩ := id hR
  obtain ⟨hj, i1, i2, -, -, i5, i6, -⟩ := gm_cal_spec hc
  obtain ⟨j1, -, j3, j4, j5, -⟩ := gm_mck_spec hj
  have hs := hs ti α
  have hP1 := gm_sbw_P hs hP
  have hD1 := gm_sbw_D hs hinj hD
  have hA1 := gm_sub_A hD1 hSv hA
  have hvb : gm_sr α adK n as w1.reverse := by have := gm_sr_rev hw1; rwa [List.reverse_reverse] at this
  obtain ⟨hvs, hcat, hle⟩ := gm_ar_s hs hRv.1 hrv1.1 har hvb
  have hM := gm_metH (adV := adV) (ti := ti) (D := D) hj hmx hhj l hl hW hvs hcat hlen hP1 (hD1.self (sz := H.size)) hrv1 (fun q h => Or.inr h)
  have hcode : gm_cwd mj = .codeWith (gm_mn mj) (gm_bc mj) (gm_ml mj) (gm_rt mj) (gm_hh mj) := by unfold gm_cwd; rw [if_neg hhj]
  have hwl : w1.length = as1.length := by have := (gm_sr_at hw1).1; rw [hle]; simpa using this
  have hpre : PreS s H (va_Pc w1.reverse (fun U => U.heap = H ∧ gm_Ev X LX adK adV (va_A (gm_wl ti (f α) n1 K1 R1 M1) H.size) U ∧ va_K D gm_cs (gm_ty ti) U)) w1.reverse := ⟨gm_blind, fun U hU hWm => ⟨rfl, hU, gm_Ev_to hev hWm (by rw [hU]; exact hSv.1) (fun a h1 h2 => by rw [hU]; exact hSv.2.1 a h1 h2) hA1, va_K.moved hWm.alike hKn⟩⟩
  refine gm_tailS (bc' := bc') (bs' := bs') hs hcx hev hd hd2 hmc hms hA hxt hb1 hb2 hc1 hc2 hP hD hSv hL hS2 hA1 (a := w1.reverse.toArray) ?_
  have hR1 : d' + 1 ≤ Rm.frames ∧ 8 + (gm_ml mj + 11) + d' * 300 ≤ Rm.locals := ⟨by omega, by omega⟩
  have hroom := lv_room (m := m) (pc := pc) (ls := ls) (rest := w1 ++ sv2) (st := sv2) (by rw [gm_sum_eq hS2]; exact hst)
  have hG9 : GoodIn gm_T (va_wsS (gm_rn (gm_ow mi)) ix (gm_mn mj) (gm_cwd mj :: gm_T)) := by
    intro w hw
    simp only [va_wsS, List.cons_append, List.nil_append, List.mem_cons] at hw
    rcases hw with rfl | rfl | rfl | rfl | hw
    all_goals first | exact gm_T_good _ i1 | exact gm_T_good _ (i2 (by omega)) | exact gm_T_good _ (i5 (Or.inr rfl)) | exact gm_T_good _ j1 | exact gm_T_good _ hw
  exact vx_runSX (hh := gm_hh mj) (As := w1.reverse) (n := gm_na mj) (index := ix) ⟨hx, hb, hml, hown, hts⟩ hM (vx_cwSW (rm := { frames := d', cells := bc', slots := bs', locals := d' * 300 }) (gm_na mj) hts hG9 (by rw [hcode]) rfl rfl ⟨j3.1, j3.2, j4⟩ hR1) hpre rfl (by rw [List.length_reverse, hwl, hna]) hL.2.choose_spec.1.1 (by rw [List.reverse_reverse]) hroom hdg ⟨by omega, by omega⟩
end SUB
end
/-! 76b.cln -/
section
/-! AN ARRAY OF NUMBERS CLONED, and cast to what it is: Arrays.copyOf. -/
set_option maxRecDepth 100000 in
theorem gm_clw1 : Jvm.Cond.methodLink (gm_rn 5) 316 ⟨"[I", "clone", "()Ljava/lang/Object;"⟩ ∈ gm_T := gm_T_in (i := 1174) (by decide +kernel) rfl
set_option maxRecDepth 100000 in
theorem gm_clw2 : Jvm.Cond.sameMethod "[I" "java/lang/Object" "clone" "()Ljava/lang/Object;" ∈ gm_T := gm_T_in (i := 1175) (by decide +kernel) rfl
set_option maxRecDepth 100000 in
theorem gm_clw3 : Jvm.Cond.native ⟨"java/lang/Object", "clone", "()Ljava/lang/Object;"⟩ ∈ gm_T := gm_T_in (i := 1176) (by decide +kernel) rfl
set_option maxRecDepth 100000 in
theorem gm_clw4 : Jvm.Cond.instanceMethod ⟨"java/lang/Object", "clone", "()Ljava/lang/Object;"⟩ ∈ gm_T := gm_T_in (i := 1177) (by decide +kernel) rfl
set_option maxRecDepth 100000 in
theorem gm_clw5 : Jvm.Cond.selects "[I" ⟨"[I", "clone", "()Ljava/lang/Object;"⟩ ⟨"java/lang/Object", "clone", "()Ljava/lang/Object;"⟩ ∈ gm_T := gm_T_in (i := 1178) (by decide +kernel) rfl
set_option maxRecDepth 100000 in
theorem gm_clw6 : Jvm.Cond.classLink (gm_rn 5) 317 "[I" ∈ gm_T := gm_T_in (i := 1180) (by decide +kernel) rfl
/-- the clone's numbers -/
noncomputable def gm_clM (M : gm_M) (n k : Nat) : gm_M := fun a b => if a = n + 1 then M k b else M a b
theorem gm_wl_clone {ti : Nat → ClassId} {α : Nat → Nat} {n q k len : Nat} {K : gm_K} {R : gm_R} {M : gm_M} (hn : n + 1 < 100000) (hR : gm_Rv n R) : gm_wl ti α n K R M ++ [(q, .inl (ti 0, len, .inl fun j => Int32.ofInt (M k j)))] = gm_wl ti (gm_al α n q) (n + 1) (gm_nK K n 0 len) (gm_nR R n) (gm_clM M n k) := by
  have hold : gm_wl ti α n K R M = gm_wl ti (gm_al α n q) n (gm_nK K n 0 len) (gm_nR R n) (gm_clM M n k) := by
    refine gm_wl_ext fun k' h1 h2 => ⟨by simp [gm_al]; omega, ?_⟩
    have eK : gm_nK K n 0 len k' = K k' := by simp [gm_nK]; omega
    have eM : gm_clM M n k k' = M k' := by funext b; simp [gm_clM]; omega
    have eR : gm_nR R n k' = R k' := by funext b; simp [gm_nR]; omega
    have e1 : ∀ j, gm_rf (gm_al α n q) (R k' j) = gm_rf α (R k' j) := fun j => gm_rf_ext (gm_al_xt hn) (hR.2 k' j)
    have e2 : ∀ j, gm_ro (gm_al α n q) (R k' j) = gm_ro α (R k' j) := fun j => gm_ro_ext (gm_al_xt hn) (hR.2 k' j)
    unfold gm_en gm_fs
    rw [eK, eM, eR]
    simp only [e1, e2]
  have he : gm_en ti (gm_al α n q) (gm_nK K n 0 len) (gm_nR R n) (gm_clM M n k) (n + 1) = .inl (ti 0, len, .inl fun j => Int32.ofInt (M k j)) := by unfold gm_en; simp [gm_nK, gm_clM]
  rw [hold, ← he]
  unfold gm_wl
  rw [List.range_succ, List.map_append]
  simp [gm_al]
section CLN
variable {X : Int → Int} {LX d bc bs mi pc : Nat} {L : gm_L} {st : List gm_V} {n : Nat} {K : gm_K} {R : gm_R} {M : gm_M} {Q : gm_Q}
theorem gm_p_clone {k : Nat} (hn9 : n + 1 < 100000) (hmi : gm_ow mi = 5) (h : gm_at mi pc = some (.invokevirtual 316)) (hk : 1 ≤ k ∧ k ≤ n) (hK : (K k).1 = 0) (hst : (st.map gm_cat).sum ≤ 8) (hd' : 1 ≤ d) : gm_Sp X LX d mi pc L (gm_vr k :: st) n K R M (pc + 3) L (gm_vr (n + 1) :: st) (n + 1) (gm_nK K n 0 (K k).2) (gm_nR R n) (gm_clM M n k) 1 (K k).2 := by
  intro p l e Rm s m args below meth c D ti adK adV A hcx hev hd hd2 hA α H locs cells slots ls sv Q' hc1 hc2 hR hL hS k2
  obtain ⟨w1, sv, rfl, ⟨rfl, -⟩, hS⟩ := hS
  have hdg := gm_dec hcx h rfl
  obtain ⟨hx, hb, hml, hown, -, -, hts, -⟩ := id hcx
  rw [hmi] at hown
  obtain ⟨hKn, hP, hD, hSv, hRv⟩ := id hR
  have he := gm_wl_at (ti := ti) (α := α) (K := K) (R := R) (M := M) hk.1 hk.2
  have e1 : gm_en ti α K R M k = .inl (ti 0, (K k).2, .inl fun j => Int32.ofInt (M k j)) := by unfold gm_en; rw [hK]
  rw [e1] at he
  rw [gm_rf_pos hk.1 (Nat.lt_of_le_of_lt hk.2 hRv.1)]
  have hnm : s.vm.findClass "[I" = some (ti 0) := (hKn.2 0 _ rfl).2
  have hcat := gm_sum_eq hS
  refine va_clone hx hb (hml.trans hL.2.choose_spec.1.1.symm) hown (hts _ gm_clw1) (hts _ gm_clw2) (hts _ gm_clw3) (hts _ gm_clw4) (hts _ gm_clw5) hev.2.2.2.2.2.2.2.2.2.2.1 hKn hP hD hSv hA (k - 1) 0 he rfl hnm (va_fit fun i _ => rfl) (by omega) (by omega) hc1 hc2 hdg fun q H1 p0 p1 p2 p3 => ?_
  rw [gm_wl_clone hn9 hRv] at p1 p2
  exact k2 (gm_al α n q) H1 locs ls _ (gm_al_xt hn9) ⟨hKn, p1, p2, p3, gm_Rv_n hn9 hRv⟩ (gm_lr_ext (gm_al_xt hn9) hL) ⟨_, _, rfl, ⟨(gm_al_self hn9).symm, Or.inl (Nat.le_refl _)⟩, gm_sr_ext (gm_al_xt hn9) hS⟩
theorem gm_p_castA {k : Nat} (hmi : gm_ow mi = 5) (h : gm_at mi pc = some (.checkcast 317)) (hk : 1 ≤ k ∧ k ≤ n) (hK : (K k).1 = 0) : gm_Sp X LX d mi pc L (gm_vr k :: st) n K R M (pc + 3) L (gm_vr k :: st) n K R M 0 0 := by
  intro p l e Rm s m args below meth c D ti adK adV A hcx hev hd hd2 hA α H locs cells slots ls sv Q' hc1 hc2 hR hL hS k2
  obtain ⟨w1, sv, rfl, ⟨rfl, kk⟩, hS⟩ := hS
  have hdg := gm_dec hcx h rfl
  obtain ⟨hx, hb, hml, hown, -, -, hts, -⟩ := id hcx
  rw [hmi] at hown
  obtain ⟨hKn, hP, hD, hSv, hRv⟩ := id hR
  have he := gm_wl_at (ti := ti) (α := α) (K := K) (R := R) (M := M) hk.1 hk.2
  have e1 : gm_en ti α K R M k = .inl (ti 0, (K k).2, .inl fun j => Int32.ofInt (M k j)) := by unfold gm_en; rw [hK]
  rw [e1] at he
  have k3 := k2 α H locs ls _ gm_xt.rf hR hL ⟨_, _, rfl, ⟨rfl, kk⟩, hS⟩
  rw [gm_rf_pos hk.1 (Nat.lt_of_le_of_lt hk.2 hRv.1)] at k3 ⊢
  have hnm : s.vm.findClass "[I" = some (ti 0) := (hKn.2 0 _ rfl).2
  exact va_castA hx hb hown (hts _ gm_clw6) hP (k - 1) he hnm hdg k3
end CLN
end
