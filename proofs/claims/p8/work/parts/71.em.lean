/-! THE REFERENCE'S law(): steps that are laid down, lines that begin and end, by hand. -/
theorem gm_Ft_W {O : gm_Or} {n : Nat} {M : gm_M} {k : Nat} {j v a b lo hi : Int} (hF : gm_Ft O n M) (h : gm_tyv O k lo hi a b = true) (h1 : lo ≤ j) (h2 : j ≤ hi) (h3 : a ≤ v) (h4 : v ≤ b) : gm_Ft O n (gm_uM M k j v) := by
  intro c r hr
  obtain ⟨g1, g2⟩ := hF c r hr
  refine ⟨g1, fun i h5 h6 => ?_⟩
  unfold gm_uM
  split
  · rename_i e
    obtain ⟨rfl, rfl⟩ := e
    have h7 := List.all_eq_true.mp (gm_tyv_def.symm.trans h) r hr
    simp only [Bool.or_eq_true, Bool.and_eq_true, decide_eq_true_eq] at h7
    rcases h7 with h7 | h7 | ⟨h7, h8, h9, h10⟩
    · omega
    · omega
    · exact ⟨⟨by omega, by omega⟩, by omega, by omega⟩
  · exact g2 i h5 h6
theorem ck_gf_cws {σ : Nat → Int} {F : ck_F} {n : Nat} {K : gm_K} {R : gm_R} {M M' : gm_M} {ws : List (Nat × Int × Int)} (h : ck_gf σ F n K R M) (hM : ∀ c j, (∀ w ∈ ws, ¬ (w.1 = c ∧ w.2.1 ≤ j ∧ j ≤ w.2.2)) → M' c j = M c j) : ∀ q ∈ ck_cws ws F.2.2, q.1 ≤ n ∧ ∀ j, q.2.1 ≤ j → j ≤ q.2.2.1 → gm_ir (M' q.1 j) ∧ ck_gi σ q.2.2.2 (M' q.1 j) := by
  intro q hq
  obtain ⟨p, hp, e1, e2, e3⟩ := ck_cws_s (ws := ws) (l := F.2.2) hq
  have h3 := h.2.2 p hp
  refine ⟨by rw [e1]; exact h3.1, fun j h4 h5 => ?_⟩
  obtain ⟨h6, h7⟩ := e3 j h4 h5
  rw [hM q.1 j (fun w hw => by rw [e1]; exact h7 w hw), e1, e2]
  exact h3.2 j h6.1 h6.2
theorem ck_f1 {σ : Nat → Int} {n : Nat} {M : gm_M} {k : Nat} {j : Int} {a : ck_I} (hk : k ≤ n) (hr : gm_ir (M k j)) (hv : ck_gi σ a (M k j)) : ((k, j, j, a) : Nat × Int × Int × ck_I).1 ≤ n ∧ ∀ i, ((k, j, j, a) : Nat × Int × Int × ck_I).2.1 ≤ i → i ≤ ((k, j, j, a) : Nat × Int × Int × ck_I).2.2.1 → gm_ir (M ((k, j, j, a) : Nat × Int × Int × ck_I).1 i) ∧ ck_gi σ ((k, j, j, a) : Nat × Int × Int × ck_I).2.2.2 (M ((k, j, j, a) : Nat × Int × Int × ck_I).1 i) := by
  refine ⟨hk, fun i h1 h2 => ?_⟩
  have h1 : j ≤ i := h1
  have h2 : i ≤ j := h2
  have h3 : i = j := by omega
  subst h3
  exact ⟨hr, hv⟩
theorem ck_gt1 {σ : Nat → Int} {s : Nat} {z x : Int} (hs : s < 1000000) (h : x = σ s + z) : ck_gt σ [(s, z)] x := fun q hq => by
  rw [List.mem_singleton.mp hq]
  exact ⟨fun _ => h, fun h => absurd hs (Nat.not_lt.mpr h)⟩
theorem jfp_b {k : Nat} {r : Int × Int} (h : r ∈ j_fp k) : 227 ≤ k ∧ (k = 227 → r.2 ≤ 1243) := by
  by_cases e : k = 227
  · subst e
    exact ⟨by decide, fun _ => of_decide_eq_true (List.all_eq_true.mp (show (j_fp 227).all (fun r => decide (r.2 ≤ 1243)) = true by decide +kernel) r h)⟩
  · refine ⟨?_, fun e2 => absurd e2 e⟩
    unfold j_fp at h
    split at h
    · omega
    · split at h
      · omega
      · split at h
        · omega
        · split at h
          · omega
          · cases h
theorem j_J_w {t : List (Int × Int × Int × Int)} {K : gm_K} {M M' : gm_M} (h : ∀ k j, 227 ≤ k → (k = 227 → j ≤ 1243) → M' k j = M k j) (hJ : j_J t K M) : j_J t K M' := j_h K K M M' (fun _ _ _ => rfl) (fun k r hr j _ j2 => h k j (jfp_b hr).1 (fun e => by have := (jfp_b hr).2 e; omega)) hJ
theorem pg_t0 {j a b : Int} : gm_tyv pg_O 0 j j a b = true := by
  rw [gm_tyv_def]
  rw [show pg_O.2.2.ty 0 = [] by decide +kernel]
  rfl
theorem pg_ts : gm_tyv pg_O 227 1293 2092 (-1) 999 = true := by decide +kernel
theorem pg_t15 : gm_tyv pg_O 226 15 15 0 400 = true := by decide +kernel
theorem pg_p9 : gm_tyr pg_O 226 9 9 = some (0, 400) := by decide +kernel
theorem pg_p11 : gm_tyr pg_O 226 11 11 = some (0, 400) := by decide +kernel
theorem pg_tl : (List.range 12).all (fun (n : Nat) => gm_tyv pg_O 227 (1247 + 4 * (n : Int)) (1247 + 4 * (n : Int)) 0 400 && gm_tyv pg_O 227 (1248 + 4 * (n : Int)) (1248 + 4 * (n : Int)) 0 400) = true := by decide +kernel
section EM
variable {X : Int → Int} {LX : Nat}
noncomputable def em_M (M : gm_M) (st s nn h : Int) : gm_M := gm_uM (gm_uM (gm_uM (gm_uM (gm_uM (gm_uM M 227 (1293 + 2 * st) s) 227 (1293 + 2 * st + 1) nn) 226 15 (st + 1)) 0 0 h) 0 3 (M 0 3 - 1)) 0 5 (M 0 5 - 1)
noncomputable def em_W : List (Nat × Int × Int) × List (Nat × Int) := ([(0, 0, 0), (0, 3, 3), (0, 5, 5), (226, 15, 15), (227, 1293, 2092)], [])
noncomputable def em_S (lo hi h0 dh h1 h2 : Int) : ck_Sum := ((1, 0, 0), 245, [.inr (.inr (.inl 226)), .inl (lo, hi, []), .inl (-1, 999, [])], ([], [], [(0, 0, 0, (h0, 400, [(30, 0)])), (0, 3, 3, (-400, 400, [(31, 0)])), (0, 5, 5, (1, 400, [(33, 0)]))]), em_W, [(.inr none, 245, ([], [], [(0, 0, 0, (h1, h2, [(30, dh)])), (0, 3, 3, (-400, 399, [(31, -1)])), (0, 5, 5, (0, 399, [(33, -1)])), (226, 15, 15, (1, 400, [(2, 1)]))]))])
theorem em_s {lo hi h0 dh h1 h2 : Int} (hlo : -1 ≤ lo ∧ hi ≤ 999) (hk : ∀ s h, lo ≤ s → s ≤ hi → h0 ≤ h → jS s h (h + dh)) (hh1 : (0 ≤ h0 ∧ 0 ≤ h1) ∧ h1 ≤ h0 + dh) (hh2 : 400 ≤ h2 ∨ 400 + dh ≤ h2) : ck_Ok pg_O X LX 279 (em_S lo hi h0 dh h1 h2) := by
  intro d σ vs n K R M hd hn hvs hnm hF hf
  obtain ⟨_, _, rfl, rfl, _, _, rfl, ⟨s, rfl, -, u1, u2, -⟩, _, _, rfl, ⟨nn, rfl, -, u3, u4, -⟩, rfl⟩ := hvs
  have u1 : lo ≤ s := u1
  have u2 : s ≤ hi := u2
  have u3 : (-1 : Int) ≤ nn := u3
  have u4 : nn ≤ (999 : Int) := u4
  have hn : n = 245 := hn
  subst hn
  have hP := pg_p2 hF
  have f0 := (hf.2.2 (0, 0, 0, (h0, 400, [(30, 0)])) List.mem_cons_self).2 0 (Int.le_refl _) (Int.le_refl _)
  have f01 : h0 ≤ M 0 0 := f0.2.1
  have f02 : M 0 0 ≤ (400 : Int) := f0.2.2.1
  have f3 := (hf.2.2 (0, 3, 3, (-400, 400, [(31, 0)])) (List.mem_cons_of_mem _ List.mem_cons_self)).2 3 (Int.le_refl _) (Int.le_refl _)
  have f31 : (-400 : Int) ≤ M 0 3 := f3.2.1
  have f32 : M 0 3 ≤ (400 : Int) := f3.2.2.1
  have f5 := (hf.2.2 (0, 5, 5, (1, 400, [(33, 0)])) (List.mem_cons_of_mem _ (List.mem_cons_of_mem _ List.mem_cons_self))).2 5 (Int.le_refl _) (Int.le_refl _)
  have f51 : (1 : Int) ≤ M 0 5 := f5.2.1
  have f52 : M 0 5 ≤ (400 : Int) := f5.2.2.1
  have p9 := ((gm_tyr_s hF pg_p9).2 9 (Int.le_refl _) (Int.le_refl _)).2
  have p92 : M 226 9 ≤ (400 : Int) := p9.2
  have p11 := ((gm_tyr_s hF pg_p11).2 11 (Int.le_refl _) (Int.le_refl _)).2
  have p111 : (0 : Int) ≤ M 226 11 := p11.1
  have s30 : σ 30 = M 0 0 := hnm (30, 0, 0) (by decide +kernel)
  have s31 : σ 31 = M 0 3 := hnm (31, 0, 3) (by decide +kernel)
  have s33 : σ 33 = M 0 5 := hnm (33, 0, 5) (by decide +kernel)
  have s2 : σ 2 = M 226 15 := hnm (2, 226, 15) (by decide +kernel)
  obtain ⟨hJ, ⟨⟨a1, a2, a3⟩, ⟨b1, b2, b3⟩, c1⟩, d1, e1⟩ := hF.2.2.2.2
  generalize hst : M 226 15 = st at *
  have h399 : st ≤ 399 := by omega
  have w1 : gm_w (1293 + 2 * st) = 1293 + 2 * st := w2 (by omega)
  have w2q : gm_w (1293 + 2 * st + 1) = 1293 + 2 * st + 1 := w2 (by omega)
  refine gm_sz (gm_p_load (pc := 0) (i := .aload_n 0) (sr := 2) (j := 0) (by decide +kernel) rfl rfl rfl) ?_
  refine gm_sz (gm_p_get (pc := 1) (ix := 13) (ci := 11) (j := 1) (by decide +kernel) (md_mo hP).1 (md_mo hP).2 (by decide +kernel)) ?_
  rw [if_pos (show gm_isr 11 1 = true by decide +kernel), md_rf hP md_r.1.1]
  refine gm_sz (gm_p_const (pc := 4) (i := .sipush 1293) (v := gm_vi 1293) (by decide +kernel) (by decide +kernel)) ?_
  refine gm_sz (gm_p_const (pc := 7) (i := .iconst 2) (v := gm_vi 2) (by decide +kernel) (by decide +kernel)) ?_
  refine gm_sz (gm_p_load (pc := 8) (i := .aload_n 0) (sr := 2) (j := 0) (by decide +kernel) rfl rfl rfl) ?_
  refine gm_sz (gm_p_get (pc := 9) (ix := 224) (ci := 11) (j := 15) (by decide +kernel) (md_mo hP).1 (md_mo hP).2 (by decide +kernel)) ?_
  rw [if_neg (show ¬ gm_isr 11 15 = true by decide +kernel), show M 226 ((15 : Nat) : Int) = st from hst]
  refine gm_sz (gm_p_bin (pc := 12) (i := .imul) (f := fun x y => x * y) (by decide +kernel) rfl) ?_
  refine gm_sz (gm_p_bin (pc := 13) (i := .iadd) (f := fun x y => x + y) (by decide +kernel) rfl) ?_
  refine gm_sz (gm_p_load (pc := 14) (i := .iload_n 1) (sr := 0) (j := 1) (by decide +kernel) rfl rfl rfl) ?_
  refine gm_sz (gm_p_iast (pc := 15) (by decide +kernel) (md_kd hP md_o.1.2).1.1 (md_kd hP md_o.1.2).1.2 (by rw [w1, (md_kd hP md_o.1.2).2]; omega)) ?_
  rw [w1]
  refine gm_sz (gm_p_load (pc := 16) (i := .aload_n 0) (sr := 2) (j := 0) (by decide +kernel) rfl rfl rfl) ?_
  refine gm_sz (gm_p_get (pc := 17) (ix := 13) (ci := 11) (j := 1) (by decide +kernel) (md_mo hP).1 (md_mo hP).2 (by decide +kernel)) ?_
  rw [if_pos (show gm_isr 11 1 = true by decide +kernel), md_rf hP md_r.1.1]
  refine gm_sz (gm_p_const (pc := 20) (i := .sipush 1293) (v := gm_vi 1293) (by decide +kernel) (by decide +kernel)) ?_
  refine gm_sz (gm_p_const (pc := 23) (i := .iconst 2) (v := gm_vi 2) (by decide +kernel) (by decide +kernel)) ?_
  refine gm_sz (gm_p_load (pc := 24) (i := .aload_n 0) (sr := 2) (j := 0) (by decide +kernel) rfl rfl rfl) ?_
  refine gm_sz (gm_p_get (pc := 25) (ix := 224) (ci := 11) (j := 15) (by decide +kernel) (md_mo hP).1 (md_mo hP).2 (by decide +kernel)) ?_
  rw [if_neg (show ¬ gm_isr 11 15 = true by decide +kernel), show gm_uM M 227 (1293 + 2 * st) s 226 ((15 : Nat) : Int) = st from (uM_ne (by omega)).trans hst]
  refine gm_sz (gm_p_bin (pc := 28) (i := .imul) (f := fun x y => x * y) (by decide +kernel) rfl) ?_
  refine gm_sz (gm_p_bin (pc := 29) (i := .iadd) (f := fun x y => x + y) (by decide +kernel) rfl) ?_
  refine gm_sz (gm_p_const (pc := 30) (i := .iconst 1) (v := gm_vi 1) (by decide +kernel) (by decide +kernel)) ?_
  refine gm_sz (gm_p_bin (pc := 31) (i := .iadd) (f := fun x y => x + y) (by decide +kernel) rfl) ?_
  refine gm_sz (gm_p_load (pc := 32) (i := .iload_n 2) (sr := 0) (j := 2) (by decide +kernel) rfl rfl rfl) ?_
  refine gm_sz (gm_p_iast (pc := 33) (by decide +kernel) (md_kd hP md_o.1.2).1.1 (md_kd hP md_o.1.2).1.2 (by rw [w2q, (md_kd hP md_o.1.2).2]; omega)) ?_
  rw [w2q]
  refine gm_sz (gm_p_load (pc := 34) (i := .aload_n 0) (sr := 2) (j := 0) (by decide +kernel) rfl rfl rfl) ?_
  refine gm_sz (gm_p_dup (pc := 35) (by decide +kernel) (by simp [gm_sort])) ?_
  refine gm_sz (gm_p_get (pc := 36) (ix := 224) (ci := 11) (j := 15) (by decide +kernel) (md_mo hP).1 (md_mo hP).2 (by decide +kernel)) ?_
  rw [if_neg (show ¬ gm_isr 11 15 = true by decide +kernel), show gm_uM (gm_uM M 227 (1293 + 2 * st) s) 227 (1293 + 2 * st + 1) nn 226 ((15 : Nat) : Int) = st from (uM_ne (by omega)).trans ((uM_ne (by omega)).trans hst)]
  refine gm_sz (gm_p_const (pc := 39) (i := .iconst 1) (v := gm_vi 1) (by decide +kernel) (by decide +kernel)) ?_
  refine gm_sz (gm_p_bin (pc := 40) (i := .iadd) (f := fun x y => x + y) (by decide +kernel) rfl) ?_
  refine gm_sz (gm_p_puti (pc := 41) (ix := 224) (ci := 11) (j := 15) (by decide +kernel) (md_mo hP).1 (md_mo hP).2 (by decide +kernel) (by decide +kernel) (Or.inl (by decide +kernel))) ?_
  have hD := jD_s (f := fun j => M 227 (1244 + j)) (g := fun j => em_M M st s nn (M 0 0 + dh) 227 (1244 + j)) (s := s) (h' := M 0 0 + dh) b2 d1 (hk s (M 0 0) u1 u2 f01) (fun i i1 i2 => by
    show em_M M st s nn (M 0 0 + dh) 227 (1244 + (49 + 2 * i)) = M 227 (1244 + (49 + 2 * i))
    unfold em_M
    rw [uM_ne (by omega), uM_ne (by omega), uM_ne (by omega), uM_ne (by omega), uM_ne (by omega), uM_ne (by omega)]) (by
    show em_M M st s nn (M 0 0 + dh) 227 (1244 + (49 + 2 * st)) = s
    unfold em_M
    rw [uM_ne (by omega), uM_ne (by omega), uM_ne (by omega), uM_ne (by omega), uM_ne (by omega)]
    unfold gm_uM
    rw [if_pos ⟨rfl, by omega⟩])
  have hle := jD_le (by omega) hD
  refine gm_Wp_g (M' := em_M M st s nn (M 0 0 + dh)) (fun c i hc => ?_) ?_
  · unfold em_M
    rw [uM_ne (by omega), uM_ne (by omega), uM_ne (by omega)]
    rfl
  have v00 : em_M M st s nn (M 0 0 + dh) 0 0 = M 0 0 + dh := by unfold em_M; rw [uM_ne (by omega), uM_ne (by omega), uM_at]
  have v03 : em_M M st s nn (M 0 0 + dh) 0 3 = M 0 3 - 1 := by unfold em_M; rw [uM_ne (by omega), uM_at]
  have v05 : em_M M st s nn (M 0 0 + dh) 0 5 = M 0 5 - 1 := by unfold em_M; rw [uM_at]
  have v15 : em_M M st s nn (M 0 0 + dh) 226 15 = st + 1 := by unfold em_M; rw [uM_ne (by omega), uM_ne (by omega), uM_ne (by omega), uM_at]
  have vx : ∀ (c : Nat) (j : Int), ¬ (c = 0 ∧ (j = 0 ∨ j = 3 ∨ j = 5)) → ¬ (c = 226 ∧ j = 15) → ¬ (c = 227 ∧ 1293 ≤ j) → em_M M st s nn (M 0 0 + dh) c j = M c j := fun c j x1 x2 x3 => by
    unfold em_M
    rw [uM_ne (by omega), uM_ne (by omega), uM_ne (by omega), uM_ne (by omega), uM_ne (by omega), uM_ne (by omega)]
  refine gm_r_void (pc := 44) (by decide +kernel) (by decide +kernel) ⟨⟨hF.1, hF.2.1, ?_, hF.2.2.2.1, ?_⟩, ?_, _, List.mem_cons_self, trivial, rfl, ⟨(fun _ h => nomatch h), (fun _ h => nomatch h), fun q hq => ?_⟩⟩
  · exact gm_Ft_M (gm_Ft_M (gm_Ft_M (gm_Ft_M (gm_Ft_W (gm_Ft_W hF.2.2.1 pg_ts (by omega) (by omega) (by omega) (by omega)) pg_ts (by omega) (by omega) u3 u4) pg_t15 (by omega) (by omega)) pg_t0 (Int.le_refl _) (Int.le_refl _)) pg_t0 (Int.le_refl _) (Int.le_refl _)) pg_t0 (Int.le_refl _) (Int.le_refl _)
  · refine ⟨j_J_w (fun k j k1 k2 => vx k j (by omega) (by omega) (fun x => by have := k2 x.1; omega)) hJ, ?_⟩
    unfold jX
    rw [v00, v03, v05, v15, vx 0 1 (by omega) (by omega) (by omega), vx 0 2 (by omega) (by omega) (by omega), vx 0 4 (by omega) (by omega) (by omega), vx 0 6 (by omega) (by omega) (by omega), vx 226 9 (by omega) (by omega) (by omega), vx 226 11 (by omega) (by omega) (by omega)]
    refine ⟨⟨⟨a1, by omega, by omega⟩, ⟨b1, by omega, by omega⟩, fun h6 => ?_⟩, hD, jL_cg (fun i i1 i2 => ?_) (fun n n1 _ n3 => ⟨vx _ _ (by omega) (by omega) (by omega), vx _ _ (by omega) (by omega) (by omega)⟩) e1⟩
    · obtain ⟨c2, c3⟩ := c1 h6
      exact ⟨c2, by rw [vx _ _ (by omega) (by omega) (by omega)]; exact c3⟩
    · show em_M M st s nn (M 0 0 + dh) 227 (1244 + (49 + 2 * i)) = M 227 (1244 + (49 + 2 * i))
      unfold em_M
      rw [uM_ne (by omega), uM_ne (by omega), uM_ne (by omega), uM_ne (by omega), uM_ne (by omega), uM_ne (by omega)]
  · show ck_fr em_W 245 K R M 245 K R _
    exact ck_fr_M (lo := 5) (hi := 5) (ck_fr_M (lo := 3) (hi := 3) (ck_fr_M (lo := 0) (hi := 0) (ck_fr_M (lo := 15) (hi := 15) (ck_fr_M (lo := 1293) (hi := 2092) (ck_fr_M (lo := 1293) (hi := 2092) ck_fr_0 (by decide) (by omega) (by omega)) (by decide) (by omega) (by omega)) (by decide) (by omega) (by omega)) (by decide) (by omega) (by omega)) (by decide) (by omega) (by omega)) (by decide) (by omega) (by omega)
  · rcases List.mem_cons.mp hq with rfl | hq
    · exact ck_f1 (Nat.zero_le _) (by rw [v00]; exact ⟨by omega, by omega⟩) (by rw [v00]; exact ⟨by show h1 ≤ _; omega, by show _ ≤ h2; omega, ck_gt1 (by decide) (by rw [s30])⟩)
    rcases List.mem_cons.mp hq with rfl | hq
    · exact ck_f1 (Nat.zero_le _) (by rw [v03]; exact ⟨by omega, by omega⟩) (by rw [v03]; exact ⟨by show (-400 : Int) ≤ _; omega, by show _ ≤ (399 : Int); omega, ck_gt1 (by decide) (by rw [s31]; rfl)⟩)
    rcases List.mem_cons.mp hq with rfl | hq
    · exact ck_f1 (Nat.zero_le _) (by rw [v05]; exact ⟨by omega, by omega⟩) (by rw [v05]; exact ⟨by show (0 : Int) ≤ _; omega, by show _ ≤ (399 : Int); omega, ck_gt1 (by decide) (by rw [s33]; rfl)⟩)
    rw [List.mem_singleton.mp hq]
    exact ck_f1 (show (226 : Nat) ≤ 245 by decide) (by rw [v15]; exact ⟨by omega, by omega⟩) (by rw [v15]; exact ⟨by show (1 : Int) ≤ _; omega, by show _ ≤ (400 : Int); omega, ck_gt1 (by decide) (by rw [s2])⟩)
/-- GlacierMailModel.emits -/
noncomputable def pg_em0 : ck_Sum := em_S (-1) 10 0 1 1 400
noncomputable def pg_em1 : ck_Sum := em_S 11 13 2 (-1) 1 399
noncomputable def pg_em2 : ck_Sum := em_S 14 14 1 0 1 400
noncomputable def pg_em3 : ck_Sum := em_S 15 16 2 (-1) 1 399
theorem pg_em0_s : ck_Ok pg_O X LX 279 pg_em0 := em_s (by decide) (fun s h h1 h2 h3 => ⟨fun _ => ⟨h3, rfl⟩, fun e => by omega, fun e => by omega⟩) (by decide) (by decide)
theorem pg_em1_s : ck_Ok pg_O X LX 279 pg_em1 := em_s (by decide) (fun s h h1 h2 h3 => ⟨fun e => by omega, fun e => by omega, fun _ _ => ⟨h3, rfl⟩⟩) (by decide) (by decide)
theorem pg_em2_s : ck_Ok pg_O X LX 279 pg_em2 := em_s (by decide) (fun s h h1 h2 h3 => ⟨fun e => by omega, fun _ => ⟨h3, by omega⟩, fun _ e => absurd (by omega) e⟩) (by decide) (by decide)
theorem pg_em3_s : ck_Ok pg_O X LX 279 pg_em3 := em_s (by decide) (fun s h h1 h2 h3 => ⟨fun e => by omega, fun e => by omega, fun _ _ => ⟨h3, rfl⟩⟩) (by decide) (by decide)
end EM
