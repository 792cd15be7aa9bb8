/-! A LINE OF THE LAW that begins, and one that ends, by hand: where its steps begin and end is written down. -/
section RL
variable {X : Int → Int} {LX : Nat} {E : List (Nat × List ck_Sum)} {d : Nat} {W : List (Nat × Int × Int) × List (Nat × Int)} {outs : List ck_Oc} {σ σ0 : Nat → Int} {K0 : gm_K} {R0 : gm_R} {M0 : gm_M}
noncomputable def rl_A (n : Int) : ck_AL := [some (.inr (.inr (.inl 226))), some (.inl (ck_one n)), some (.inl (ck_one (1245 + 4 * n)))]
noncomputable def rl_F1 (n : Int) (F : ck_F) : ck_F := (F.1, F.2.1, (0, 0, 0, ck_one 0) :: (0, 6, 6, ck_one 1) :: ck_cws [(227, 1247 + 4 * n, 1247 + 4 * n), (0, 0, 1), (0, 6, 6)] F.2.2)
noncomputable def rl_F2 (n : Int) (F : ck_F) : ck_F := (F.1, F.2.1, (0, 0, 0, ck_one 0) :: (0, 2, 2, ck_one (n + 1)) :: (0, 6, 6, ck_one 0) :: ck_cws [(227, 1248 + 4 * n, 1248 + 4 * n), (0, 0, 2), (0, 6, 6)] F.2.2)
noncomputable def rl_M1 (M : gm_M) (n st : Int) : gm_M := gm_uM (gm_uM (gm_uM (gm_uM M 227 (1247 + 4 * n) st) 0 1 st) 0 0 0) 0 6 1
noncomputable def rl_M2 (M : gm_M) (n st : Int) : gm_M := gm_uM (gm_uM (gm_uM (gm_uM (gm_uM M 227 (1248 + 4 * n) st) 0 1 st) 0 0 0) 0 2 (n + 1)) 0 6 0
theorem pg_tln {n : Int} (hn : 0 ≤ n ∧ n < 12) : gm_tyv pg_O 227 (1247 + 4 * n) (1247 + 4 * n) 0 400 = true ∧ gm_tyv pg_O 227 (1248 + 4 * n) (1248 + 4 * n) 0 400 = true := by
  obtain ⟨m, rfl⟩ : ∃ m : Nat, n = (m : Int) := ⟨n.toNat, by omega⟩
  have := List.all_eq_true.mp pg_tl m (List.mem_range.mpr (by omega))
  rwa [Bool.and_eq_true] at this
theorem rl_111 {n : Int} {F : ck_F} {f mc ms : Nat} {cuts : List (Nat × ck_C)} {ch : List ck_H} (hcu : ck_cu cuts = true) (hE : ck_nmu pg_O ∧ ck_OkE pg_O X LX E) (hσ : ∀ s, s < 100 → σ s = σ0 s) (hn : 0 ≤ n ∧ n < 12) (hf2 : ck_fi F 0 2 2 = some (ck_one n)) (hw : ck_okW W.1 245 227 (1247 + 4 * n) (1247 + 4 * n) = true ∧ ck_okW W.1 245 0 0 0 = true ∧ ck_okW W.1 245 0 1 1 = true ∧ ck_okW W.1 245 0 6 6 = true)
    (hgo : ck_go pg_O none [] E 274 d 245 W outs cuts f false ch mc ms 123 (rl_A n) [] 245 (rl_F1 n F) = true) (hch : ∀ h ∈ ch, (h.1, h.2.1) ∈ cuts ∧ ck_Hy pg_O X LX 274 d W 245 K0 R0 M0 (ck_Q pg_O σ0 W 245 K0 R0 M0 outs) σ h) : ck_Hy pg_O X LX 274 d W 245 K0 R0 M0 (ck_Q pg_O σ0 W 245 K0 R0 M0 outs) σ (111, (rl_A n, F, 0, .inl 2, true), mc, ms, 245) := by
  intro v _ bc bs L K R M hb1 hb2 hS _
  refine gm_Wp_wk (Nat.le_refl _) hb1 hb2 ?_
  obtain ⟨hF, hl, -, hf, hfr⟩ := hS
  have hf : ck_gf σ F 245 K R M := hf
  have hl : ck_gl σ (rl_A n) L := hl
  have hF : gm_Fx pg_O 245 K R M := hF
  have hfr : ck_fr W 245 K0 R0 M0 245 K R M := hfr
  have hP := pg_p2 hF
  obtain ⟨u0, l0, g0⟩ := hl.2 0 (.inr (.inr (.inl 226))) rfl
  cases g0
  obtain ⟨u2, l2, x, rfl, -, x1, x2, -⟩ := hl.2 2 (.inl (ck_one (1245 + 4 * n))) rfl
  have x1 : 1245 + 4 * n ≤ x := x1
  have x2 : x ≤ 1245 + 4 * n := x2
  have x3 : x = 1245 + 4 * n := by omega
  subst x3
  have q2 := ((ck_fi_s hf hf2).2 2 (Int.le_refl _) (Int.le_refl _)).2
  have q21 : n ≤ M 0 2 := q2.1
  have q22 : M 0 2 ≤ n := q2.2.1
  replace q2 : M 0 2 = n := by omega
  obtain ⟨hJ, ⟨⟨a1, a2, a3⟩, ⟨b1, b2, b3⟩, c1⟩, d1, e1⟩ := hF.2.2.2.2
  generalize hst : M 226 15 = st at *
  have w1 : gm_w (1245 + 4 * n + 2) = 1247 + 4 * n := (w2 (by omega)).trans (by omega)
  refine gm_sz (gm_p_load (pc := 111) (i := .aload_n 0) (sr := 2) (j := 0) (by decide +kernel) rfl l0 rfl) ?_
  refine gm_sz (gm_p_get (pc := 112) (ix := 13) (ci := 11) (j := 1) (by decide +kernel) (md_mo hP).1 (md_mo hP).2 (by decide +kernel)) ?_
  rw [if_pos (show gm_isr 11 1 = true by decide +kernel), md_rf hP md_r.1.1]
  refine gm_sz (gm_p_load (pc := 115) (i := .iload_n 2) (sr := 0) (j := 2) (by decide +kernel) rfl l2 rfl) ?_
  refine gm_sz (gm_p_const (pc := 116) (i := .iconst 2) (v := gm_vi 2) (by decide +kernel) (by decide +kernel)) ?_
  refine gm_sz (gm_p_bin (pc := 117) (i := .iadd) (f := fun x y => x + y) (by decide +kernel) rfl) ?_
  refine gm_sz (gm_p_load (pc := 118) (i := .aload_n 0) (sr := 2) (j := 0) (by decide +kernel) rfl l0 rfl) ?_
  refine gm_sz (gm_p_get (pc := 119) (ix := 224) (ci := 11) (j := 15) (by decide +kernel) (md_mo hP).1 (md_mo hP).2 (by decide +kernel)) ?_
  rw [if_neg (show ¬ gm_isr 11 15 = true by decide +kernel), show M 226 ((15 : Nat) : Int) = st from hst]
  refine gm_sz (gm_p_iast (pc := 122) (by decide +kernel) (md_kd hP md_o.1.2).1.1 (md_kd hP md_o.1.2).1.2 (by rw [w1, (md_kd hP md_o.1.2).2]; omega)) ?_
  rw [w1]
  have v1 : rl_M1 M n st 0 1 = st := by unfold rl_M1; rw [uM_ne (by omega), uM_ne (by omega), uM_at]
  have v0 : rl_M1 M n st 0 0 = 0 := by unfold rl_M1; rw [uM_ne (by omega), uM_at]
  have v6 : rl_M1 M n st 0 6 = 1 := by unfold rl_M1; rw [uM_at]
  have vx : ∀ (c : Nat) (j : Int), ¬ (c = 0 ∧ (j = 0 ∨ j = 1 ∨ j = 6)) → ¬ (c = 227 ∧ j = 1247 + 4 * n) → rl_M1 M n st c j = M c j := fun c j x1 x2 => by
    unfold rl_M1
    rw [uM_ne (by omega), uM_ne (by omega), uM_ne (by omega), uM_ne (by omega)]
  refine gm_Wp_g (M' := rl_M1 M n st) (fun c i hc => by unfold rl_M1; rw [uM_ne (by omega), uM_ne (by omega), uM_ne (by omega)]) ?_
  refine ck_go_s (σ0 := σ0) hcu hE ck_X0 ck_l0 f false ch mc ms 123 (rl_A n) [] 245 (rl_F1 n F) σ L [] K R _ hσ hch ⟨⟨hF.1, hF.2.1, ?_, hF.2.2.2.1, ?_⟩, hl, rfl, ⟨hf.1, hf.2.1, fun q hq => ?_⟩, ?_⟩ hgo
  · exact gm_Ft_M (gm_Ft_M (gm_Ft_M (gm_Ft_M hF.2.2.1 (pg_tln hn).1 (by omega) (by omega)) pg_t0 (Int.le_refl _) (Int.le_refl _)) pg_t0 (Int.le_refl _) (Int.le_refl _)) pg_t0 (Int.le_refl _) (Int.le_refl _)
  · refine ⟨j_J_w (fun k j k1 k2 => vx k j (by omega) (fun x => by have := k2 x.1; omega)) hJ, ?_⟩
    unfold jX
    rw [v0, v1, v6, vx 0 2 (by omega) (by omega), vx 0 3 (by omega) (by omega), vx 0 4 (by omega) (by omega), vx 0 5 (by omega) (by omega), vx 226 9 (by omega) (by omega), vx 226 11 (by omega) (by omega), vx 226 15 (by omega) (by omega), hst]
    refine ⟨⟨⟨a1, a2, a3⟩, ⟨by omega, Int.le_refl _, b3⟩, fun _ => ⟨by rw [q2]; exact hn, ?_⟩⟩, jD_0, jL_e b2 (jL_cg (fun i i1 i2 => vx _ _ (by omega) (by omega)) (fun m m1 m2 m3 => ⟨vx _ _ (by omega) (by omega), vx _ _ (by omega) (by omega)⟩) e1)⟩
    rw [q2, show (1244 : Int) + (3 + 4 * n) = 1247 + 4 * n by omega]
    unfold rl_M1
    rw [uM_ne (by omega), uM_ne (by omega), uM_ne (by omega), uM_at]
  · have hq : q ∈ (rl_F1 n F).2.2 := hq
    unfold rl_F1 at hq
    rcases List.mem_cons.mp hq with rfl | hq
    · exact ck_f1 (Nat.zero_le _) (by rw [v0]; exact ⟨by decide, by decide⟩) (by rw [v0]; exact ck_one_s 0)
    rcases List.mem_cons.mp hq with rfl | hq
    · exact ck_f1 (Nat.zero_le _) (by rw [v6]; exact ⟨by decide, by decide⟩) (by rw [v6]; exact ck_one_s 1)
    exact ck_gf_cws hf (fun c j hx => vx c j (fun e => by
      obtain ⟨rfl, e⟩ := e
      have z1 := hx (0, 0, 1) (by simp)
      have z2 := hx (0, 6, 6) (by simp)
      dsimp only at z1 z2
      omega) (fun e => hx (227, 1247 + 4 * n, 1247 + 4 * n) (by simp) ⟨e.1.symm, by dsimp only; omega, by dsimp only; omega⟩)) q hq
  · exact ck_fr_M (ck_fr_M (ck_fr_M (ck_fr_M hfr (hw.1) (Int.le_refl _) (Int.le_refl _)) (hw.2.2.1) (Int.le_refl _) (Int.le_refl _)) (hw.2.1) (Int.le_refl _) (Int.le_refl _)) (hw.2.2.2) (Int.le_refl _) (Int.le_refl _)
theorem rl_147 {n : Int} {F : ck_F} {f mc ms : Nat} {cuts : List (Nat × ck_C)} {ch : List ck_H} (hcu : ck_cu cuts = true) (hE : ck_nmu pg_O ∧ ck_OkE pg_O X LX E) (hσ : ∀ s, s < 100 → σ s = σ0 s) (hn : 0 ≤ n ∧ n < 12) (hf2 : ck_fi F 0 2 2 = some (ck_one n)) (hf6 : ck_fi F 0 6 6 = some (ck_one 1)) (hw : ck_okW W.1 245 227 (1248 + 4 * n) (1248 + 4 * n) = true ∧ ck_okW W.1 245 0 0 0 = true ∧ ck_okW W.1 245 0 1 1 = true ∧ ck_okW W.1 245 0 2 2 = true ∧ ck_okW W.1 245 0 6 6 = true)
    (hgo : ck_go pg_O none [] E 274 d 245 W outs cuts f false ch mc ms 159 (rl_A n) [] 245 (rl_F2 n F) = true) (hch : ∀ h ∈ ch, (h.1, h.2.1) ∈ cuts ∧ ck_Hy pg_O X LX 274 d W 245 K0 R0 M0 (ck_Q pg_O σ0 W 245 K0 R0 M0 outs) σ h) : ck_Hy pg_O X LX 274 d W 245 K0 R0 M0 (ck_Q pg_O σ0 W 245 K0 R0 M0 outs) σ (147, (rl_A n, F, 0, .inl 2, true), mc, ms, 245) := by
  intro v _ bc bs L K R M hb1 hb2 hS _
  refine gm_Wp_wk (Nat.le_refl _) hb1 hb2 ?_
  obtain ⟨hF, hl, -, hf, hfr⟩ := hS
  have hf : ck_gf σ F 245 K R M := hf
  have hl : ck_gl σ (rl_A n) L := hl
  have hF : gm_Fx pg_O 245 K R M := hF
  have hfr : ck_fr W 245 K0 R0 M0 245 K R M := hfr
  have hP := pg_p2 hF
  obtain ⟨u0, l0, g0⟩ := hl.2 0 (.inr (.inr (.inl 226))) rfl
  cases g0
  obtain ⟨u2, l2, x, rfl, -, x1, x2, -⟩ := hl.2 2 (.inl (ck_one (1245 + 4 * n))) rfl
  have x1 : 1245 + 4 * n ≤ x := x1
  have x2 : x ≤ 1245 + 4 * n := x2
  have x3 : x = 1245 + 4 * n := by omega
  subst x3
  have q2 := ((ck_fi_s hf hf2).2 2 (Int.le_refl _) (Int.le_refl _)).2
  have q21 : n ≤ M 0 2 := q2.1
  have q22 : M 0 2 ≤ n := q2.2.1
  replace q2 : M 0 2 = n := by omega
  have q6 := ((ck_fi_s hf hf6).2 6 (Int.le_refl _) (Int.le_refl _)).2
  have q61 : (1 : Int) ≤ M 0 6 := q6.1
  have q62 : M 0 6 ≤ (1 : Int) := q6.2.1
  obtain ⟨hJ, ⟨⟨a1, a2, a3⟩, ⟨b1, b2, b3⟩, c1⟩, d1, e1⟩ := hF.2.2.2.2
  generalize hst : M 226 15 = st at *
  have w1 : gm_w (1245 + 4 * n + 3) = 1248 + 4 * n := (w2 (by omega)).trans (by omega)
  refine gm_sz (gm_p_load (pc := 147) (i := .aload_n 0) (sr := 2) (j := 0) (by decide +kernel) rfl l0 rfl) ?_
  refine gm_sz (gm_p_get (pc := 148) (ix := 13) (ci := 11) (j := 1) (by decide +kernel) (md_mo hP).1 (md_mo hP).2 (by decide +kernel)) ?_
  rw [if_pos (show gm_isr 11 1 = true by decide +kernel), md_rf hP md_r.1.1]
  refine gm_sz (gm_p_load (pc := 151) (i := .iload_n 2) (sr := 0) (j := 2) (by decide +kernel) rfl l2 rfl) ?_
  refine gm_sz (gm_p_const (pc := 152) (i := .iconst 3) (v := gm_vi 3) (by decide +kernel) (by decide +kernel)) ?_
  refine gm_sz (gm_p_bin (pc := 153) (i := .iadd) (f := fun x y => x + y) (by decide +kernel) rfl) ?_
  refine gm_sz (gm_p_load (pc := 154) (i := .aload_n 0) (sr := 2) (j := 0) (by decide +kernel) rfl l0 rfl) ?_
  refine gm_sz (gm_p_get (pc := 155) (ix := 224) (ci := 11) (j := 15) (by decide +kernel) (md_mo hP).1 (md_mo hP).2 (by decide +kernel)) ?_
  rw [if_neg (show ¬ gm_isr 11 15 = true by decide +kernel), show M 226 ((15 : Nat) : Int) = st from hst]
  refine gm_sz (gm_p_iast (pc := 158) (by decide +kernel) (md_kd hP md_o.1.2).1.1 (md_kd hP md_o.1.2).1.2 (by rw [w1, (md_kd hP md_o.1.2).2]; omega)) ?_
  rw [w1]
  have v1 : rl_M2 M n st 0 1 = st := by unfold rl_M2; rw [uM_ne (by omega), uM_ne (by omega), uM_ne (by omega), uM_at]
  have v0 : rl_M2 M n st 0 0 = 0 := by unfold rl_M2; rw [uM_ne (by omega), uM_ne (by omega), uM_at]
  have v6 : rl_M2 M n st 0 6 = 0 := by unfold rl_M2; rw [uM_at]
  have v2 : rl_M2 M n st 0 2 = n + 1 := by unfold rl_M2; rw [uM_ne (by omega), uM_at]
  have vx : ∀ (c : Nat) (j : Int), ¬ (c = 0 ∧ (j = 0 ∨ j = 1 ∨ j = 2 ∨ j = 6)) → ¬ (c = 227 ∧ j = 1248 + 4 * n) → rl_M2 M n st c j = M c j := fun c j x1 x2 => by
    unfold rl_M2
    rw [uM_ne (by omega), uM_ne (by omega), uM_ne (by omega), uM_ne (by omega), uM_ne (by omega)]
  refine gm_Wp_g (M' := rl_M2 M n st) (fun c i hc => by unfold rl_M2; rw [uM_ne (by omega), uM_ne (by omega), uM_ne (by omega), uM_ne (by omega)]) ?_
  refine ck_go_s (σ0 := σ0) hcu hE ck_X0 ck_l0 f false ch mc ms 159 (rl_A n) [] 245 (rl_F2 n F) σ L [] K R _ hσ hch ⟨⟨hF.1, hF.2.1, ?_, hF.2.2.2.1, ?_⟩, hl, rfl, ⟨hf.1, hf.2.1, fun q hq => ?_⟩, ?_⟩ hgo
  · exact gm_Ft_M (gm_Ft_M (gm_Ft_M (gm_Ft_M (gm_Ft_M hF.2.2.1 (pg_tln hn).2 (by omega) (by omega)) pg_t0 (Int.le_refl _) (Int.le_refl _)) pg_t0 (Int.le_refl _) (Int.le_refl _)) pg_t0 (Int.le_refl _) (Int.le_refl _)) pg_t0 (Int.le_refl _) (Int.le_refl _)
  · refine ⟨j_J_w (fun k j k1 k2 => vx k j (by omega) (fun x => by have := k2 x.1; omega)) hJ, ?_⟩
    unfold jX
    rw [v0, v1, v2, v6, vx 0 3 (by omega) (by omega), vx 0 4 (by omega) (by omega), vx 0 5 (by omega) (by omega), vx 226 9 (by omega) (by omega), vx 226 11 (by omega) (by omega), vx 226 15 (by omega) (by omega), hst]
    rw [q2] at c1 e1
    refine ⟨⟨⟨a1, a2, a3⟩, ⟨by omega, Int.le_refl _, b3⟩, fun h => absurd h (by decide)⟩, jD_0, jL_s (f := fun j => M 227 (1244 + j)) hn.1 b1 b2 b3 e1 d1 (c1 (by omega)).2 ?_ (fun j hj => vx _ _ (by omega) (by omega)) hn.2⟩
    show rl_M2 M n st 227 (1244 + (4 + 4 * n)) = st
    rw [show (1244 : Int) + (4 + 4 * n) = 1248 + 4 * n by omega]
    unfold rl_M2
    rw [uM_ne (by omega), uM_ne (by omega), uM_ne (by omega), uM_ne (by omega), uM_at]
  · have hq : q ∈ (rl_F2 n F).2.2 := hq
    unfold rl_F2 at hq
    rcases List.mem_cons.mp hq with rfl | hq
    · exact ck_f1 (Nat.zero_le _) (by rw [v0]; exact ⟨by decide, by decide⟩) (by rw [v0]; exact ck_one_s 0)
    rcases List.mem_cons.mp hq with rfl | hq
    · exact ck_f1 (Nat.zero_le _) (by rw [v2]; exact ⟨by omega, by omega⟩) (by rw [v2]; exact ck_one_s _)
    rcases List.mem_cons.mp hq with rfl | hq
    · exact ck_f1 (Nat.zero_le _) (by rw [v6]; exact ⟨by decide, by decide⟩) (by rw [v6]; exact ck_one_s 0)
    exact ck_gf_cws hf (fun c j hx => vx c j (fun e => by
      obtain ⟨rfl, e⟩ := e
      have z1 := hx (0, 0, 2) (by simp)
      have z2 := hx (0, 6, 6) (by simp)
      dsimp only at z1 z2
      omega) (fun e => hx (227, 1248 + 4 * n, 1248 + 4 * n) (by simp) ⟨e.1.symm, by dsimp only; omega, by dsimp only; omega⟩)) q hq
  · exact ck_fr_M (ck_fr_M (ck_fr_M (ck_fr_M (ck_fr_M hfr (hw.1) (Int.le_refl _) (Int.le_refl _)) (hw.2.2.1) (Int.le_refl _) (Int.le_refl _)) (hw.2.1) (Int.le_refl _) (Int.le_refl _)) (hw.2.2.2.1) (Int.le_refl _) (Int.le_refl _)) (hw.2.2.2.2) (Int.le_refl _) (Int.le_refl _)
end RL
