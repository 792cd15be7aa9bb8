/-! THE TRAVELLERS under a law: steps; FLOWs that are kept stay right. -/
section ST26
variable {X : Int → Int} {LX n n1 n2 : Nat} {K K1 K2 : gm_K} {R R2 : gm_R} {M M1 M2 : gm_M} {N h : Int → Int} {lw : Option (List lln)} {ls : List lln} {φ : Int → Int → Int → Int} {C Ln G : Int → Int} {NC : Nat}
noncomputable def q35n : ck_Sum := ((12, 0, 0), 249, [.inr (.inr (.inl 200)), .inl ((-1), (-1), []), .inl ((-1), 98, []), .inl ((-1), 299, [])], ([], [(3, 8, 246)], []), ([(200, 6, 6), (204, 0, 9), (205, 0, 14849)], []), [(.inr (some (.inl (0, 30, []))), 249, ([], [], [(200, 6, 6, ck_one 0)]))])
theorem q35n_s (hS : ck_Ok p2_OL X LX 35 q35p) : ck_Ok qL_O X LX 35 q35n := by
  intro d σ vs n K R M hd hn hvs hσ hF hf
  obtain ⟨v0, w0, rfl, g0, v1, w1, rfl, ⟨l, rfl, hl, l0, l1, -⟩, v2, w2, rfl, ⟨r, rfl, hr, r0, r1, -⟩, v3, w3, rfl, ⟨y, rfl, hy, y0, y1, -⟩, g4⟩ := hvs
  have g4 : w3 = [] := g4
  subst g4
  have g0 : v0 = gm_vr 200 := g0
  subst g0
  have l0 : (-1 : Int) ≤ l := l0
  have l1 : l ≤ (-1 : Int) := l1
  have r0 : (-1 : Int) ≤ r := r0
  have r1 : r ≤ (98 : Int) := r1
  have y0 : (-1 : Int) ≤ y := y0
  have y1 : y ≤ (299 : Int) := y1
  have hd : 12 ≤ d := hd
  have hn : n = 249 := hn
  subst hn
  have F0 := qL_p hF
  have h8 : R 3 8 = 246 := (hf.2.1 (3, 8, 246) List.mem_cons_self).2
  have hrow := hS d σ [gm_vr 200, gm_vi l, gm_vi r, gm_vi y] 249 K R M (show 2 ≤ d by omega) rfl ⟨_, _, rfl, rfl, _, _, rfl, ⟨l, rfl, hl, (show (-2147483648 : Int) ≤ l by omega), (show l ≤ (2147483647 : Int) by omega), fun _ h => nomatch h⟩, _, _, rfl, ⟨r, rfl, hr, (show (-2147483648 : Int) ≤ r by omega), (show r ≤ (2147483647 : Int) by omega), fun _ h => nomatch h⟩, _, _, rfl, ⟨y, rfl, hy, (show (-2147483648 : Int) ≤ y by omega), (show y ≤ (2147483647 : Int) by omega), fun _ h => nomatch h⟩, rfl⟩ (fun q hq => hσ q (List.mem_append_left _ hq)) F0 hf
  obtain ⟨hJ, N, ls, hq, hk, hw, hlr⟩ := hF.2.2.2.2
  obtain ⟨NC, C, Ln, hcc, hlb⟩ := qL_cc hF h8 hw hlr
  have hE : E0 249 K R := e0F (pl_o F0)
  have hT := ti_x (cstF (pl_o F0)) hq.2.1
  have hfun : gm_Wp X LX d 0 0 35 0 (gm_ent 35 [gm_vr 200, gm_vi l, gm_vi r, gm_vi y]) [] 249 K R M (fun o n1 K1 R1 M1 => K1 = K ∧ FIC NC C Ln (some ls) N (hts (N 13)) M1) := by
    obtain ⟨h8', hL, -⟩ := hcc.2 ls rfl
    have hl1 : l = -1 := by omega
    by_cases h6 : y = -1
    · refine ic_flm (h := fun y => if y < 0 then 0 else hts (N 13) y) (sp := spd N) hE hL h8' hq.1.1.1 d 0 0 M _ l r y hd hl1 ⟨r0, by omega⟩ h6 (if_pos (by omega)) ⟨hT.1, hT.2.1, fun z z0 z1 => ?_, hT.2.2.2⟩ ⟨hlb, hk⟩ (fun M2 v _ hI => ⟨rfl, fun ls2 e => by cases e; exact hI⟩)
      show M 201 z = (if z < 0 then 0 else hts (N 13) z) ∧ (0 ≤ (if z < 0 then 0 else hts (N 13) z) ∧ (if z < 0 then 0 else hts (N 13) z) ≤ 9) ∧ _
      rw [if_neg (by omega)]
      exact hT.2.2.1 z z0 z1
    · exact ic_fln (sp := spd N) hE hL h8' hq.1.1.1 d 0 0 M _ l r y hd hl1 ⟨r0, by omega⟩ ⟨by omega, by omega⟩ hT ⟨hlb, hk⟩ (fun M2 v _ hI => ⟨rfl, fun ls2 e => by cases e; exact hI⟩)
  refine gm_Wp_mono (fun o n2 K2 R2 M2 hh => ?_) (gm_Wp_and hrow hfun)
  obtain ⟨⟨hF2, hfr, hoc⟩, o3, n3, K3, R3, M3, ⟨rfl, hI⟩, -, hdt⟩ := hh
  have hKK : ∀ k, 1 ≤ k → k ≤ 249 → K3 k = K2 k := fun k _ hk => (hfr.2.1 k hk).symm
  refine ⟨qL_b hF (by decide) hF2 hfr (fun N2 ls2 hq2 hk2 hw2 hlr2 => ?_), hfr, hoc⟩
  have eN : N2 = N := hq2.2.1.1.symm.trans hq.2.1.1
  subst eN
  have ea : aphx (some ls2) N2 (hts (N2 13)) = aphx (some ls) N2 (hts (N2 13)) := aphx_u hlr2 hlr
  have e1 : ∀ k j, k ≤ 249 → ¬ (k = 200 ∨ k = 204 ∨ k = 205) → M2 k j = M k j := fun k j hk h => hfr.2.2.1 k j hk (fun w hw hh => by
    have := of_decide_eq_true (List.all_eq_true.mp (show q35p.2.2.2.2.1.1.all (fun w => decide (w.1 = 200 ∨ w.1 = 204 ∨ w.1 = 205)) = true by decide) w hw)
    omega)
  refine ⟨?_, ?_⟩
  · rw [e1 1 15 (by decide) (by decide)]
    refine hq2.2.2.imp_right fun hh => ⟨hh.1, ends_x hh.2 (fun k j hk => e1 k j (by omega) (by omega))⟩
  · rw [ea]
    exact kfl_dt (dt_sym hdt) (by decide) hKK (pl_o hF2) (hI ls rfl).2
noncomputable def q43n (c : Nat) : ck_Sum := ((1, 0, 0), 249, [.inr (.inr (.inl c))], ([], [], [(c, 5, 5, (-1, 128, [])), (c, 7, 7, (0, 299, []))]), ([(c, 5, 5), (c, 8, 8)], []), [(.inr none, 249, ([], [], [(c, 5, 5, (-1, 300, []))]))])
theorem nfl_300n (hN : NR N) {y wo r : Int} (hr : -1 ≤ r ∧ r ≤ 128) : -1 ≤ nfl N y wo (N 5).toNat r ∧ nfl N y wo (N 5).toNat r ≤ 300 := by
  have h5 := hN.2.1.2.1
  have := nfl_b (N := N) (y := y) (wo := wo) (r := r) (fun f f0 f1 => (hN.2.2.1 f f0 f1).2.2) (N 5).toNat (by omega)
  omega
theorem q43n_206 (hS : ck_Ok p2_OL X LX 43 (q43p 206)) : ck_Ok qL_O X LX 43 (q43n 206) := by
  intro d σ vs n K R M hd hn hvs hσ hF hf
  obtain ⟨v0, w0, rfl, g0, g4⟩ := hvs
  have g4 : w0 = [] := g4
  subst g4
  have g0 : v0 = gm_vr 206 := g0
  subst g0
  have hn : n = 249 := hn
  subst hn
  have F0 := pl_o (qL_p hF)
  have hrow := hS d σ [gm_vr 206] 249 K R M hd rfl ⟨_, _, rfl, rfl, rfl⟩ (fun q hq => hσ q (List.mem_append_left _ hq)) (qL_p hF) ⟨(fun _ h => nomatch h), (fun _ h => nomatch h), (fun _ h => nomatch h)⟩
  have f4 := ((gm_tyr_s F0 (show gm_tyr p2_O 206 4 4 = some (-1, 7) by decide +kernel)).2 4 (Int.le_refl _) (Int.le_refl _)).1
  have f5 := (hf.2.2 (206, 5, 5, (-1, 128, [])) List.mem_cons_self).2 5 (Int.le_refl _) (Int.le_refl _)
  have f7 := (hf.2.2 (206, 7, 7, (0, 299, [])) (List.mem_cons_of_mem _ List.mem_cons_self)).2 7 (Int.le_refl _) (Int.le_refl _)
  have a5 : -1 ≤ M 206 5 ∧ M 206 5 ≤ 128 := ⟨f5.2.1, f5.2.2.1⟩
  have a7 : 0 ≤ M 206 7 ∧ M 206 7 ≤ 299 := ⟨f7.2.1, f7.2.2.1⟩
  have hq : ∃ N ls, qC (some ls) N M := by
    obtain ⟨hJ, N, ls, hq, -⟩ := hF.2.2.2.2
    exact ⟨N, ls, hq⟩
  obtain ⟨N, ls, hq⟩ := hq
  have hfun := wy_c43_206 (X := X) (LX := LX) (bc := 0) (bs := 0) (Q := fun o n1 K1 R1 M1 => K1 = K ∧ -1 ≤ M1 206 5 ∧ M1 206 5 ≤ 300) (wo := M 206 4) (y := M 206 7) (r0 := M 206 5) hd (e0F F0) (ti_x (cstF F0) hq.2.1) hq.1.1.1 rfl rfl rfl ⟨a7.1, by omega⟩ f4 ⟨by omega, by omega⟩ (fun M2 hfr h5 => ⟨rfl, by rw [h5]; exact nfl_300n hq.1.1.1 a5⟩)
  refine gm_Wp_mono (fun o n2 K2 R2 M2 hh => ?_) (gm_Wp_and hrow hfun)
  obtain ⟨⟨hF2, hfr, oc, hoc, ho, hn2, -⟩, o3, n3, K3, R3, M3, ⟨rfl, hI⟩, -, hdt⟩ := hh
  have hKK : ∀ k, 1 ≤ k → k ≤ 249 → K3 k = K2 k := fun k _ hk => (hfr.2.1 k hk).symm
  have e1 : ∀ k j, k ≤ 249 → ¬ k = 206 → M2 k j = M k j := fun k j hk h => hfr.2.2.1 k j hk (fun w hw hh => by
    have := of_decide_eq_true (List.all_eq_true.mp (show (q43p 206).2.2.2.2.1.1.all (fun w => decide (w.1 = 206)) = true by decide) w hw)
    omega)
  have e5 : M2 206 5 = gm_w (M3 206 5) := dw_f (dt_sym hdt) (by decide) hKK (pl_o hF2) (show tyF 206 5 5 = true by decide +kernel)
  rw [dw_i ⟨by omega, by omega⟩] at e5
  have ho2 : oc = (.inr none, 249, ([], [], [])) := List.mem_singleton.mp hoc
  subst ho2
  refine ⟨qL_b hF (by decide) hF2 hfr (fun N2 ls2 hq2 hk2 hw2 hlr2 => ⟨?_, ?_⟩), hfr, _, List.mem_cons_self, ho, hn2, (fun _ h => nomatch h), (fun _ h => nomatch h), fun q hq9 => ?_⟩
  · rw [e1 1 15 (by decide) (by decide)]
    exact hq2.2.2.imp_right fun hh => ⟨hh.1, ends_x hh.2 (fun k j hk => e1 k j (by omega) (by omega))⟩
  · exact kfl_b hk2 ⟨by have := hq2.1.1.1.1.1; omega, by have := hq2.1.1.1.1.2.1; omega⟩ (e1 200 6 (by decide) (by decide)) (fun j _ _ => e1 205 j (by decide) (by decide))
  · rw [List.mem_singleton.mp hq9]
    refine ⟨show 206 ≤ n2 by have := hfr.1; omega, fun j j1 j2 => ?_⟩
    have ej : j = 5 := Int.le_antisymm j2 j1
    subst ej
    show gm_ir (M2 206 5) ∧ ck_gi σ (-1, 300, []) (M2 206 5)
    rw [e5]
    exact ⟨⟨by omega, by omega⟩, hI.1, hI.2, fun _ h => nomatch h⟩
theorem q43n_207 (hS : ck_Ok p2_OL X LX 43 (q43p 207)) : ck_Ok qL_O X LX 43 (q43n 207) := by
  intro d σ vs n K R M hd hn hvs hσ hF hf
  obtain ⟨v0, w0, rfl, g0, g4⟩ := hvs
  have g4 : w0 = [] := g4
  subst g4
  have g0 : v0 = gm_vr 207 := g0
  subst g0
  have hn : n = 249 := hn
  subst hn
  have F0 := pl_o (qL_p hF)
  have hrow := hS d σ [gm_vr 207] 249 K R M hd rfl ⟨_, _, rfl, rfl, rfl⟩ (fun q hq => hσ q (List.mem_append_left _ hq)) (qL_p hF) ⟨(fun _ h => nomatch h), (fun _ h => nomatch h), (fun _ h => nomatch h)⟩
  have f4 := ((gm_tyr_s F0 (show gm_tyr p2_O 207 4 4 = some (-1, -1) by decide +kernel)).2 4 (Int.le_refl _) (Int.le_refl _)).1
  have f5 := (hf.2.2 (207, 5, 5, (-1, 128, [])) List.mem_cons_self).2 5 (Int.le_refl _) (Int.le_refl _)
  have f7 := (hf.2.2 (207, 7, 7, (0, 299, [])) (List.mem_cons_of_mem _ List.mem_cons_self)).2 7 (Int.le_refl _) (Int.le_refl _)
  have a5 : -1 ≤ M 207 5 ∧ M 207 5 ≤ 128 := ⟨f5.2.1, f5.2.2.1⟩
  have a7 : 0 ≤ M 207 7 ∧ M 207 7 ≤ 299 := ⟨f7.2.1, f7.2.2.1⟩
  have hq : ∃ N ls, qC (some ls) N M := by
    obtain ⟨hJ, N, ls, hq, -⟩ := hF.2.2.2.2
    exact ⟨N, ls, hq⟩
  obtain ⟨N, ls, hq⟩ := hq
  have hfun := wy_c43_207 (X := X) (LX := LX) (bc := 0) (bs := 0) (Q := fun o n1 K1 R1 M1 => K1 = K ∧ -1 ≤ M1 207 5 ∧ M1 207 5 ≤ 300) (wo := M 207 4) (y := M 207 7) (r0 := M 207 5) hd (e0F F0) (ti_x (cstF F0) hq.2.1) hq.1.1.1 rfl rfl rfl ⟨a7.1, by omega⟩ f4 ⟨by omega, by omega⟩ (fun M2 hfr h5 => ⟨rfl, by rw [h5]; exact nfl_300n hq.1.1.1 a5⟩)
  refine gm_Wp_mono (fun o n2 K2 R2 M2 hh => ?_) (gm_Wp_and hrow hfun)
  obtain ⟨⟨hF2, hfr, oc, hoc, ho, hn2, -⟩, o3, n3, K3, R3, M3, ⟨rfl, hI⟩, -, hdt⟩ := hh
  have hKK : ∀ k, 1 ≤ k → k ≤ 249 → K3 k = K2 k := fun k _ hk => (hfr.2.1 k hk).symm
  have e1 : ∀ k j, k ≤ 249 → ¬ k = 207 → M2 k j = M k j := fun k j hk h => hfr.2.2.1 k j hk (fun w hw hh => by
    have := of_decide_eq_true (List.all_eq_true.mp (show (q43p 207).2.2.2.2.1.1.all (fun w => decide (w.1 = 207)) = true by decide) w hw)
    omega)
  have e5 : M2 207 5 = gm_w (M3 207 5) := dw_f (dt_sym hdt) (by decide) hKK (pl_o hF2) (show tyF 207 5 5 = true by decide +kernel)
  rw [dw_i ⟨by omega, by omega⟩] at e5
  have ho2 : oc = (.inr none, 249, ([], [], [])) := List.mem_singleton.mp hoc
  subst ho2
  refine ⟨qL_b hF (by decide) hF2 hfr (fun N2 ls2 hq2 hk2 hw2 hlr2 => ⟨?_, ?_⟩), hfr, _, List.mem_cons_self, ho, hn2, (fun _ h => nomatch h), (fun _ h => nomatch h), fun q hq9 => ?_⟩
  · rw [e1 1 15 (by decide) (by decide)]
    exact hq2.2.2.imp_right fun hh => ⟨hh.1, ends_x hh.2 (fun k j hk => e1 k j (by omega) (by omega))⟩
  · exact kfl_b hk2 ⟨by have := hq2.1.1.1.1.1; omega, by have := hq2.1.1.1.1.2.1; omega⟩ (e1 200 6 (by decide) (by decide)) (fun j _ _ => e1 205 j (by decide) (by decide))
  · rw [List.mem_singleton.mp hq9]
    refine ⟨show 207 ≤ n2 by have := hfr.1; omega, fun j j1 j2 => ?_⟩
    have ej : j = 5 := Int.le_antisymm j2 j1
    subst ej
    show gm_ir (M2 207 5) ∧ ck_gi σ (-1, 300, []) (M2 207 5)
    rw [e5]
    exact ⟨⟨by omega, by omega⟩, hI.1, hI.2, fun _ h => nomatch h⟩
noncomputable def q44m : ck_Sum := ((0, 0, 0), 249, [.inr (.inr (.inl 200)), .inl ((-1), (-1), [])], ([], [], []), ([], []), [(.inr (some (.inl (ck_one 0))), 249, ([], [], []))])
theorem q44m_s : ck_Ok qL_O X LX 44 q44m := ck_ok_s (O := qL_O) (X := X) (LX := LX) (E := []) (mi := 44) (cuts := []) (f := 60) (S := q44m) (lx := none) (XF := []) ⟨qL_nmu, ck_E0⟩ ck_X0 ck_l0 (by decide +kernel)
noncomputable def q43m_206 : ck_Sum := ((1, 0, 0), 249, [.inr (.inr (.inl 206))], ([], [], [(206, 5, 5, ((-1), 128, [])), (206, 7, 7, ((-1), (-1), []))]), ([(206, 5, 5), (206, 8, 8)], []), [(.inr none, 249, ([], [], [(206, 5, 5, ((-1), 300, []))]))])
theorem q43m_206_s : ck_Ok qL_O X LX 43 q43m_206 := ck_ok_s (O := qL_O) (X := X) (LX := LX) (E := [(44, [q44m])]) (mi := 43) (cuts := []) (f := 120) (S := q43m_206) (lx := none) (XF := []) ⟨qL_nmu, ck_E1 (ck_S1 q44m_s ck_S0) ck_E0⟩ ck_X0 ck_l0 (by decide +kernel)
noncomputable def q31n_206 : ck_Sum := ((0, 0, 0), 249, [.inr (.inr (.inl 206))], ([], [], [(206, 5, 5, ((-1), 300, []))]), ([], []), [(.inr (some (.inl (ck_one 0))), 249, ([], [], [(206, 5, 5, ((-1), 98, []))])), (.inr (some (.inl (ck_one 1))), 249, ([], [], [(206, 5, 5, ((-1), 300, []))]))])
theorem q31n_206_s : ck_Ok qL_O X LX 31 q31n_206 := ck_ok_s (O := qL_O) (X := X) (LX := LX) (E := []) (mi := 31) (cuts := []) (f := 100) (S := q31n_206) (lx := none) (XF := []) ⟨qL_nmu, ck_E0⟩ ck_X0 ck_l0 (by decide +kernel)
noncomputable def q32n_206 : ck_Sum := ((13, 0, 0), 249, [.inr (.inr (.inl 206))], ([], [(3, 8, 246)], [(206, 2, 2, ((-1), (-1), [])), (206, 5, 5, ((-1), 300, [])), (206, 7, 7, (0, 299, [(28, 0)]))]), ([(200, 6, 6), (204, 0, 9), (205, 0, 14849), (206, 5, 8)], []), [(.inr none, 249, ([], [], [(206, 5, 5, ((-1), 300, [])), (206, 7, 7, (1, 300, [(28, 1)]))]))])
set_option maxRecDepth 100000 in
theorem q32n_206_e : ck_ok qL_O none [] [(31, [q31n_206]), (33, [q33_206]), (35, [q35n]), (43, [q43n 206])] 32 [] 200 q32n_206 = true := by decide +kernel
theorem q32n_206_s (h33 : ck_Ok qL_O X LX 33 q33_206) (h35 : ck_Ok qL_O X LX 35 q35n) (h43 : ck_Ok qL_O X LX 43 (q43n 206)) : ck_Ok qL_O X LX 32 q32n_206 := ck_ok_s ⟨qL_nmu, ck_E1 (ck_S1 q31n_206_s ck_S0) (ck_E1 (ck_S1 h33 ck_S0) (ck_E1 (ck_S1 h35 ck_S0) (ck_E1 (ck_S1 h43 ck_S0) ck_E0)))⟩ ck_X0 ck_l0 q32n_206_e
noncomputable def q32m_206 : ck_Sum := ((13, 0, 0), 249, [.inr (.inr (.inl 206))], ([], [(3, 8, 246)], [(206, 2, 2, ((-1), (-1), [])), (206, 5, 5, ((-1), 300, [])), (206, 7, 7, ((-1), (-1), []))]), ([(200, 6, 6), (204, 0, 9), (205, 0, 14849), (206, 5, 8)], []), [(.inr none, 249, ([], [], [(206, 5, 5, ((-1), 300, [])), (206, 7, 7, (0, 0, []))]))])
set_option maxRecDepth 100000 in
theorem q32m_206_e : ck_ok qL_O none [] [(31, [q31n_206]), (33, [q33_206]), (35, [q35n]), (43, [q43m_206])] 32 [] 200 q32m_206 = true := by decide +kernel
theorem q32m_206_s (h33 : ck_Ok qL_O X LX 33 q33_206) (h35 : ck_Ok qL_O X LX 35 q35n) (h43 : ck_Ok qL_O X LX 43 (q43m_206)) : ck_Ok qL_O X LX 32 q32m_206 := ck_ok_s ⟨qL_nmu, ck_E1 (ck_S1 q31n_206_s ck_S0) (ck_E1 (ck_S1 h33 ck_S0) (ck_E1 (ck_S1 h35 ck_S0) (ck_E1 (ck_S1 h43 ck_S0) ck_E0)))⟩ ck_X0 ck_l0 q32m_206_e
noncomputable def q43m_207 : ck_Sum := ((1, 0, 0), 249, [.inr (.inr (.inl 207))], ([], [], [(207, 5, 5, ((-1), 128, [])), (207, 7, 7, ((-1), (-1), []))]), ([(207, 5, 5), (207, 8, 8)], []), [(.inr none, 249, ([], [], [(207, 5, 5, ((-1), 300, []))]))])
theorem q43m_207_s : ck_Ok qL_O X LX 43 q43m_207 := ck_ok_s (O := qL_O) (X := X) (LX := LX) (E := [(44, [q44m])]) (mi := 43) (cuts := []) (f := 120) (S := q43m_207) (lx := none) (XF := []) ⟨qL_nmu, ck_E1 (ck_S1 q44m_s ck_S0) ck_E0⟩ ck_X0 ck_l0 (by decide +kernel)
noncomputable def q31n_207 : ck_Sum := ((0, 0, 0), 249, [.inr (.inr (.inl 207))], ([], [], [(207, 5, 5, ((-1), 300, []))]), ([], []), [(.inr (some (.inl (ck_one 0))), 249, ([], [], [(207, 5, 5, ((-1), 98, []))])), (.inr (some (.inl (ck_one 1))), 249, ([], [], [(207, 5, 5, ((-1), 300, []))]))])
theorem q31n_207_s : ck_Ok qL_O X LX 31 q31n_207 := ck_ok_s (O := qL_O) (X := X) (LX := LX) (E := []) (mi := 31) (cuts := []) (f := 100) (S := q31n_207) (lx := none) (XF := []) ⟨qL_nmu, ck_E0⟩ ck_X0 ck_l0 (by decide +kernel)
noncomputable def q32n_207 : ck_Sum := ((13, 0, 0), 249, [.inr (.inr (.inl 207))], ([], [(3, 8, 246)], [(207, 2, 2, ((-1), (-1), [])), (207, 5, 5, ((-1), 300, [])), (207, 7, 7, (0, 299, [(29, 0)]))]), ([(200, 6, 6), (204, 0, 9), (205, 0, 14849), (207, 5, 8)], []), [(.inr none, 249, ([], [], [(207, 5, 5, ((-1), 300, [])), (207, 7, 7, (1, 300, [(29, 1)]))]))])
set_option maxRecDepth 100000 in
theorem q32n_207_e : ck_ok qL_O none [] [(31, [q31n_207]), (33, [q33_207]), (35, [q35n]), (43, [q43n 207])] 32 [] 200 q32n_207 = true := by decide +kernel
theorem q32n_207_s (h33 : ck_Ok qL_O X LX 33 q33_207) (h35 : ck_Ok qL_O X LX 35 q35n) (h43 : ck_Ok qL_O X LX 43 (q43n 207)) : ck_Ok qL_O X LX 32 q32n_207 := ck_ok_s ⟨qL_nmu, ck_E1 (ck_S1 q31n_207_s ck_S0) (ck_E1 (ck_S1 h33 ck_S0) (ck_E1 (ck_S1 h35 ck_S0) (ck_E1 (ck_S1 h43 ck_S0) ck_E0)))⟩ ck_X0 ck_l0 q32n_207_e
noncomputable def q32m_207 : ck_Sum := ((13, 0, 0), 249, [.inr (.inr (.inl 207))], ([], [(3, 8, 246)], [(207, 2, 2, ((-1), (-1), [])), (207, 5, 5, ((-1), 300, [])), (207, 7, 7, ((-1), (-1), []))]), ([(200, 6, 6), (204, 0, 9), (205, 0, 14849), (207, 5, 8)], []), [(.inr none, 249, ([], [], [(207, 5, 5, ((-1), 300, [])), (207, 7, 7, (0, 0, []))]))])
set_option maxRecDepth 100000 in
theorem q32m_207_e : ck_ok qL_O none [] [(31, [q31n_207]), (33, [q33_207]), (35, [q35n]), (43, [q43m_207])] 32 [] 200 q32m_207 = true := by decide +kernel
theorem q32m_207_s (h33 : ck_Ok qL_O X LX 33 q33_207) (h35 : ck_Ok qL_O X LX 35 q35n) (h43 : ck_Ok qL_O X LX 43 (q43m_207)) : ck_Ok qL_O X LX 32 q32m_207 := ck_ok_s ⟨qL_nmu, ck_E1 (ck_S1 q31n_207_s ck_S0) (ck_E1 (ck_S1 h33 ck_S0) (ck_E1 (ck_S1 h35 ck_S0) (ck_E1 (ck_S1 h43 ck_S0) ck_E0)))⟩ ck_X0 ck_l0 q32m_207_e
end ST26
