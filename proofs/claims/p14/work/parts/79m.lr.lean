/-! THE REFERENCE'S law() tells what the grammar tells. -/
def lr_us : ck_Sum := ((0, 0, 0), 245, [.inr (.inr (.inl 226))], ([], [], [(226, 8, 8, (0, 400, [(7, 0)]))]), ([(226, 0, 0), (226, 8, 10)], []), [(.inr none, 245, ([], [], [(226, 9, 9, ck_one 0), (226, 8, 8, ck_one 0), (226, 10, 10, (0, 400, [(7, 0)])), (226, 0, 0, ck_one 0)]))])
theorem lr_us_e : ck_ok p2_O none [] [] 244 [] 60 lr_us = true := by decide +kernel
def lr_f (v : Int) : ck_F := ([], [], (lw_f v).2.2 ++ [(226, 0, 0, ck_one 0)])
def lr_F (k : Int) : ck_F := ([], [], [(0, 2, 2, ck_one k), (227, 1244, 1244, ck_one k), (226, 8, 8, ck_one 0), (226, 0, 0, ck_one 0)])
def lr_C (k : Int) : ck_C := (lw_A k, lr_F k, 0, .inl 2, true)
def lr_o (k : Int) : List ck_Oc := [(.inr (some (.inl (ck_one k))), 245, ([], [], [(226, 0, 0, ck_one 0)]))]
def lr_om : List ck_Oc := [(.inr (some (.inl (ck_one 0))), 245, ([], [], [(226, 0, 0, ck_one 1)]))]
set_option maxRecDepth 100000 in
theorem lr_g5 : (List.range 13).all (fun (k : Nat) => ck_go pg_O none [] lw_E3 283 33 245 lw_W (lr_o k) [(52, lr_C k)] 200 false [(52, lr_C k, 0, 0, 245)] 0 0 5 [some (.inr (.inr (.inl 226))), none, none] [(.inl (ck_one k), none)] 245 (lr_f k)) = true := by decide +kernel
set_option maxRecDepth 100000 in
theorem lr_gm : ck_go pg_O none [] lw_E3 283 33 245 lw_W lr_om [] 200 false [] 0 0 5 [some (.inr (.inr (.inl 226))), none, none] [(.inl (ck_one (-1)), none)] 245 (lr_f (-1)) = true := by decide +kernel
set_option maxRecDepth 100000 in
theorem lr_g85 : (List.range 13).all (fun (k : Nat) => ck_go pg_O none [] lw_E3 283 33 245 lw_W (lr_o k) [] 200 false [] 0 0 85 (lw_B k) [] 245 ([], [], ck_cws [(227, 395, 1243)] (lr_F k).2.2)) = true := by decide +kernel
theorem lr_cu : (List.range 13).all (fun (k : Nat) => ck_cu [(52, lr_C k)]) = true := by decide +kernel
section LR
variable {X : Int → Int} {LX : Nat} {Q : gm_Q}
theorem lr_us_s : ck_Ok p2_O X LX 244 lr_us := ck_ok_s ⟨p2_nmu, ck_E0⟩ ck_X0 ck_l0 lr_us_e
theorem lr_52 {σ σ0 : Nat → Int} {K0 : gm_K} {R0 : gm_R} {M0 : gm_M} {k : Nat} (hk : k < 13) (hσ : ∀ s, s < 100 → σ s = σ0 s) : ck_Hy pg_O X LX 283 33 lw_W 245 K0 R0 M0 (ck_Q pg_O σ0 lw_W 245 K0 R0 M0 (lr_o k)) σ (52, lr_C k, 0, 0, 245) := by
  refine ck_cpH (v := 2) (A := 227) (B := 227) (N := 849) (wa := 395) (wb := 1243) (pc' := 85) (f := 200) (cuts := []) (ch := []) (by decide) lw_hE3 hσ ⟨by decide, by decide⟩ (by decide +kernel) (fun bc bs L K R M hS => ?_) (List.all_eq_true.mp lr_g85 k (List.mem_range.mpr hk)) (fun _ h => nomatch h)
  obtain ⟨hF, hl, -, hf, -⟩ := hS
  have hF : gm_Fx pg_O 245 K R M := hF
  have hP := pg_p2 hF
  have hl : ck_gl σ (lw_A k) L := hl
  have hf : ck_gf σ (lr_F k) 245 K R M := hf
  obtain ⟨u0, l0, g0⟩ := hl.2 0 (.inr (.inr (.inl 226))) rfl
  cases g0
  obtain ⟨u1, l1, y1, rfl, -⟩ := hl.2 1 (.inl (ck_one k)) rfl
  obtain ⟨u2, lv, x1, rfl, -, e1, e2, -⟩ := hl.2 2 (.inl (ck_one 0)) rfl
  have e1 : (0 : Int) ≤ x1 := e1
  have e2 : x1 ≤ (0 : Int) := e2
  have e3 : x1 = 0 := by omega
  subst e3
  have q2 := ((hf.2.2 (0, 2, 2, ck_one k) List.mem_cons_self).2 2 (Int.le_refl _) (Int.le_refl _)).2
  have q21 : (k : Int) ≤ M 0 2 := q2.1
  have q22 : M 0 2 ≤ (k : Int) := q2.2.1
  have q4 := ((hf.2.2 (227, 1244, 1244, ck_one k) (List.mem_cons_of_mem _ List.mem_cons_self)).2 1244 (Int.le_refl _) (Int.le_refl _)).2
  have q41 : (k : Int) ≤ M 227 1244 := q4.1
  have q42 : M 227 1244 ≤ (k : Int) := q4.2.1
  have kA := (md_kd hP md_o.1.2).2
  obtain ⟨hJ, hX⟩ := hF.2.2.2.2
  obtain ⟨-, ⟨b1, b2, b3⟩, -⟩ := hX.1
  have hT : jT (fun j => M 227 (1244 + j)) := jT_of (c := M 0 2) (e := M 0 1) (by omega) (by show M 227 (1244 + 0) ≤ M 0 2; rw [Int.add_zero]; omega) hX.2.2
  have hgx : ∀ j, ¬ (395 ≤ j ∧ j < 395 + 849) → gm_cpy M 227 227 395 1244 849 227 j = M 227 j := fun j hj => gm_cpy_out hj
  have hJ2 : j_J p2_ty K (gm_cpy M 227 227 395 1244 849) := by
    unfold j_J at hJ ⊢
    rw [gm_cpy_f (by decide : ¬ 228 = 227), gm_cpy_f (by decide : ¬ 229 = 227), gm_cpy_f (by decide : ¬ 230 = 227)]
    refine j_law hJ (fun j h1 h2 => hgx j (by omega)) (jT_cg (fun j h1 h2 => ?_) hT)
    show gm_cpy M 227 227 395 1244 849 227 (395 + j) = M 227 (1244 + j)
    exact gm_cpy_at ⟨by omega, by omega⟩ (by omega)
  refine ⟨395, 1244, ⟨by decide, by decide⟩, p2_pg (gm_Fx_cpy hP (cp_tc_s hP lw_tc) hJ2) (jX_cg (fun c r hr j j1 j2 => ?_) hX), fun Q hx => ?_⟩
  · by_cases e : c = 227
    · subst e
      have := of_decide_eq_true (List.all_eq_true.mp (show (jg_e 227).all (fun r => decide (1247 ≤ r.1)) = true by decide +kernel) r hr)
      exact hgx j (by omega)
    · exact gm_cpy_ne e
  · exact cp_lp (iv := .iload_n 2) (v := 2) (ixA := 13) (ixB := 13) (jA := 1) (jB := 1) (A := 227) (B := 227) (mo := 226) (p := 52) (qA := 68) (qB := 77) (N := 849) (a := 395) (b := 1244) (offe := 29) (offb := (-30)) (by decide) (md_mo hP) (md_kd hP md_o.1.2).1 (md_kd hP md_o.1.2).1 (md_rf hP md_r.1.1) (md_rf hP md_r.1.1) (by decide +kernel) (by decide +kernel) (by decide +kernel) (by decide +kernel) ⟨by omega, ⟨by omega, by omega⟩, ⟨by omega, by omega⟩, by omega, by omega⟩ (fun _ => by decide) (by decide) (by decide +kernel) l0 lv ⟨rfl, rfl⟩ ⟨gm_vi y1, l1, by simp [gm_sort]⟩ (by decide +kernel) (by decide +kernel) (by decide +kernel) (by decide) (by decide +kernel) (by decide +kernel) (cp_sg_ci (iv := .iload_n 2) (c := 395) lv ⟨rfl, rfl⟩ (by decide +kernel) (by decide +kernel) (by decide +kernel) (by decide +kernel)) (by decide +kernel) (by decide +kernel) (cp_sg_ci (iv := .iload_n 2) (c := 1244) lv ⟨rfl, rfl⟩ (by decide +kernel) (by decide +kernel) (by decide +kernel) (by decide +kernel)) (by decide +kernel) (by decide +kernel) (by decide +kernel) (by decide +kernel) (by decide) (by decide) hx
noncomputable def lr_Qf (f : Int → Int) (e : Int) : gm_Q := fun o _ _ _ _ => ((g_law f e).1 = true ∧ o = .inl (some (gm_vi (g_law f e).2))) ∨ (¬ (g_law f e).1 = true ∧ o = .inl (some (gm_vi (-1))))
theorem lr_tR {K : gm_K} {R : gm_R} {M : gm_M} (hF : gm_Fx p2_O 245 K R M) : tR 245 K R M (M 226 10) := by
  have kd : ∀ k e, p2_O.1 k = some e → (1 ≤ k ∧ k ≤ 245) ∧ K k = e := fun k e h => ⟨⟨(hF.1 k e h).1, (hF.1 k e h).2.1⟩, (hF.1 k e h).2.2⟩
  have rf : ∀ k j r, p2_O.2.1 k j = some r → R k j = r := fun k j r h => (hF.2.1 k j r h).2
  exact ⟨⟨kd 226 _ (by decide +kernel), kd 227 _ (by decide +kernel), kd 231 _ (by decide +kernel)⟩, ⟨rf 226 1 _ (by decide +kernel), rf 226 7 _ (by decide +kernel)⟩, ⟨rfl, ((gm_tyr_s hF (show gm_tyr p2_O 226 10 10 = some (0, 400) by decide +kernel)).2 10 (Int.le_refl _) (Int.le_refl _)).2⟩, fun j h1 h2 => ((gm_tyr_s hF (show gm_tyr p2_O 231 0 399 = some (-128, 127) by decide +kernel)).2 j h1 (by omega)).2⟩
theorem lr_law {K : gm_K} {R : gm_R} {M : gm_M} {e : Int} (hF : gm_Fx p2_O 245 K R M) (he : M 226 8 = e) (h1 : (g_law (M 231) e).1 = true → ∀ (K2 : gm_K) R2 M2, (∀ c, c ≤ 245 → K2 c = K c) → M2 226 0 = 0 → Q (.inl (some (gm_vi (g_law (M 231) e).2))) 245 K2 R2 M2) (h0 : ¬ (g_law (M 231) e).1 = true → ∀ (K2 : gm_K) R2 M2, (∀ c, c ≤ 245 → K2 c = K c) → M2 226 0 = 1 → Q (.inl (some (gm_vi 0))) 245 K2 R2 M2) : gm_Wp X LX 34 0 0 283 0 (gm_ent 283 [gm_vr 226]) [] 245 K R M Q := by
  have te := (gm_tyr_s hF (show gm_tyr p2_O 226 8 8 = some (0, 400) by decide +kernel)).2 8 (Int.le_refl _) (Int.le_refl _)
  have te2 : 0 ≤ e ∧ e ≤ 400 := by have := te.2; rw [he] at this; exact this
  obtain ⟨b0, b1, b2⟩ := g_law_b (f := M 231) te2.1
  refine gm_sz (gm_p_load (pc := 0) (i := .aload_n 0) (sr := 2) (j := 0) (by decide +kernel) rfl rfl rfl) ?_
  refine gm_sz (gm_p_const (pc := 1) (i := .iconst 0) (v := gm_vi 0) (by decide +kernel) (by decide +kernel)) ?_
  refine gm_c_virt (k := 226) (ci := 11) (mj := 243) (ix := 296) (pc := 2) (as := [gm_vi 0]) (st := []) (d' := 33) (bc' := 0) (bs' := 0) (by decide +kernel) (by decide +kernel) (by decide +kernel) (by decide +kernel) (md_mo hF).1 (md_mo hF).2 (by decide) (by decide +kernel) (show 1 = gm_na 243 by decide +kernel) (fw_c1 fw_si) (show 1 + 1 ≤ gm_ml 243 by decide +kernel) (Nat.le_of_ble_eq_true rfl) (by decide) (Nat.zero_le _) (Nat.zero_le _) ?_
  refine gm_sz (gm_p_load (pc := 0) (i := .aload_n 0) (sr := 2) (j := 0) (by decide +kernel) rfl rfl rfl) ?_
  refine gm_c_virt (k := 226) (ci := 11) (mj := 244) (ix := 289) (pc := 1) (as := []) (st := []) (d' := 0) (bc' := 0) (bs' := 0) (by decide +kernel) (by decide +kernel) (by decide +kernel) (by decide +kernel) (md_mo hF).1 (md_mo hF).2 (by decide) (by decide +kernel) (show 0 = gm_na 244 by decide +kernel) fw_c0 (show 0 + 1 ≤ gm_ml 244 by decide +kernel) (Nat.le_of_ble_eq_true rfl) (by decide) (Nat.zero_le _) (Nat.zero_le _) ?_
  have hs := ck_sn_s (σ := fun _ => 0) (M := M) p2_nmu
  have hs7 : ck_sn p2_O (fun _ => 0) M 7 = M 226 8 := hs (7, 226, 8) (show (7, 226, 8) ∈ p2_nm by decide)
  refine gm_Wp_mono (fun o n K1 R1 M1 h => ?_) (lr_us_s 0 (ck_sn p2_O (fun _ => 0) M) [gm_vr 226] 245 K R M (Nat.le_refl _) rfl ⟨_, _, rfl, rfl, rfl⟩ hs hF ⟨(fun _ h => nomatch h), (fun _ h => nomatch h), fun q hq => ?_⟩)
  rotate_left
  · rw [List.mem_singleton.mp hq]
    refine ⟨by decide, fun j j1 j2 => ?_⟩
    have : j = 8 := Int.le_antisymm j2 j1
    subst this
    exact ⟨te.1, te.2.1, te.2.2, ck_gt1 (by decide) (show M 226 8 = ck_sn p2_O (fun _ => 0) M 7 + 0 by rw [hs7]; omega)⟩
  obtain ⟨f1, f2, oc, f3, f4, f5, f6⟩ := h
  rw [List.mem_singleton.mp f3] at f4 f5 f6
  have f5 : n = 245 := f5
  subst f5
  have z := fun (j : Int) (I : ck_I) (hm : (226, j, j, I) ∈ ([(226, 9, 9, ck_one 0), (226, 8, 8, ck_one 0), (226, 10, 10, (0, 400, [(7, 0)])), (226, 0, 0, ck_one 0)] : List (Nat × Int × Int × ck_I))) => ((f6.2.2 _ hm).2 j (Int.le_refl _) (Int.le_refl _)).2
  have r9 : M1 226 9 = 0 := Int.le_antisymm (z 9 (ck_one 0) (by simp)).2.1 (z 9 (ck_one 0) (by simp)).1
  have r8 : M1 226 8 = 0 := Int.le_antisymm (z 8 (ck_one 0) (by simp)).2.1 (z 8 (ck_one 0) (by simp)).1
  have r0 : M1 226 0 = 0 := Int.le_antisymm (z 0 (ck_one 0) (by simp)).2.1 (z 0 (ck_one 0) (by simp)).1
  have r10 : M1 226 10 = e := by
    have a := (z 10 (0, 400, [(7, 0)]) (by simp)).2.2 (7, 0) List.mem_cons_self
    have a := a.1 (by decide)
    have a : M1 226 10 = ck_sn p2_O (fun _ => 0) M 7 + 0 := a
    rw [a, hs7, he, Int.add_zero]
  have r231 : M1 231 = M 231 := funext fun j => f2.2.2.1 231 j (by decide) (fun w hw hh => by
    have := List.all_eq_true.mp (show lr_us.2.2.2.2.1.1.all (fun w => decide (¬ w.1 = 231)) = true by decide) w hw
    exact absurd hh.1 (of_decide_eq_true this))
  rcases o with (_ | v) | x
  case inl.some => exact absurd f4 id
  case inr => exact absurd f4 id
  show gm_Wp X LX 33 0 0 243 4 (gm_ent 243 [gm_vr 226, gm_vi 0]) [] 245 K1 R1 M1 _
  refine gm_sz (gm_p_load (pc := 4) (i := .aload_n 0) (sr := 2) (j := 0) (by decide +kernel) rfl rfl rfl) ?_
  refine gm_sz (gm_p_const (pc := 5) (i := .iconst 0) (v := gm_vi 0) (by decide +kernel) (by decide +kernel)) ?_
  refine gm_sz (gm_p_puti (pc := 6) (ix := 224) (ci := 11) (j := 15) (by decide +kernel) (md_mo f1).1 (md_mo f1).2 (by decide +kernel) (by decide +kernel) (Or.inl (by decide +kernel))) ?_
  have e9 : gm_uM M1 226 15 0 = rm M1 0 (M1 226 11) (M1 226 12) 0 (M1 227) := by
    have a := rm_st (M := M1) (pt := M1 226 9) (bg := M1 226 11) (dp := M1 226 12) (st := M1 226 15) (W := M1 227) (x := 0)
    rw [rm_id, r9] at a
    exact a
  have hT := lr_tR f1
  rw [r10] at hT
  have hfun : gm_Wp X LX 33 0 0 243 9 (gm_ent 243 [gm_vr 226, gm_vi 0]) [] 245 K1 R1 (gm_uM M1 226 15 0) (lr_Qf (M 231) e) := by
    rw [e9]
    refine tr_a243 (by decide) hT none (fun p2 bg2 dp2 st2 W2 g => Or.inl ?_) (fun p2 dp2 st2 W2 g => Or.inr ?_)
    · rw [r231] at g ⊢
      exact ⟨g, rfl⟩
    · rw [r231] at g
      exact ⟨g, rfl⟩
  refine gm_Wp_mono (fun o n K2 R2 M2 h => ?_) (gm_Wp_and (gm_Wp_wk (d' := 32) (by decide) (Nat.le_refl _) (Nat.le_refl _) (lw_9 (σ := fun _ => 0) f1 (by omega) (by omega) rfl rfl rfl)) hfun)
  obtain ⟨⟨g1, g2, oc, g3, g4, g5, g6⟩, o3, n3, K3, R3, M3, hq, hdo, -⟩ := h
  obtain ⟨v, hv, rfl⟩ := List.mem_map.mp g3
  have g5 : n = 245 := g5
  subst g5
  rcases o with (_ | u) | x
  case inl.none => exact absurd g4 id
  case inr => exact absurd g4 id
  obtain ⟨x, rfl, gx, gi⟩ := g4
  have gi1 : v ≤ x := gi.1
  have gi2 : x ≤ v := gi.2.1
  have gi3 : x = v := Int.le_antisymm gi2 gi1
  have hv2 : v = -1 ∨ ∃ k : Nat, k < 13 ∧ v = (k : Int) := by
    have := List.all_eq_true.mp (show lw_l.all (fun v => decide (v = -1 ∨ (0 ≤ v ∧ v < 13))) = true by decide) v hv
    rcases of_decide_eq_true this with h | h
    · exact Or.inl h
    · exact Or.inr ⟨v.toNat, by omega, by omega⟩
  have t0 : M2 226 0 = 0 := by
    have a := g2.2.2.1 226 0 (by decide) (fun w hw hh => by
      have := List.all_eq_true.mp (show lw_W9.1.all (fun w => decide (¬ (w.1 = 226 ∧ w.2.1 ≤ 0 ∧ 0 ≤ w.2.2))) = true by decide) w hw
      exact absurd hh (of_decide_eq_true this))
    rw [a, lw_Mx (by decide) (by omega)]
    exact r0
  have hkk : ∀ c, c ≤ 245 → K2 c = K c := fun c hc => (g2.2.1 c hc).trans (f2.2.1 c hc)
  show gm_Wp X LX 34 0 0 283 5 (gm_ent 283 [gm_vr 226]) [gm_vi x] 245 K2 R2 M2 _
  have hst : ck_St pg_O (fun _ => 0) lw_W 245 K2 R2 M2 [some (.inr (.inr (.inl 226))), none, none] [(.inl (ck_one v), none)] (lr_f v) (gm_ent 283 [gm_vr 226]) [gm_vi x] 245 K2 R2 M2 := by
    refine ⟨g1, ⟨rfl, fun j c hc => ?_⟩, ⟨_, _, rfl, ⟨⟨x, rfl, gx, gi⟩, trivial⟩, rfl⟩, ⟨g6.1, g6.2.1, fun q hq => ?_⟩, ck_fr_0⟩
    · rcases j with _ | _ | _ | j
      · cases hc; exact ⟨_, rfl, rfl⟩
      · cases hc
      · cases hc
      · cases hc
    · rcases List.mem_append.mp hq with hq | hq
      · exact g6.2.2 q hq
      · rw [List.mem_singleton.mp hq]
        refine ⟨by decide, fun j j1 j2 => ?_⟩
        have : j = 0 := Int.le_antisymm j2 j1
        subst this
        show gm_ir (M2 226 0) ∧ ck_gi (fun _ => 0) (ck_one 0) (M2 226 0)
        rw [t0]
        exact ⟨⟨by decide, by decide⟩, ck_one_s 0⟩
  rcases hv2 with rfl | ⟨k, hk, rfl⟩
  · refine gm_Wp_mono (fun o n K4 R4 M4 h => ?_) (gm_Wp_wk (d' := 33) (by decide) (Nat.le_refl _) (Nat.le_refl _) (ck_go_s (σ0 := fun _ => 0) (outs := lr_om) (cuts := []) (by decide) lw_hE3 ck_X0 ck_l0 200 false [] 0 0 5 _ _ 245 _ (fun _ => 0) _ _ K2 R2 M2 (fun _ _ => rfl) (fun _ h => nomatch h) hst lr_gm))
    obtain ⟨e1, e2, oc, e3, e4, e5, e6⟩ := h
    rw [List.mem_singleton.mp e3] at e4 e5 e6
    have e5 : n = 245 := e5
    subst e5
    rcases o with (_ | u) | x9
    case inl.none => exact absurd e4 id
    case inr => exact absurd e4 id
    obtain ⟨y, rfl, -, y1, y2, -⟩ := e4
    have y3 : y = 0 := Int.le_antisymm y2 y1
    subst y3
    have u0 := ((e6.2.2 _ List.mem_cons_self).2 0 (Int.le_refl _) (Int.le_refl _)).2
    have u1 : M4 226 0 = 1 := Int.le_antisymm u0.2.1 u0.1
    rcases hq with ⟨hg, rfl⟩ | ⟨hg, rfl⟩
    · have hdo : Int32.ofInt x = Int32.ofInt (g_law (M 231) e).2 := hdo
      have b3 := b1 hg
      have := dt_i hdo gx ⟨by omega, by omega⟩
      omega
    · exact h0 hg _ _ _ (fun c hc => (e2.2.1 c hc).trans (hkk c hc)) u1
  · refine gm_Wp_mono (fun o n K4 R4 M4 h => ?_) (gm_Wp_wk (d' := 33) (by decide) (Nat.le_refl _) (Nat.le_refl _) (ck_go_s (σ0 := fun _ => 0) (outs := lr_o k) (cuts := [(52, lr_C k)]) (List.all_eq_true.mp lr_cu k (List.mem_range.mpr hk)) lw_hE3 ck_X0 ck_l0 200 false [(52, lr_C k, 0, 0, 245)] 0 0 5 _ _ 245 _ (fun _ => 0) _ _ K2 R2 M2 (fun _ _ => rfl) (fun z hz => ?_) hst (List.all_eq_true.mp lr_g5 k (List.mem_range.mpr hk))))
    · obtain ⟨e1, e2, oc, e3, e4, e5, e6⟩ := h
      rw [List.mem_singleton.mp e3] at e4 e5 e6
      have e5 : n = 245 := e5
      subst e5
      rcases o with (_ | u) | x9
      case inl.none => exact absurd e4 id
      case inr => exact absurd e4 id
      obtain ⟨y, rfl, -, y1, y2, -⟩ := e4
      have y1 : (k : Int) ≤ y := y1
      have y2 : y ≤ (k : Int) := y2
      have y3 : y = (k : Int) := Int.le_antisymm y2 y1
      have u0 := ((e6.2.2 _ List.mem_cons_self).2 0 (Int.le_refl _) (Int.le_refl _)).2
      have u1 : M4 226 0 = 0 := Int.le_antisymm u0.2.1 u0.1
      rcases hq with ⟨hg, rfl⟩ | ⟨hg, rfl⟩
      · have hdo : Int32.ofInt x = Int32.ofInt (g_law (M 231) e).2 := hdo
        have b3 := b1 hg
        have b4 := dt_i hdo gx ⟨by omega, by omega⟩
        rw [y3, ← gi3, b4]
        exact h1 hg _ _ _ (fun c hc => (e2.2.1 c hc).trans (hkk c hc)) u1
      · have hdo : Int32.ofInt x = Int32.ofInt (-1) := hdo
        have := dt_i hdo gx ⟨by decide, by decide⟩
        omega
    · rw [List.mem_singleton.mp hz]
      exact ⟨List.mem_cons_self, lr_52 hk (fun _ _ => rfl)⟩
end LR
