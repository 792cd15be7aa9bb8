/-! THE REFERENCE'S law(), put together. -/
set_option maxRecDepth 100000 in
/-- GlacierMailModel.warms -/
def pg_s95 : ck_Sum := ((0, 0, 0), 245, [.inr (.inr (.inl 226))], ([], [], []), ([(226, 26, 26), (234, 0, 299)], []), [(.inr none, 245, ([], [], [(226, 26, 26, ck_one (-1))]))])
set_option maxRecDepth 100000 in
theorem pg_s95_e : ck_ok pg_O none [] [] 235 [(10, [some (.inr (.inr (.inl 226))), some (.inl ((-2147483648), 2147483647, [])), some (.inl (0, 300, []))], ([], [], []), 100, .inl 2, true)] 182 pg_s95 = true := by decide +kernel
theorem pg_s95_s {X : Int → Int} {LX : Nat} : ck_Ok pg_O X LX 235 pg_s95 := ck_ok_s ⟨pg_nmu, ck_E0⟩ ck_X0 ck_l0 pg_s95_e
def lw_us : ck_Sum := ((0, 0, 0), 245, [.inr (.inr (.inl 226))], ([], [], []), ([(226, 0, 0), (226, 8, 10)], []), [(.inr none, 245, ([], [], [(226, 9, 9, ck_one 0), (226, 8, 8, ck_one 0)]))])
theorem lw_us_e : ck_ok p2_O none [] [] 244 [] 60 lw_us = true := by decide +kernel
def lw_E : List (Nat × List ck_Sum) := [(245, [pg_s1]), (247, [pg_s68, pg_s70, pg_s72, pg_s74, pg_s76, pg_s78, pg_s80, pg_s82, pg_s84, pg_s86, pg_s88, pg_s90, pg_s91]), (246, [pg_s92])]
def lw_W9 : List (Nat × Int × Int) × List (Nat × Int) := ([(0, 0, 6), (226, 9, 9), (226, 11, 12), (226, 15, 15), (227, 1245, 2092)], [])
def lw_f (v : Int) : ck_F := ([], [], (226, 8, 8, ck_one 0) :: (if v < 0 then [] else [(0, 2, 2, ck_one v)]))
def lw_oc (v : Int) : ck_Oc := (.inr (some (.inl (ck_one v))), 245, lw_f v)
def lw_l : List Int := [-1, 0, 1, 2, 3, 4, 5, 6, 7, 8, 9, 10, 11, 12]
def lw_F9 : ck_F := ([], [], [(0, 0, 0, ck_one 0), (0, 2, 2, ck_one 0), (0, 3, 3, (0, 400, [])), (0, 4, 4, (-400, 0, [])), (0, 5, 5, ck_one 0), (0, 6, 6, ck_one 0), (226, 15, 15, ck_one 0), (226, 9, 9, ck_one 0), (226, 8, 8, ck_one 0)])
set_option maxRecDepth 100000 in
theorem lw_g9 : ck_go pg_O none [] lw_E 243 32 245 lw_W9 (lw_l.map lw_oc) [] 702 false [] 0 0 9 [some (.inr (.inr (.inl 226))), some (.inl (ck_one 0)), none] [] 245 lw_F9 = true := by decide +kernel
def lw_W : List (Nat × Int × Int) × List (Nat × Int) := ([(0, 0, 6), (226, 0, 0), (226, 6, 6), (226, 8, 13), (226, 15, 15), (226, 26, 26), (227, 8, 8), (227, 395, 2092), (234, 0, 299)], [])
def lw_o : List ck_Oc := [(.inr (some (.inl (0, 12, []))), 245, ([], [], [(226, 8, 8, ck_one 0)]))]
/-- GlacierMailModel.law -/
def lw_S : ck_Sum := ((33, 0, 0), 245, [.inr (.inr (.inl 226))], ([], [], []), lw_W, lw_o)
def lw_E3 : List (Nat × List ck_Sum) := [(282, [pg_s93, pg_s94]), (235, [pg_s95])]
def lw_A (k : Int) : ck_AL := [some (.inr (.inr (.inl 226))), some (.inl (ck_one k)), some (.inl (ck_one 0))]
def lw_B (k : Int) : ck_AL := [some (.inr (.inr (.inl 226))), some (.inl (ck_one k)), some (.inl (ck_one 849))]
def lw_F (k : Int) : ck_F := ([], [], [(0, 2, 2, ck_one k), (227, 1244, 1244, ck_one k), (226, 8, 8, ck_one 0)])
def lw_C (k : Int) : ck_C := (lw_A k, lw_F k, 0, .inl 2, true)
set_option maxRecDepth 100000 in
theorem lw_g5 : (List.range 13).all (fun (k : Nat) => ck_go pg_O none [] lw_E3 283 33 245 lw_W lw_o [(52, lw_C k)] 200 false [(52, lw_C k, 0, 0, 245)] 0 0 5 [some (.inr (.inr (.inl 226))), none, none] [(.inl (ck_one k), none)] 245 (lw_f k)) = true := by decide +kernel
set_option maxRecDepth 100000 in
theorem lw_gm : ck_go pg_O none [] lw_E3 283 33 245 lw_W lw_o [] 200 false [] 0 0 5 [some (.inr (.inr (.inl 226))), none, none] [(.inl (ck_one (-1)), none)] 245 (lw_f (-1)) = true := by decide +kernel
set_option maxRecDepth 100000 in
theorem lw_g85 : (List.range 13).all (fun (k : Nat) => ck_go pg_O none [] lw_E3 283 33 245 lw_W lw_o [] 200 false [] 0 0 85 (lw_B k) [] 245 ([], [], ck_cws [(227, 395, 1243)] (lw_F k).2.2)) = true := by decide +kernel
theorem lw_cu : (List.range 13).all (fun (k : Nat) => ck_cu [(52, lw_C k)]) = true := by decide +kernel
theorem lw_tc : cp_tc p2_O 227 227 395 1244 849 = true := by decide +kernel
theorem lw_ty : gm_tyw p2_O 226 15 15 0 0 = true := by decide +kernel
section LW
variable {X : Int → Int} {LX : Nat}
theorem lw_us_s : ck_Ok p2_O X LX 244 lw_us := ck_ok_s ⟨p2_nmu, ck_E0⟩ ck_X0 ck_l0 lw_us_e
theorem lw_hE : ck_nmu pg_O ∧ ck_OkE pg_O X LX lw_E := ⟨pg_nmu, ck_E1 (ck_S1 pg_s1_s ck_S0) (ck_E1 (ck_S1 pg_s68_s (ck_S1 pg_s70_s (ck_S1 pg_s72_s (ck_S1 pg_s74_s (ck_S1 pg_s76_s (ck_S1 pg_s78_s (ck_S1 pg_s80_s (ck_S1 pg_s82_s (ck_S1 pg_s84_s (ck_S1 pg_s86_s (ck_S1 pg_s88_s (ck_S1 pg_s90_s (ck_S1 pg_s91_s ck_S0))))))))))))) (ck_E1 (ck_S1 pg_s92_s ck_S0) ck_E0))⟩
theorem lw_hE3 : ck_nmu pg_O ∧ ck_OkE pg_O X LX lw_E3 := ⟨pg_nmu, ck_E1 (ck_S1 pg_s93_s (ck_S1 pg_s94_s ck_S0)) (ck_E1 (ck_S1 pg_s95_s ck_S0) ck_E0)⟩
def lw_M (M : gm_M) (b : Int) : gm_M := gm_uM (gm_uM (gm_uM (gm_uM (gm_uM (gm_uM (gm_uM (gm_uM M 226 15 0) 0 0 0) 0 1 0) 0 2 0) 0 3 b) 0 4 (0 - b)) 0 5 0) 0 6 0
theorem lw_Mx {M : gm_M} {b j : Int} {c : Nat} (h1 : ¬ c = 0) (h2 : ¬ (c = 226 ∧ j = 15)) : lw_M M b c j = M c j := by
  unfold lw_M
  rw [uM_ne (by omega), uM_ne (by omega), uM_ne (by omega), uM_ne (by omega), uM_ne (by omega), uM_ne (by omega), uM_ne (by omega), uM_ne (by omega)]
theorem lw_M0 {M : gm_M} {b : Int} : ((lw_M M b 0 0 = 0 ∧ lw_M M b 0 1 = 0) ∧ (lw_M M b 0 2 = 0 ∧ lw_M M b 0 3 = b)) ∧ (lw_M M b 0 4 = 0 - b ∧ lw_M M b 0 5 = 0) ∧ (lw_M M b 0 6 = 0 ∧ lw_M M b 226 15 = 0) := by
  refine ⟨⟨⟨?_, ?_⟩, ?_, ?_⟩, ⟨?_, ?_⟩, ?_, ?_⟩
  · unfold lw_M; rw [uM_ne (by omega), uM_ne (by omega), uM_ne (by omega), uM_ne (by omega), uM_ne (by omega), uM_ne (by omega), uM_at]
  · unfold lw_M; rw [uM_ne (by omega), uM_ne (by omega), uM_ne (by omega), uM_ne (by omega), uM_ne (by omega), uM_at]
  · unfold lw_M; rw [uM_ne (by omega), uM_ne (by omega), uM_ne (by omega), uM_ne (by omega), uM_at]
  · unfold lw_M; rw [uM_ne (by omega), uM_ne (by omega), uM_ne (by omega), uM_at]
  · unfold lw_M; rw [uM_ne (by omega), uM_ne (by omega), uM_at]
  · unfold lw_M; rw [uM_ne (by omega), uM_at]
  · unfold lw_M; rw [uM_at]
  · unfold lw_M; rw [uM_ne (by omega), uM_ne (by omega), uM_ne (by omega), uM_ne (by omega), uM_ne (by omega), uM_ne (by omega), uM_ne (by omega), uM_at]
/-- readAll of a law, from behind 'steps = 0' on: counted from here -/
theorem lw_9 {σ : Nat → Int} {K : gm_K} {R : gm_R} {M : gm_M} {L : gm_L} (hF : gm_Fx p2_O 245 K R M) (h9 : M 226 9 = 0) (h8 : M 226 8 = 0) (hL : L.length = 3) (l0 : L[0]? = some (some (gm_vr 226))) (l1 : L[1]? = some (some (gm_vi 0))) : gm_Wp X LX 32 0 0 243 9 L [] 245 K R (gm_uM M 226 15 0) (ck_Q pg_O σ lw_W9 245 K R (lw_M M (M 226 11)) (lw_l.map lw_oc)) := by
  have bb := ((gm_tyr_s hF (show gm_tyr p2_O 226 11 11 = some (0, 400) by decide +kernel)).2 11 (Int.le_refl _) (Int.le_refl _)).2
  have b1 : (0 : Int) ≤ M 226 11 := bb.1
  have b2 : M 226 11 ≤ (400 : Int) := bb.2
  clear bb
  generalize hb : M 226 11 = b at *
  obtain ⟨⟨⟨v0, v1⟩, v2, v3⟩, ⟨v4, v5⟩, v6, v15⟩ := lw_M0 (M := M) (b := b)
  have x9 : lw_M M b 226 9 = 0 := (lw_Mx (by decide) (by omega)).trans h9
  have x8 : lw_M M b 226 8 = 0 := (lw_Mx (by decide) (by omega)).trans h8
  have x11 : lw_M M b 226 11 = b := (lw_Mx (by decide) (by omega)).trans hb
  refine gm_Wp_g (M' := lw_M M b) (fun c i hc => by unfold lw_M; rw [uM_ne (by omega), uM_ne (by omega), uM_ne (by omega), uM_ne (by omega), uM_ne (by omega), uM_ne (by omega), uM_ne (by omega)]) ?_
  have hF2 : gm_Fx p2_O 245 K R (lw_M M b) := by
    refine ⟨hF.1, hF.2.1, ?_, hF.2.2.2.1, j_J_w (K := K) (fun k j k1 _ => lw_Mx (by omega) (by omega)) hF.2.2.2.2⟩
    exact gm_Ft_M (gm_Ft_M (gm_Ft_M (gm_Ft_M (gm_Ft_M (gm_Ft_M (gm_Ft_M (gm_Ft_M (O := p2_O) hF.2.2.1 (show gm_tyv p2_O 226 15 15 0 0 = true by decide +kernel) (Int.le_refl _) (Int.le_refl _)) pg_t0 (Int.le_refl _) (Int.le_refl _)) pg_t0 (Int.le_refl _) (Int.le_refl _)) pg_t0 (Int.le_refl _) (Int.le_refl _)) pg_t0 (Int.le_refl _) (Int.le_refl _)) pg_t0 (Int.le_refl _) (Int.le_refl _)) pg_t0 (Int.le_refl _) (Int.le_refl _)) pg_t0 (Int.le_refl _) (Int.le_refl _)
  have hX : jX (lw_M M b) := by
    unfold jX
    rw [v0, v1, v2, v3, v4, v5, v6, v15, x9, x11]
    exact ⟨⟨⟨rfl, by omega, by omega⟩, ⟨by decide, by decide, by decide⟩, fun h => absurd h (by decide)⟩, jD_0, jL_0⟩
  refine ck_go_s (σ0 := σ) (cuts := []) (by decide) lw_hE ck_X0 ck_l0 702 false [] 0 0 9 [some (.inr (.inr (.inl 226))), some (.inl (ck_one 0)), none] [] 245 lw_F9 σ L [] K R (lw_M M b) (fun _ _ => rfl) (fun _ h => nomatch h) ⟨p2_pg hF2 hX, ⟨by rw [hL]; rfl, fun j c hc => ?_⟩, rfl, ⟨(fun _ h => nomatch h), (fun _ h => nomatch h), fun q hq => ?_⟩, ck_fr_0⟩ lw_g9
  · rcases j with _ | _ | _ | j
    · cases hc; exact ⟨_, l0, rfl⟩
    · cases hc; exact ⟨_, l1, 0, rfl, ⟨by decide, by decide⟩, ck_one_s 0⟩
    · cases hc
    · cases hc
  · have z : ∀ {k : Nat} {j : Int}, k ≤ 245 → lw_M M b k j = 0 → ((k, j, j, ck_one 0) : Nat × Int × Int × ck_I).1 ≤ 245 ∧ ∀ i, ((k, j, j, ck_one 0) : Nat × Int × Int × ck_I).2.1 ≤ i → i ≤ ((k, j, j, ck_one 0) : Nat × Int × Int × ck_I).2.2.1 → gm_ir (lw_M M b ((k, j, j, ck_one 0) : Nat × Int × Int × ck_I).1 i) ∧ ck_gi σ ((k, j, j, ck_one 0) : Nat × Int × Int × ck_I).2.2.2 (lw_M M b ((k, j, j, ck_one 0) : Nat × Int × Int × ck_I).1 i) := fun hk h => ck_f1 hk (by rw [h]; exact ⟨by decide, by decide⟩) (by rw [h]; exact ck_one_s 0)
    have hq : q ∈ lw_F9.2.2 := hq
    unfold lw_F9 at hq
    rcases List.mem_cons.mp hq with rfl | hq
    · exact z (by decide) v0
    rcases List.mem_cons.mp hq with rfl | hq
    · exact z (by decide) v2
    rcases List.mem_cons.mp hq with rfl | hq
    · exact ck_f1 (by decide) (by rw [v3]; exact ⟨by omega, by omega⟩) (by rw [v3]; exact ⟨b1, b2, fun _ h => nomatch h⟩)
    rcases List.mem_cons.mp hq with rfl | hq
    · exact ck_f1 (by decide) (by rw [v4]; exact ⟨by omega, by omega⟩) (by rw [v4]; exact ⟨by show (-400 : Int) ≤ 0 - b; omega, by show 0 - b ≤ (0 : Int); omega, fun _ h => nomatch h⟩)
    rcases List.mem_cons.mp hq with rfl | hq
    · exact z (by decide) v5
    rcases List.mem_cons.mp hq with rfl | hq
    · exact z (by decide) v6
    rcases List.mem_cons.mp hq with rfl | hq
    · exact z (by decide) v15
    rcases List.mem_cons.mp hq with rfl | hq
    · exact z (by decide) x9
    rw [List.mem_singleton.mp hq]
    exact z (by decide) x8
/-- the copy -/
theorem lw_52 {σ σ0 : Nat → Int} {K0 : gm_K} {R0 : gm_R} {M0 : gm_M} {k : Nat} (hk : k < 13) (hσ : ∀ s, s < 100 → σ s = σ0 s) : ck_Hy pg_O X LX 283 33 lw_W 245 K0 R0 M0 (ck_Q pg_O σ0 lw_W 245 K0 R0 M0 lw_o) σ (52, lw_C k, 0, 0, 245) := by
  refine ck_cpH (v := 2) (A := 227) (B := 227) (N := 849) (wa := 395) (wb := 1243) (pc' := 85) (f := 200) (cuts := []) (ch := []) (by decide) lw_hE3 hσ ⟨by decide, by decide⟩ (by decide +kernel) (fun bc bs L K R M hS => ?_) (List.all_eq_true.mp lw_g85 k (List.mem_range.mpr hk)) (fun _ h => nomatch h)
  obtain ⟨hF, hl, -, hf, -⟩ := hS
  have hF : gm_Fx pg_O 245 K R M := hF
  have hP := pg_p2 hF
  have hl : ck_gl σ (lw_A k) L := hl
  have hf : ck_gf σ (lw_F k) 245 K R M := hf
  obtain ⟨u0, l0, g0⟩ := hl.2 0 (.inr (.inr (.inl 226))) rfl
  cases g0
  obtain ⟨u1, l1, y1, rfl, -⟩ := hl.2 1 (.inl (ck_one k)) rfl
  obtain ⟨u2, lv, x1, rfl, -, e1, e2, -⟩ := hl.2 2 (.inl (ck_one 0)) rfl
  have e1 : (0 : Int) ≤ x1 := e1
  have e2 : x1 ≤ (0 : Int) := e2
  have e3 : x1 = 0 := by omega
  subst e3
  have q2 := ((hf.2.2 (0, 2, 2, ck_one k) List.mem_cons_self).2 2 (Int.le_refl _) (Int.le_refl _)).2
  have q21 : (k : Int) ≤ M 0 2 := q2.1
  have q22 : M 0 2 ≤ (k : Int) := q2.2.1
  have q4 := ((hf.2.2 (227, 1244, 1244, ck_one k) (List.mem_cons_of_mem _ List.mem_cons_self)).2 1244 (Int.le_refl _) (Int.le_refl _)).2
  have q41 : (k : Int) ≤ M 227 1244 := q4.1
  have q42 : M 227 1244 ≤ (k : Int) := q4.2.1
  have kA := (md_kd hP md_o.1.2).2
  obtain ⟨hJ, hX⟩ := hF.2.2.2.2
  obtain ⟨-, ⟨b1, b2, b3⟩, -⟩ := hX.1
  have hT : jT (fun j => M 227 (1244 + j)) := jT_of (c := M 0 2) (e := M 0 1) (by omega) (by show M 227 (1244 + 0) ≤ M 0 2; rw [Int.add_zero]; omega) hX.2.2
  have hgx : ∀ j, ¬ (395 ≤ j ∧ j < 395 + 849) → gm_cpy M 227 227 395 1244 849 227 j = M 227 j := fun j hj => gm_cpy_out hj
  have hJ2 : j_J p2_ty K (gm_cpy M 227 227 395 1244 849) := by
    unfold j_J at hJ ⊢
    rw [gm_cpy_f (by decide : ¬ 228 = 227), gm_cpy_f (by decide : ¬ 229 = 227), gm_cpy_f (by decide : ¬ 230 = 227)]
    refine j_law hJ (fun j h1 h2 => hgx j (by omega)) (jT_cg (fun j h1 h2 => ?_) hT)
    show gm_cpy M 227 227 395 1244 849 227 (395 + j) = M 227 (1244 + j)
    exact gm_cpy_at ⟨by omega, by omega⟩ (by omega)
  refine ⟨395, 1244, ⟨by decide, by decide⟩, p2_pg (gm_Fx_cpy hP (cp_tc_s hP lw_tc) hJ2) (jX_cg (fun c r hr j j1 j2 => ?_) hX), fun Q hx => ?_⟩
  · by_cases e : c = 227
    · subst e
      have := of_decide_eq_true (List.all_eq_true.mp (show (jg_e 227).all (fun r => decide (1247 ≤ r.1)) = true by decide +kernel) r hr)
      exact hgx j (by omega)
    · exact gm_cpy_ne e
  · exact cp_lp (iv := .iload_n 2) (v := 2) (ixA := 13) (ixB := 13) (jA := 1) (jB := 1) (A := 227) (B := 227) (mo := 226) (p := 52) (qA := 68) (qB := 77) (N := 849) (a := 395) (b := 1244) (offe := 29) (offb := (-30)) (by decide) (md_mo hP) (md_kd hP md_o.1.2).1 (md_kd hP md_o.1.2).1 (md_rf hP md_r.1.1) (md_rf hP md_r.1.1) (by decide +kernel) (by decide +kernel) (by decide +kernel) (by decide +kernel) ⟨by omega, ⟨by omega, by omega⟩, ⟨by omega, by omega⟩, by omega, by omega⟩ (fun _ => by decide) (by decide) (by decide +kernel) l0 lv ⟨rfl, rfl⟩ ⟨gm_vi y1, l1, by simp [gm_sort]⟩ (by decide +kernel) (by decide +kernel) (by decide +kernel) (by decide) (by decide +kernel) (by decide +kernel) (cp_sg_ci (iv := .iload_n 2) (c := 395) lv ⟨rfl, rfl⟩ (by decide +kernel) (by decide +kernel) (by decide +kernel) (by decide +kernel)) (by decide +kernel) (by decide +kernel) (cp_sg_ci (iv := .iload_n 2) (c := 1244) lv ⟨rfl, rfl⟩ (by decide +kernel) (by decide +kernel) (by decide +kernel) (by decide +kernel)) (by decide +kernel) (by decide +kernel) (by decide +kernel) (by decide +kernel) (by decide) (by decide) hx
theorem lw_fr {V W : List (Nat × Int × Int) × List (Nat × Int)} {K0 K : gm_K} {R0 R : gm_R} {M0 M : gm_M} (h : ck_fr V 245 K0 R0 M0 245 K R M) (hw : V.1.all (fun w => ck_okW W.1 245 w.1 w.2.1 w.2.2) = true) (hr : V.2.all (fun w => ck_okR W.2 245 w.1 w.2) = true) : ck_fr W 245 K0 R0 M0 245 K R M := ck_fr_tr ck_fr_0 h hw hr
theorem lw_S_s : ck_Ok p2_O X LX 283 lw_S := by
  intro d σ vs n K R M hd hn hvs hnm hF hf
  obtain ⟨_, _, rfl, rfl, rfl⟩ := hvs
  have hn : n = 245 := hn
  subst hn
  refine gm_Wp_wk (d' := 33) (bc' := 0) (bs' := 0) hd (Nat.le_refl _) (Nat.le_refl _) ?_
  refine gm_sz (gm_p_load (pc := 0) (i := .aload_n 0) (sr := 2) (j := 0) (by decide +kernel) rfl rfl rfl) ?_
  refine gm_sz (gm_p_const (pc := 1) (i := .iconst 0) (v := gm_vi 0) (by decide +kernel) (by decide +kernel)) ?_
  refine gm_c_virt (k := 226) (ci := 11) (mj := 243) (ix := 296) (pc := 2) (as := [gm_vi 0]) (st := []) (d' := 32) (bc' := 0) (bs' := 0) (by decide +kernel) (by decide +kernel) (by decide +kernel) (by decide +kernel) (md_mo hF).1 (md_mo hF).2 (by decide) (by decide +kernel) (show 1 = gm_na 243 by decide +kernel) (fun v hv => by rw [List.mem_singleton.mp hv]; simp [gm_sort]) (show 1 + 1 ≤ gm_ml 243 by decide +kernel) (Nat.le_of_ble_eq_true rfl) (by decide) (Nat.zero_le _) (Nat.zero_le _) ?_
  refine gm_sz (gm_p_load (pc := 0) (i := .aload_n 0) (sr := 2) (j := 0) (by decide +kernel) rfl rfl rfl) ?_
  refine gm_c_virt (k := 226) (ci := 11) (mj := 244) (ix := 289) (pc := 1) (as := []) (st := []) (d' := 0) (bc' := 0) (bs' := 0) (by decide +kernel) (by decide +kernel) (by decide +kernel) (by decide +kernel) (md_mo hF).1 (md_mo hF).2 (by decide) (by decide +kernel) (show 0 = gm_na 244 by decide +kernel) (fun v hv => nomatch hv) (show 0 + 1 ≤ gm_ml 244 by decide +kernel) (Nat.le_of_ble_eq_true rfl) (by decide) (Nat.zero_le _) (Nat.zero_le _) ?_
  refine gm_Wp_mono (fun o n K1 R1 M1 h => ?_) (lw_us_s 0 (ck_sn p2_O (fun _ => 0) M) [gm_vr 226] 245 K R M (Nat.le_refl _) rfl ⟨_, _, rfl, rfl, rfl⟩ (ck_sn_s p2_nmu) hF ⟨(fun _ h => nomatch h), (fun _ h => nomatch h), (fun _ h => nomatch h)⟩)
  obtain ⟨f1, f2, oc, f3, f4, f5, f6⟩ := h
  rw [List.mem_singleton.mp f3] at f4 f5 f6
  have f5 : n = 245 := f5
  subst f5
  have r9 := ((f6.2.2 (226, 9, 9, ck_one 0) List.mem_cons_self).2 9 (Int.le_refl _) (Int.le_refl _)).2
  have r91 : (0 : Int) ≤ M1 226 9 := r9.1
  have r92 : M1 226 9 ≤ (0 : Int) := r9.2.1
  have r8 := ((f6.2.2 (226, 8, 8, ck_one 0) (List.mem_cons_of_mem _ List.mem_cons_self)).2 8 (Int.le_refl _) (Int.le_refl _)).2
  have r81 : (0 : Int) ≤ M1 226 8 := r8.1
  have r82 : M1 226 8 ≤ (0 : Int) := r8.2.1
  have fr1 : ck_fr lw_W 245 K R M 245 K1 R1 M1 := lw_fr f2 (by decide) (by decide)
  rcases o with (_ | v) | x
  case inl.some => exact absurd f4 id
  case inr => exact absurd f4 id
  show gm_Wp X LX 32 0 0 243 4 (gm_ent 243 [gm_vr 226, gm_vi 0]) [] 245 K1 R1 M1 _
  refine gm_sz (gm_p_load (pc := 4) (i := .aload_n 0) (sr := 2) (j := 0) (by decide +kernel) rfl rfl rfl) ?_
  refine gm_sz (gm_p_const (pc := 5) (i := .iconst 0) (v := gm_vi 0) (by decide +kernel) (by decide +kernel)) ?_
  refine gm_sz (gm_p_puti (pc := 6) (ix := 224) (ci := 11) (j := 15) (by decide +kernel) (md_mo f1).1 (md_mo f1).2 (by decide +kernel) (by decide +kernel) (Or.inl (by decide +kernel))) ?_
  refine gm_Wp_mono (fun o n K2 R2 M2 h => ?_) (lw_9 (σ := σ) f1 (by omega) (by omega) rfl rfl rfl)
  obtain ⟨g1, g2, oc, g3, g4, g5, g6⟩ := h
  obtain ⟨v, hv, rfl⟩ := List.mem_map.mp g3
  have g5 : n = 245 := g5
  subst g5
  have fr2 : ck_fr lw_W 245 K R M 245 K1 R1 (lw_M M1 (M1 226 11)) := by
    have w : ∀ j, 0 ≤ j → j ≤ 6 → ck_okW lw_W.1 245 0 0 6 = true := fun _ _ _ => by decide
    exact ck_fr_M (lo := 0) (hi := 6) (ck_fr_M (lo := 0) (hi := 6) (ck_fr_M (lo := 0) (hi := 6) (ck_fr_M (lo := 0) (hi := 6) (ck_fr_M (lo := 0) (hi := 6) (ck_fr_M (lo := 0) (hi := 6) (ck_fr_M (lo := 0) (hi := 6) (ck_fr_M (lo := 15) (hi := 15) fr1 (by decide) (by decide) (by decide)) (by decide) (by decide) (by decide)) (by decide) (by decide) (by decide)) (by decide) (by decide) (by decide)) (by decide) (by decide) (by decide)) (by decide) (by decide) (by decide)) (by decide) (by decide) (by decide)) (by decide) (by decide) (by decide)
  have fr3 : ck_fr lw_W 245 K R M 245 K2 R2 M2 := ck_fr_tr fr2 g2 (by decide) (by decide)
  rcases o with (_ | u) | x
  case inl.none => exact absurd g4 id
  case inr => exact absurd g4 id
  obtain ⟨x, rfl, gx, gi⟩ := g4
  have hv2 : v = -1 ∨ ∃ k : Nat, k < 13 ∧ v = (k : Int) := by
    have := List.all_eq_true.mp (show lw_l.all (fun v => decide (v = -1 ∨ (0 ≤ v ∧ v < 13))) = true by decide) v hv
    rcases of_decide_eq_true this with h | h
    · exact Or.inl h
    · exact Or.inr ⟨v.toNat, by omega, by omega⟩
  refine gm_Wp_mono (Q := ck_Q pg_O σ lw_W 245 K R M lw_o) (fun o n K R M h => ⟨pg_p2 h.1, h.2⟩) ?_
  show gm_Wp X LX 33 0 0 283 5 (gm_ent 283 [gm_vr 226]) [gm_vi x] 245 K2 R2 M2 _
  have hst : ck_St pg_O σ lw_W 245 K R M [some (.inr (.inr (.inl 226))), none, none] [(.inl (ck_one v), none)] (lw_f v) (gm_ent 283 [gm_vr 226]) [gm_vi x] 245 K2 R2 M2 := by
    refine ⟨g1, ⟨rfl, fun j c hc => ?_⟩, ⟨_, _, rfl, ⟨⟨x, rfl, gx, gi⟩, trivial⟩, rfl⟩, g6, fr3⟩
    rcases j with _ | _ | _ | j
    · cases hc; exact ⟨_, rfl, rfl⟩
    · cases hc
    · cases hc
    · cases hc
  rcases hv2 with rfl | ⟨k, hk, rfl⟩
  · exact ck_go_s (σ0 := σ) (cuts := []) (by decide) lw_hE3 ck_X0 ck_l0 200 false [] 0 0 5 _ _ 245 _ σ _ _ K2 R2 M2 (fun _ _ => rfl) (fun _ h => nomatch h) hst lw_gm
  · refine ck_go_s (σ0 := σ) (cuts := [(52, lw_C k)]) (List.all_eq_true.mp lw_cu k (List.mem_range.mpr hk)) lw_hE3 ck_X0 ck_l0 200 false [(52, lw_C k, 0, 0, 245)] 0 0 5 _ _ 245 _ σ _ _ K2 R2 M2 (fun _ _ => rfl) (fun z hz => ?_) hst (List.all_eq_true.mp lw_g5 k (List.mem_range.mpr hk))
    rw [List.mem_singleton.mp hz]
    exact ⟨List.mem_cons_self, lw_52 hk (fun _ _ => rfl)⟩
end LW
