/-! THE CLASS'S law() tells the number of lines: thirteen rows of each, a number of lines each. -/
def lv80 (k : Int) : ck_Sum := ((1, 0, 0), 249, [.inr (.inr (.inl 248)), .inr (.inr (.inl 217))], ([(248, 6, 0), (249, 0, 48)], [(248, 2, 249)], [(248, 0, 0, ck_one 12), (217, 3, 3, ck_one k)]), ([(248, 3, 3), (249, 0, 47)], []), [(.inr none, 249, ([], [], [(248, 3, 3, ck_one k)]))])
def lv_init (k : Int) : ck_Sum := ((2, 2, 52), 247, [.inr (.inr (.inl 246)), .inr (.inr (.inl 217)), .inr (.inr (.inl 247))], ([(246, 14, 0)], [], [(217, 3, 3, ck_one k)]), ([], [(246, 0), (246, 1)]), [(.inr none, 249, ([(248, 6, 0), (249, 0, 48)], [(246, 0, 248), (246, 1, 247), (248, 2, 249)], [(248, 3, 3, ck_one k), (248, 1, 1, ck_one 4), (248, 0, 0, ck_one 12), (248, 2, 2, ck_one 0)]))])
def lv94 (k : Int) : ck_Sum := ((0, 0, 0), 249, [.inr (.inr (.inl 248))], ([], [], [(248, 3, 3, ck_one k)]), ([], []), [(.inr (some (.inl (ck_one k))), 249, ([], [], []))])
def lv_ll (k : Int) : ck_Sum := ((1, 0, 0), 249, [.inr (.inr (.inl 1))], ([], [(3, 8, 246)], [(248, 3, 3, ck_one k)]), ([], []), [(.inr (some (.inl (ck_one k))), 249, ([], [], []))])
def lv_E2 (k : Int) : List (Nat × List ck_Sum) := [(61, [lq_fw]), (64, [lv_ll k])]
def lv_o2 (k : Int) : List ck_Oc := [(.inr (some (.inl (ck_one k))), 249, ([], [(3, 8, 246)], [(1, 1, 1, ck_one 0)]))]
set_option maxRecDepth 100000 in
theorem lv80_e : (List.range 13).all (fun (k : Nat) => ck_ok p2_O none [] [] 58 [] 114 (lv80 k)) = true := by decide +kernel
set_option maxRecDepth 100000 in
theorem lv_init_e : (List.range 13).all (fun (k : Nat) => ck_ok p2_O none [] [(2, [pm_s79]), (58, [lv80 k])] 126 [] 104 (lv_init k)) = true := by decide +kernel
set_option maxRecDepth 100000 in
theorem lv94_e : (List.range 13).all (fun (k : Nat) => ck_ok p2_OL none [] [] 9 [] 76 (lv94 k)) = true := by decide +kernel
set_option maxRecDepth 100000 in
theorem lv_ll_e : (List.range 13).all (fun (k : Nat) => ck_ok p2_OL none [] [(9, [lv94 k])] 64 [] 90 (lv_ll k)) = true := by decide +kernel
set_option maxRecDepth 100000 in
theorem lv_g52 : (List.range 13).all (fun (k : Nat) => ck_go p2_OL none [] (lv_E2 k) 123 25 249 lq_W2 (lv_o2 k) [] 60 false [] 0 0 52 [some (.inr (.inr (.inl 1)))] [] 249 ([], [(3, 8, 246)], [(1, 1, 1, ck_one 0), (248, 3, 3, ck_one k)])) = true := by decide +kernel
set_option maxRecDepth 100000 in
theorem lv_g28 : ck_go p2_O none [] [] 123 25 245 lq_W [(.inl 0, 245, ([], [], []))] [] 60 false [] 4 454 28 [some (.inr (.inr (.inl 1)))] [] 245 ([], [], []) = true := by decide +kernel
theorem lv_one {σ : Nat → Int} {M : gm_M} {c k : Nat} {i j : Int} (h : j = i) (hM : M c i = (k : Int)) (hk : k < 13) : gm_ir (M c j) ∧ ck_gi σ (ck_one (k : Int)) (M c j) := by
  subst h
  rw [hM]
  exact ⟨⟨by omega, by omega⟩, Int.le_refl _, Int.le_refl _, fun q hq => nomatch hq⟩
section LV
variable {X : Int → Int} {LX : Nat} {Q : gm_Q}
theorem lv_all {p : Nat → Bool} (h : (List.range 13).all p = true) {k : Nat} (hk : k < 13) : p k = true := List.all_eq_true.mp h k (List.mem_range.mpr hk)
theorem lv80_s {k : Nat} (hk : k < 13) : ck_Ok p2_O X LX 58 (lv80 k) := ck_ok_s ⟨p2_nmu, ck_E0⟩ ck_X0 ck_l0 (lv_all lv80_e hk)
theorem lv_init_s {k : Nat} (hk : k < 13) : ck_Ok p2_O X LX 126 (lv_init k) := ck_ok_s ⟨p2_nmu, ck_E1 (ck_S1 pm_s79_s ck_S0) (ck_E1 (ck_S1 (lv80_s hk) ck_S0) ck_E0)⟩ ck_X0 ck_l0 (lv_all lv_init_e hk)
theorem lv94_s {k : Nat} (hk : k < 13) : ck_Ok p2_OL X LX 9 (lv94 k) := ck_ok_s ⟨pl_nmu, ck_E0⟩ ck_X0 ck_l0 (lv_all lv94_e hk)
theorem lv_ll_s {k : Nat} (hk : k < 13) : ck_Ok p2_OL X LX 64 (lv_ll k) := ck_ok_s ⟨pl_nmu, ck_E1 (ck_S1 (lv94_s hk) ck_S0) ck_E0⟩ ck_X0 ck_l0 (lv_all lv_ll_e hk)
theorem lv_mk {N : Nat} {K : gm_K} {R : gm_R} {M : gm_M} (hF : gm_Fx p2_O 245 K R M) (hN : N ≤ 400) (hu : M 215 4 = N) {k : Nat} (hk : k < 13) (h217 : M 217 3 = (k : Int)) (hq : ∀ K' R' M', lq_N N K R M K' R' M' → M' 248 3 = (k : Int) → Q (.inl (some (gm_vr 246))) 249 K' R' M') : gm_Wp X LX 3 4 454 124 0 (gm_ent 124 [gm_vr 215]) [] 245 K R M Q := by
  refine gm_sp (gm_p_new (pc := 0) (ix := 32) (ci := 10) (by decide) (by decide +kernel) (by decide +kernel)) (by decide) (by decide +kernel) ?_
  have hF1 : gm_Fx p2_O 246 (gm_nK K 245 14 0) (gm_nR R 245) (gm_nM M 245) := gm_Fx_n hF
  have fr1 : ck_fr ([], []) 245 K R M 246 (gm_nK K 245 14 0) (gm_nR R 245) (gm_nM M 245) := ck_fr_n ck_fr_0
  have k215 := lq_kd (c := 9) hF1 lq_or.1.2.2.1
  have hu1 : gm_nM M 245 215 ((4 : Nat) : Int) = (N : Int) := by
    unfold gm_nM
    rw [if_neg (by decide)]
    exact hu
  refine gm_sz (gm_p_dup (pc := 3) (by decide +kernel) (by simp [gm_sort])) ?_
  refine gm_sz (gm_p_load (pc := 4) (i := .aload_n 0) (sr := 2) (j := 0) (by decide +kernel) rfl rfl rfl) ?_
  refine gm_sz (gm_p_get (pc := 5) (ix := 14) (ci := 9) (j := 2) (by decide +kernel) k215.1 k215.2 (by decide +kernel)) ?_
  rw [if_pos (show gm_isr 9 2 = true by decide +kernel), lq_rf hF1 lq_or.2.2.2.1]
  refine gm_sz (gm_p_load (pc := 8) (i := .aload_n 0) (sr := 2) (j := 0) (by decide +kernel) rfl rfl rfl) ?_
  refine gm_sz (gm_p_get (pc := 9) (ix := 20) (ci := 9) (j := 3) (by decide +kernel) k215.1 k215.2 (by decide +kernel)) ?_
  rw [if_pos (show gm_isr 9 3 = true by decide +kernel), lq_rf hF1 lq_or.2.2.2.2]
  refine gm_sz (gm_p_load (pc := 12) (i := .aload_n 0) (sr := 2) (j := 0) (by decide +kernel) rfl rfl rfl) ?_
  refine gm_sz (gm_p_get (pc := 13) (ix := 24) (ci := 9) (j := 4) (by decide +kernel) k215.1 k215.2 (by decide +kernel)) ?_
  rw [if_neg (show ¬ gm_isr 9 4 = true by decide +kernel), hu1]
  refine gm_c_stat (mj := 125) (ix := 34) (pc := 16) (as := [gm_vr 219, gm_vi (N : Int)]) (st := [gm_vr 217, gm_vr 246, gm_vr 246]) (d' := 1) (bc' := 1) (bs' := 400) (by decide +kernel) (by decide +kernel) (by decide +kernel) (by decide +kernel) (show 2 = gm_na 125 by decide +kernel) (fun v hv => by simp only [List.mem_cons, List.not_mem_nil, or_false] at hv; rcases hv with rfl | rfl <;> simp [gm_sort]) (show 2 ≤ gm_ml 125 by decide +kernel) (Nat.le_of_ble_eq_true rfl) (by decide) (by decide) (by decide +kernel) ?_
  refine lq_cp (md_kd hF1 lq_or.1.2.2.2).1.1 (md_kd hF1 lq_or.1.2.2.2).1.2 (md_kd hF1 lq_or.1.2.2.2).2 hN (by decide) (fun M2 hM2 => ?_)
  show gm_Wp X LX 3 (4 - 1 - 1) _ 124 19 (gm_ent 124 [gm_vr 215]) [gm_vr 247, gm_vr 217, gm_vr 246, gm_vr 246] 247 (gm_nK (gm_nK K 245 14 0) 246 0 N) (gm_nR (gm_nR R 245) 246) M2 Q
  generalize hK2 : gm_nK (gm_nK K 245 14 0) 246 0 N = K2
  generalize hR2 : gm_nR (gm_nR R 245) 246 = R2
  have a6 : K2 246 = (14, 0) := by rw [← hK2]; unfold gm_nK; rw [if_neg (by decide), if_pos rfl]
  have a7 : K2 247 = (0, N) := by rw [← hK2]; unfold gm_nK; rw [if_pos rfl]
  have hF2 : gm_Fx p2_O 247 K2 R2 M2 := lq_cg hF1 (fun k hk => by rw [← hK2]; show gm_nK _ 246 0 N k = _; rw [show gm_nK (gm_nK K 245 14 0) 246 0 N k = if k = 246 + 1 then (0, N) else gm_nK K 245 14 0 k from rfl, if_neg (by omega)]) (fun k j hk => by rw [← hR2]; rw [show gm_nR (gm_nR R 245) 246 k j = if k = 246 + 1 then 0 else gm_nR R 245 k j from rfl, if_neg (by omega)]) hM2 (by decide)
  have fr2 : ck_fr ([], []) 245 K R M 247 K2 R2 M2 := by
    refine ⟨by decide, fun k hk => ?_, fun k j hk hw => ?_, fun k j hk hw => ?_⟩
    · rw [← hK2, show gm_nK (gm_nK K 245 14 0) 246 0 N k = if k = 246 + 1 then (0, N) else gm_nK K 245 14 0 k from rfl, if_neg (by omega)]
      exact fr1.2.1 k hk
    · rw [hM2 k j (by omega)]
      exact fr1.2.2.1 k j hk hw
    · rw [← hR2, show gm_nR (gm_nR R 245) 246 k j = if k = 246 + 1 then 0 else gm_nR R 245 k j from rfl, if_neg (by omega)]
      exact fr1.2.2.2 k j hk hw
  refine gm_c_init (kd := 1) (mj := 126) (ix := 40) (pc := 19) (k := 246) (as := [gm_vr 217, gm_vr 247]) (st := [gm_vr 246]) (d' := 2) (bc' := 2) (bs' := 52) (by decide +kernel) (by decide +kernel) (Or.inl rfl) (by decide +kernel) (by decide +kernel) ⟨by decide, by decide⟩ (show 2 = gm_na 126 by decide +kernel) (fun v hv => by simp only [List.mem_cons, List.not_mem_nil, or_false] at hv; rcases hv with rfl | rfl <;> simp [gm_sort]) (show 2 + 1 ≤ gm_ml 126 by decide +kernel) (Nat.le_of_ble_eq_true rfl) (by decide) (by decide) (by decide +kernel) ?_
  have h2173 : M2 217 3 = (k : Int) := by
    rw [hM2 217 3 (by decide)]
    unfold gm_nM
    rw [if_neg (by decide)]
    exact h217
  refine gm_Wp_mono (fun o n K3 R3 M3 h => ?_) (lv_init_s hk 2 (ck_sn p2_O (fun _ => 0) M2) [gm_vr 246, gm_vr 217, gm_vr 247] 247 K2 R2 M2 (Nat.le_refl _) rfl ⟨_, _, rfl, rfl, _, _, rfl, rfl, _, _, rfl, rfl, rfl⟩ (ck_sn_s p2_nmu) hF2 ⟨fun q hq => by rw [List.mem_singleton.mp hq]; exact ⟨⟨by decide, by decide⟩, a6⟩, (fun _ h => nomatch h), (fun q hq => by rw [List.mem_singleton.mp hq]; exact ⟨Nat.le_of_ble_eq_true rfl, fun j j1 j2 => (lv_one (Int.le_antisymm j2 j1) h2173 hk)⟩)⟩)
  obtain ⟨f1, f2, oc, f3, f4, f5, f6⟩ := h
  rw [List.mem_singleton.mp f3] at f4 f5 f6
  have f5 : n = 249 := f5
  subst f5
  rcases o with (_ | v) | x
  case inl.some => exact absurd f4 id
  case inr => exact absurd f4 id
  show gm_Wp X LX 3 _ _ 124 22 (gm_ent 124 [gm_vr 215]) [gm_vr 246] 249 K3 R3 M3 Q
  have b3 := (f6.2.2 (248, 3, 3, ck_one (k : Int)) List.mem_cons_self).2 3 (Int.le_refl _) (Int.le_refl _)
  have b1 := (f6.2.2 (248, 1, 1, ck_one 4) (List.mem_cons_of_mem _ List.mem_cons_self)).2 1 (Int.le_refl _) (Int.le_refl _)
  have b0 := (f6.2.2 (248, 0, 0, ck_one 12) (List.mem_cons_of_mem _ (List.mem_cons_of_mem _ List.mem_cons_self))).2 0 (Int.le_refl _) (Int.le_refl _)
  have b31 : (k : Int) ≤ M3 248 3 := b3.2.1
  have b32 : M3 248 3 ≤ (k : Int) := b3.2.2.1
  exact gm_r_ref (pc := 22) (by decide +kernel) (Or.inl ⟨"GlacierMail$Law", by decide +kernel⟩) (hq K3 R3 M3 ⟨⟨f1, ck_fr_tr fr2 f2 rfl rfl⟩, ⟨(f2.2.1 246 (by decide)).trans a6, (f2.2.1 247 (by decide)).trans a7, (f6.1 (248, 6, 0) List.mem_cons_self).2, (f6.1 (249, 0, 48) (List.mem_cons_of_mem _ List.mem_cons_self)).2⟩, ⟨(f6.2.1 (246, 0, 248) List.mem_cons_self).2, (f6.2.1 (246, 1, 247) (List.mem_cons_of_mem _ List.mem_cons_self)).2, (f6.2.1 (248, 2, 249) (List.mem_cons_of_mem _ (List.mem_cons_of_mem _ List.mem_cons_self))).2⟩, Int.le_antisymm b0.2.2.1 b0.2.1, Int.le_antisymm b1.2.2.1 b1.2.1, by omega, by omega⟩ (Int.le_antisymm b32 b31))
/-- law() from behind its text on: the number of lines -/
theorem lv_38 {L : gm_L} {K : gm_K} {R : gm_R} {M : gm_M} {k : Nat} (hk : k < 13) (hF : gm_Fx p2_O 245 K R M) (hll : L.length = 1) (l0 : L[0]? = some (some (gm_vr 1))) (hm : M 1 1 = 0) (h217 : M 217 3 = (k : Int)) (hq : ∀ n2 (K2 : gm_K) R2 M2, 245 ≤ n2 → (∀ c, c ≤ 245 → K2 c = K c) → Q (.inl (some (gm_vi (k : Int)))) n2 K2 R2 M2) : gm_Wp X LX 25 4 454 123 38 L [] 245 K R M Q := by
  have tu := ((gm_tyr_s hF (show gm_tyr p2_O 215 4 4 = some (0, 400) by decide +kernel)).2 4 (Int.le_refl _) (Int.le_refl _)).2
  have tu1 : (0 : Int) ≤ M 215 4 := tu.1
  have tu2 : M 215 4 ≤ (400 : Int) := tu.2
  obtain ⟨N, hN⟩ : ∃ N : Nat, M 215 4 = (N : Int) := ⟨(M 215 4).toNat, by omega⟩
  have hN4 : N ≤ 400 := by omega
  have k1 := lq_kd (c := 0) hF lq_or.1.1
  have k3 := lq_kd (c := 1) hF lq_or.1.2.1
  have k215 := lq_kd (c := 9) hF lq_or.1.2.2.1
  refine gm_sz (gm_p_load (pc := 38) (i := .aload_n 0) (sr := 2) (j := 0) (by decide +kernel) rfl l0 rfl) ?_
  refine gm_sz (gm_p_get (pc := 39) (ix := 23) (ci := 0) (j := 3) (by decide +kernel) k1.1 k1.2 (by decide +kernel)) ?_
  rw [if_pos (show gm_isr 0 3 = true by decide +kernel), lq_rf hF lq_or.2.1]
  refine gm_sz (gm_p_load (pc := 42) (i := .aload_n 0) (sr := 2) (j := 0) (by decide +kernel) rfl l0 rfl) ?_
  refine gm_sz (gm_p_get (pc := 43) (ix := 88) (ci := 0) (j := 13) (by decide +kernel) k1.1 k1.2 (by decide +kernel)) ?_
  rw [if_pos (show gm_isr 0 13 = true by decide +kernel), lq_rf hF lq_or.2.2.1]
  refine gm_c_virt (k := 215) (ci := 9) (mj := 124) (ix := 142) (pc := 46) (as := []) (st := [gm_vr 3]) (d' := 3) (bc' := 4) (bs' := 454) (by decide +kernel) (by decide +kernel) (by decide +kernel) (by decide +kernel) k215.1 k215.2 (by decide) (by decide +kernel) (show 0 = gm_na 124 by decide +kernel) (fun v hv => nomatch hv) (show 0 + 1 ≤ gm_ml 124 by decide +kernel) (Nat.le_of_ble_eq_true rfl) (by decide) (Nat.le_refl _) (Nat.le_refl _) ?_
  refine lv_mk hF hN4 hN hk h217 (fun K1 R1 M1 h1 h48 => ?_)
  obtain ⟨⟨g1, g2⟩, ⟨k6, k7, k8, k9⟩, ⟨r0, r1, r2⟩, m0, m1, m3⟩ := h1
  show gm_Wp X LX 25 _ _ 123 49 L [gm_vr 246, gm_vr 3] 249 K1 R1 M1 _
  have kt := lq_kd (c := 1) g1 lq_or.1.2.1
  refine gm_sz (gm_p_putr (pc := 49) (ix := 146) (ci := 1) (j := 8) (by decide +kernel) kt.1 kt.2 (by decide +kernel) (by decide +kernel) (by decide +kernel)) ?_
  have un : ∀ (k : Nat) (j : Int), ¬ k = 3 → gm_uR R1 3 ((8 : Nat) : Int) 246 k j = R1 k j := fun k j hk => by unfold gm_uR; rw [if_neg (fun h => hk h.1)]
  have u8 : gm_uR R1 3 ((8 : Nat) : Int) 246 3 8 = 246 := by unfold gm_uR; rw [if_pos ⟨rfl, rfl⟩]
  have gF : gm_Fx p2_O 249 K1 (gm_uR R1 3 ((8 : Nat) : Int) 246) M1 := gm_Fx_R g1 (show p2_O.2.1 3 ((8 : Nat) : Int) = none by decide +kernel)
  generalize gm_uR R1 3 ((8 : Nat) : Int) 246 = R3 at *
  have gL : gm_Fx p2_OL 249 K1 R3 M1 := pl_i gF hN4 k6 k7 k8 k9 ((un 246 0 (by decide)).trans r0) ((un 246 1 (by decide)).trans r1) ((un 248 2 (by decide)).trans r2) m0 m1 m3
  have h11 : M1 1 1 = 0 := (g2.2.2.1 1 1 (by decide) (fun w hw => nomatch hw)).trans hm
  have gk : ∀ c, c ≤ 245 → K1 c = K c := fun c hc => g2.2.1 c hc
  have hl : ck_gl (fun _ => 0) [some (.inr (.inr (.inl 1)))] L := by
    refine ⟨hll.symm, fun j b hb => ?_⟩
    rcases j with _ | j
    · have hb : some (some (.inr (.inr (.inl 1)))) = some (some b) := hb
      cases hb
      exact ⟨_, l0, rfl⟩
    · have hb : none = some (some b) := hb
      cases hb
  have hf : ck_gf (fun _ => 0) ([], [(3, 8, 246)], [(1, 1, 1, ck_one 0), (248, 3, 3, ck_one (k : Int))]) 249 K1 R3 M1 := by
    refine ⟨(fun q hq => nomatch hq), fun q hq => ?_, fun q hq => ?_⟩
    · rw [List.mem_singleton.mp hq]
      exact ⟨by decide, u8⟩
    · simp only [List.mem_cons, List.not_mem_nil, or_false] at hq
      rcases hq with rfl | rfl
      · exact ⟨by decide, fun j j1 j2 => lv_one (k := 0) (Int.le_antisymm j2 j1) h11 (by decide)⟩
      · exact ⟨Nat.le_of_ble_eq_true rfl, fun j j1 j2 => lv_one (Int.le_antisymm j2 j1) h48 hk⟩
  refine gm_Wp_mono (fun o n K4 R4 M4 h => ?_) (gm_Wp_wk (Nat.le_refl _) (Nat.zero_le _) (Nat.zero_le _) (ck_go_s (σ0 := fun _ => 0) (W := lq_W2) (n0 := 249) (K0 := K1) (R0 := R3) (M0 := M1) (outs := lv_o2 k) (cuts := []) (by decide) ⟨pl_nmu, ck_E1 (ck_S1 lq_fw_s ck_S0) (ck_E1 (ck_S1 (lv_ll_s hk) ck_S0) ck_E0)⟩ ck_X0 ck_l0 60 false [] 0 0 52 [some (.inr (.inr (.inl 1)))] [] 249 ([], [(3, 8, 246)], [(1, 1, 1, ck_one 0), (248, 3, 3, ck_one (k : Int))]) (fun _ => 0) L [] K1 R3 M1 (fun _ _ => rfl) (fun _ h => nomatch h) ⟨gL, hl, rfl, hf, ck_fr_0⟩ (lv_all lv_g52 hk)))
  obtain ⟨e1, e2, oc, e3, e4, e5, e6⟩ := h
  rw [List.mem_singleton.mp e3] at e4
  rcases o with (_ | v) | x
  · exact absurd e4 id
  · obtain ⟨x, rfl, -, g1, g2, -⟩ := e4
    have g1 : (k : Int) ≤ x := g1
    have g2 : x ≤ (k : Int) := g2
    have g3 : x = (k : Int) := Int.le_antisymm g2 g1
    rw [g3]
    exact hq _ _ _ _ (Nat.le_trans (by decide) e2.1) (fun c hc => (e2.2.1 c (by omega)).trans (gk c hc))
  · exact absurd e4 id
theorem g_txt_b {f : Int → Int} {e : Int} : ∀ (t : Nat) (b : Int), 0 ≤ b → b ≤ e → t ≤ 12 → 0 ≤ (g_txt f e t b).2 ∧ ((g_txt f e t b).1 = true → (g_txt f e t b).2 ≤ 12) ∧ (¬ (g_txt f e t b).1 = true → (g_txt f e t b).2 ≤ e) := by
  intro t
  induction t with
  | zero => exact fun b h0 h1 _ => ⟨h0, (fun h => by cases h), fun _ => h1⟩
  | succ t ih =>
    intro b h0 h1 ht
    obtain ⟨a1, a2⟩ := g_line_in (f := f) h0 h1
    by_cases h : (g_line f e b).1 = true
    · by_cases h2 : tx_k f e (g_line f e b).2 = 256
      · rw [g_t1 h h2]
        exact ⟨by show 0 ≤ 12 - (t : Int); omega, (fun _ => by show 12 - (t : Int) ≤ 12; omega), fun h => absurd rfl h⟩
      · by_cases h3 : tx_k f e (g_line f e b).2 = 59
        · rw [g_t3 h h2 h3]
          obtain ⟨n1, n2, -⟩ := tx_nb (f := f) a2
          exact ih _ (by omega) n2 (by omega)
        · rw [g_t2 h h2 h3]
          exact ⟨by show 0 ≤ (g_line f e b).2; omega, (fun h => by cases h), fun _ => a2⟩
    · rw [g_t0 h]
      exact ⟨by show 0 ≤ (g_line f e b).2; omega, (fun h => by cases h), fun _ => a2⟩
theorem g_law_b {f : Int → Int} {e : Int} (h0 : 0 ≤ e) : 0 ≤ (g_law f e).2 ∧ ((g_law f e).1 = true → (g_law f e).2 ≤ 12) ∧ (¬ (g_law f e).1 = true → (g_law f e).2 ≤ e) := by
  obtain ⟨a1, a2, -⟩ := tx_gb (f := f) h0
  by_cases h : tx_k f e (tx_g f e 0) = 256
  · rw [g_w0 h]
    exact ⟨Int.le_refl _, (fun _ => by decide), fun h => absurd rfl h⟩
  · rw [g_w1 h]
    exact g_txt_b 12 _ a1 a2 (by decide)
noncomputable def lv_Qf (K : gm_K) (f : Int → Int) (e : Int) : gm_Q := fun o _ K2 _ M2 => (o = .inl (some (gm_vi (-1))) ∧ (∀ k, k ≤ 245 → K2 k = K k) ∧ (g_law f e).1 = true ∧ M2 217 3 = (g_law f e).2) ∨ (¬ (g_law f e).1 = true ∧ o = .inl (some (gm_vi (g_law f e).2)))
/-- the class's law() tells what the grammar tells -/
theorem lv_law {K : gm_K} {R : gm_R} {M : gm_M} {e : Int} (hF : gm_Fx p2_O 245 K R M) (he : M 1 1 = e) (h1 : (g_law (M 2) e).1 = true → ∀ n2 (K2 : gm_K) R2 M2, 245 ≤ n2 → (∀ c, c ≤ 245 → K2 c = K c) → Q (.inl (some (gm_vi (g_law (M 2) e).2))) n2 K2 R2 M2) (h0 : ¬ (g_law (M 2) e).1 = true → ∀ n2 (K2 : gm_K) R2 M2, 245 ≤ n2 → (∀ c, c ≤ 245 → K2 c = K c) → Q (.inr 0) n2 K2 R2 M2) : gm_Wp X LX 26 4 454 123 0 (gm_ent 123 [gm_vr 1]) [] 245 K R M Q := by
  have te := ((gm_tyr_s hF (show gm_tyr p2_O 1 1 1 = some (0, 400) by decide +kernel)).2 1 (Int.le_refl _) (Int.le_refl _)).2
  rw [he] at te
  have te : 0 ≤ e ∧ e ≤ 400 := te
  have k1 := lq_kd (c := 0) hF lq_or.1.1
  have k215 := lq_kd (c := 9) hF lq_or.1.2.2.1
  have k217 : K 217 = (6, 0) := (hF.1 217 (6, 0) (by decide +kernel)).2.2
  obtain ⟨b0, b1, b2⟩ := g_law_b (f := M 2) te.1
  refine gm_sz (gm_p_load (pc := 0) (i := .aload_n 0) (sr := 2) (j := 0) (by decide +kernel) rfl rfl rfl) ?_
  refine gm_sz (gm_p_load (pc := 1) (i := .aload_n 0) (sr := 2) (j := 0) (by decide +kernel) rfl rfl rfl) ?_
  refine gm_sz (fw_gr (pc := 2) (ix := 88) (ci := 0) (j := 13) (r := 215) (by decide +kernel) k1 (by decide +kernel) (by decide +kernel) (lq_rf hF lq_or.2.2.1)) ?_
  refine gm_sz (gm_p_load (pc := 5) (i := .aload_n 0) (sr := 2) (j := 0) (by decide +kernel) rfl rfl rfl) ?_
  refine gm_sz (fw_gi (pc := 6) (ix := 13) (ci := 0) (j := 1) (x := e) (by decide +kernel) k1 (by decide +kernel) (by decide +kernel) he) ?_
  refine gm_c_up (k := 215) (ci := 9) (mj := 72) (ix := 139) (pc := 9) (as := [gm_vi e]) (st := [gm_vr 1]) (d' := 25) (bc' := 0) (bs' := 0) (by decide +kernel) (by decide +kernel) (by decide +kernel) k215.1 k215.2 (show 1 = gm_na 72 by decide +kernel) (fw_c1 fw_si) (show 2 ≤ gm_ml 72 by decide +kernel) (Nat.le_of_ble_eq_true rfl) (by decide) (Nat.zero_le _) (Nat.zero_le _) ?_
  refine gm_Wp_mono (fun o n K1 R1 M1 h => ?_) (gm_Wp_and (pm_s77_s 25 (ck_sn p2_O (fun _ => 0) M) [gm_vr 215, gm_vi e] 245 K R M (by decide) rfl ⟨_, _, rfl, rfl, _, _, rfl, ⟨e, rfl, ⟨by omega, by omega⟩, te.1, te.2, fun _ h => nomatch h⟩, rfl⟩ (ck_sn_s p2_nmu) hF ⟨(fun _ h => nomatch h), (fun _ h => nomatch h), fun q hq => ?_⟩) (tx_c72 (Q := lv_Qf K (M 2) e) (by decide) hF te (fun K2 R2 M2 a b c => Or.inl ⟨rfl, a, b, c⟩) (fun K2 R2 M2 a => Or.inr ⟨a, rfl⟩)))
  · obtain ⟨⟨f1, f2, oc, f3, f4, f5, -⟩, o2, n2, K2, R2, M2, hq, hdo, hdm⟩ := h
    have hx : (∃ x, o = .inl (some (gm_vi x)) ∧ gm_ir x ∧ -1 ≤ x ∧ x ≤ 400) ∧ n = 245 := by
      rcases List.mem_cons.mp f3 with rfl | f3
      · rcases o with (_ | v) | x9
        · exact absurd f4 id
        · obtain ⟨x, rfl, hx, g1, g2, -⟩ := f4
          exact ⟨⟨x, rfl, hx, g1, Int.le_trans g2 (by decide)⟩, f5⟩
        · exact absurd f4 id
      · rw [List.mem_singleton.mp f3] at f4 f5
        rcases o with (_ | v) | x9
        · exact absurd f4 id
        · obtain ⟨x, rfl, hx, g1, g2, -⟩ := f4
          exact ⟨⟨x, rfl, hx, Int.le_trans (by decide) g1, g2⟩, f5⟩
        · exact absurd f4 id
    obtain ⟨⟨x, rfl, hx, hx1, hx2⟩, rfl⟩ := hx
    show gm_Wp X LX 26 _ _ 123 12 (gm_ent 123 [gm_vr 1]) [gm_vi x, gm_vr 1] 245 K1 R1 M1 Q
    have F2 : gm_Fx p2_O 245 K1 R1 (gm_uM M1 1 2 x) := gm_Fx_M f1 (show gm_tyw p2_O 1 2 2 (-1) 400 = true by decide +kernel) (Int.le_refl _) (Int.le_refl _) hx1 hx2
    have F3 : gm_Fx p2_O 245 K1 R1 (gm_uM (gm_uM M1 1 2 x) 1 1 0) := gm_Fx_M F2 (show gm_tyw p2_O 1 1 1 0 400 = true by decide +kernel) (Int.le_refl _) (Int.le_refl _) (Int.le_refl _) (by decide)
    have j1 := lq_kd (c := 0) f1 lq_or.1.1
    refine gm_sz (fw_pi (pc := 12) (ix := 17) (ci := 0) (j := 2) (M' := gm_uM M1 1 2 x) (by decide +kernel) j1 (by decide +kernel) (by decide +kernel) (by decide +kernel) rfl) ?_
    refine gm_sz (gm_p_load (pc := 15) (i := .aload_n 0) (sr := 2) (j := 0) (by decide +kernel) rfl rfl rfl) ?_
    refine gm_sz (gm_p_const (pc := 16) (i := .iconst 0) (v := gm_vi 0) (by decide +kernel) (by decide +kernel)) ?_
    refine gm_sz (fw_pi (pc := 17) (ix := 13) (ci := 0) (j := 1) (M' := gm_uM (gm_uM M1 1 2 x) 1 1 0) (by decide +kernel) j1 (by decide +kernel) (by decide +kernel) (by decide +kernel) rfl) ?_
    refine gm_sz (gm_p_load (pc := 20) (i := .aload_n 0) (sr := 2) (j := 0) (by decide +kernel) rfl rfl rfl) ?_
    refine gm_sz (fw_gi (pc := 21) (ix := 17) (ci := 0) (j := 2) (x := x) (by decide +kernel) j1 (by decide +kernel) (by decide +kernel) ((uM_ne (by omega)).trans uM_at)) ?_
    refine gm_sz (gm_p_const (pc := 24) (i := .iconst (-1)) (v := gm_vi (-1)) (by decide +kernel) (by decide +kernel)) ?_
    refine fw_ic (cc := .eq) (pc := 25) (off := 13) (by decide +kernel) (by decide) hx ⟨by decide, by decide⟩ (fun hp => ?_) (fun hp => ?_)
    · have hp : x = -1 := hp
      rcases hq with ⟨rfl, hk, hg, h217⟩ | ⟨hg, rfl⟩
      · obtain ⟨k, hk9⟩ : ∃ k : Nat, (g_law (M 2) e).2 = (k : Int) := ⟨_, (Int.toNat_of_nonneg b0).symm⟩
        have hk12 := b1 hg
        have hk13 : k < 13 := by omega
        have h9 := h1 hg
        rw [hk9] at h9
        have kk : K1 217 = (6, 0) := (f2.2.1 217 (by decide)).trans k217
        have e3 := (hdm 217 (by decide) (by decide) ((f2.2.1 217 (by decide)).trans (hk 217 (by decide)).symm)).2.2 2 3 (by rw [kk]) (by decide +kernel) (by decide +kernel)
        have e3 : Int32.ofInt (M1 217 3) = Int32.ofInt (M2 217 3) := e3
        have t217 := ((gm_tyr_s f1 (show gm_tyr p2_O 217 3 3 = some (0, 12) by decide +kernel)).2 3 (Int.le_refl _) (Int.le_refl _)).1
        have e4 : M1 217 3 = (k : Int) := (dt_i e3 t217 (by rw [h217, hk9]; exact ⟨by omega, by omega⟩)).trans (h217.trans hk9)
        refine gm_Wp_wk (d' := 25) (bc' := 4) (bs' := 454) (by decide) (Nat.le_refl _) (Nat.le_refl _) (lv_38 hk13 F3 rfl rfl uM_at (by rw [uM_ne (by omega), uM_ne (by omega)]; exact e4) (fun n2 K2 R2 M2 hn hk2 => h9 _ _ _ _ hn (fun c hc => (hk2 c hc).trans (f2.2.1 c hc))))
      · have hdo : Int32.ofInt x = Int32.ofInt (g_law (M 2) e).2 := hdo
        have b3 := b2 hg
        have := dt_i hdo hx ⟨by omega, by omega⟩
        omega
    · have hp : ¬ x = -1 := hp
      rcases hq with ⟨rfl, hk, hg, h217⟩ | ⟨hg, rfl⟩
      · have hdo : Int32.ofInt x = Int32.ofInt (-1) := hdo
        exact absurd (dt_i hdo hx ⟨by decide, by decide⟩) hp
      · have hl : ck_gl (fun _ => 0) [some (.inr (.inr (.inl 1)))] (gm_ent 123 [gm_vr 1]) := by
          refine ⟨rfl, fun j b hb => ?_⟩
          rcases j with _ | j
          · have hb : some (some (.inr (.inr (.inl 1)))) = some (some b) := hb
            cases hb
            exact ⟨_, rfl, rfl⟩
          · have hb : none = some (some b) := hb
            cases hb
        refine gm_Wp_mono (fun o n K4 R4 M4 h => ?_) (gm_Wp_wk (d' := 25) (bc' := 4) (bs' := 454) (by decide) (Nat.le_refl _) (Nat.le_refl _) (ck_go_s (O := p2_O) (E := []) (σ0 := fun _ => 0) (W := lq_W) (n0 := 245) (K0 := K1) (R0 := R1) (M0 := gm_uM (gm_uM M1 1 2 x) 1 1 0) (outs := [(.inl 0, 245, ([], [], []))]) (cuts := []) (by decide) ⟨p2_nmu, ck_E0⟩ ck_X0 ck_l0 60 false [] 4 454 28 [some (.inr (.inr (.inl 1)))] [] 245 ([], [], []) (fun _ => 0) (gm_ent 123 [gm_vr 1]) [] K1 R1 (gm_uM (gm_uM M1 1 2 x) 1 1 0) (fun _ _ => rfl) (fun _ h => nomatch h) ⟨F3, hl, rfl, ⟨(fun _ h => nomatch h), (fun _ h => nomatch h), (fun _ h => nomatch h)⟩, ck_fr_0⟩ lv_g28))
        obtain ⟨e1, e2, oc, e3, e4, e5, e6⟩ := h
        rw [List.mem_singleton.mp e3] at e4
        rcases o with (_ | v) | x9
        · exact absurd e4 id
        · exact absurd e4 id
        · have e4 : 0 = x9 := e4
          subst e4
          exact h0 hg _ _ _ _ e2.1 (fun c hc => (e2.2.1 c hc).trans (f2.2.1 c hc))
  · rw [List.mem_singleton.mp hq]
    refine ⟨by decide, fun j j1 j2 => ?_⟩
    have : j = 3 := Int.le_antisymm j2 j1
    subst this
    have t := (gm_tyr_s hF (show gm_tyr p2_O 216 3 3 = some (0, 400) by decide +kernel)).2 3 (Int.le_refl _) (Int.le_refl _)
    have hs : ck_sn p2_O (fun _ => 0) M 13 = M 216 3 := ck_sn_s p2_nmu (13, 216, 3) (show (13, 216, 3) ∈ p2_nm by decide)
    exact ⟨t.1, t.2.1, t.2.2, ck_gt1 (by decide) (show M 216 3 = ck_sn p2_O (fun _ => 0) M 13 + 0 by rw [hs]; omega)⟩
theorem lv_hit : gm_hit (gm_ow 122) 3 0 false (gm_hh 122) = some (some 11) := by decide +kernel
/-- the law's own method that calls it -/
theorem lv_h122 {K : gm_K} {R : gm_R} {M : gm_M} {e : Int} (hF : gm_Fx p2_O 245 K R M) (he : M 1 1 = e) (h1 : (g_law (M 2) e).1 = true → ∀ n2 (K2 : gm_K) R2 M2, 245 ≤ n2 → (∀ c, c ≤ 245 → K2 c = K c) → M2 245 0 = (g_law (M 2) e).2 → Q (.inl (some (gm_vi 0))) n2 K2 R2 M2) (h0 : ¬ (g_law (M 2) e).1 = true → ∀ n2 (K2 : gm_K) R2 M2, 245 ≤ n2 → (∀ c, c ≤ 245 → K2 c = K c) → Q (.inl (some (gm_vi 1))) n2 K2 R2 M2) : gm_Wp X LX 27 4 454 122 0 (gm_ent 122 [gm_vr 1, gm_vr 245]) [] 245 K R M Q := by
  have k1 := lq_kd (c := 0) hF lq_or.1.1
  have k245 : K 245 = (2, 1) := (hF.1 245 (2, 1) (by decide +kernel)).2.2
  have te := ((gm_tyr_s hF (show gm_tyr p2_O 1 1 1 = some (0, 400) by decide +kernel)).2 1 (Int.le_refl _) (Int.le_refl _)).2
  rw [he] at te
  have te : 0 ≤ e ∧ e ≤ 400 := te
  obtain ⟨b0, b1, b2⟩ := g_law_b (f := M 2) te.1
  refine gm_sz (gm_p_load (pc := 0) (i := .aload_n 1) (sr := 2) (j := 1) (by decide +kernel) rfl rfl rfl) ?_
  refine gm_sz (gm_p_const (pc := 1) (i := .iconst 0) (v := gm_vi 0) (by decide +kernel) (by decide +kernel)) ?_
  refine gm_sz (gm_p_load (pc := 2) (i := .aload_n 0) (sr := 2) (j := 0) (by decide +kernel) rfl rfl rfl) ?_
  refine gm_c_virtH (k := 1) (ci := 0) (mj := 123) (ix := 17) (pc := 3) (as := []) (st := [gm_vi 0, gm_vr 245]) (d' := 26) (bc' := 4) (bs' := 454) (by decide +kernel) (by decide +kernel) (by decide +kernel) k1.1 k1.2 (by decide) (by decide +kernel) (show 0 = gm_na 123 by decide +kernel) fw_c0 (show 1 ≤ gm_ml 123 by decide +kernel) (Nat.le_of_ble_eq_true rfl) (by decide) (Nat.le_refl _) (Nat.le_refl _) ?_
  refine lv_law hF he (fun hg n2 K2 R2 M2 hn hk => ?_) (fun hg n2 K2 R2 M2 hn hk => ?_)
  · show gm_Wp X LX 27 _ _ 122 6 (gm_ent 122 [gm_vr 1, gm_vr 245]) [gm_vi (g_law (M 2) e).2, gm_vi 0, gm_vr 245] n2 K2 R2 M2 Q
    have q245 : K2 245 = (2, 1) := (hk 245 (Nat.le_refl _)).trans k245
    have b3 := b1 hg
    have w : gm_w (g_law (M 2) e).2 = (g_law (M 2) e).2 := gm_w_id (by omega) (by omega)
    refine gm_sz (gm_p_i2l (pc := 6) (by decide +kernel)) ?_
    refine gm_sz (gm_p_last (pc := 7) (k := 245) (by decide +kernel) ⟨by decide, hn⟩ (by rw [q245]) (by rw [q245]; decide)) ?_
    refine gm_sz (gm_p_goto (pc := 8) (off := 6) (by decide +kernel) (by decide)) ?_
    refine gm_sz (gm_p_const (pc := 14) (i := .iconst 0) (v := gm_vi 0) (by decide +kernel) (by decide +kernel)) ?_
    exact gm_r_int (pc := 15) (by decide +kernel) (Or.inl (by decide +kernel)) (h1 hg _ _ _ _ hn hk (by rw [w]; exact uM_at))
  · show (match gm_hit (gm_ow 122) 3 0 false (gm_hh 122) with
      | some (some h) => gm_Wp X LX 27 _ _ 122 h (gm_ent 122 [gm_vr 1, gm_vr 245]) [gm_vo 4000] n2 K2 R2 M2 Q
      | some none => Q (.inr 0) n2 K2 R2 M2
      | none => False)
    rw [lv_hit]
    show gm_Wp X LX 27 _ _ 122 11 (gm_ent 122 [gm_vr 1, gm_vr 245]) [gm_vo 4000] n2 K2 R2 M2 Q
    refine gm_sz (gm_p_stor (pc := 11) (i := .astore_n 2) (sr := 2) (j := 2) (by decide +kernel) rfl (show 3 ≤ _ from Nat.le_of_ble_eq_true rfl) rfl) ?_
    refine gm_sz (gm_p_const (pc := 12) (i := .iconst 1) (v := gm_vi 1) (by decide +kernel) (by decide +kernel)) ?_
    exact gm_r_int (pc := 13) (by decide +kernel) (Or.inl (by decide +kernel)) (h0 hg _ _ _ _ hn hk)
end LV
