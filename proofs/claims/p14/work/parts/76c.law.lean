/-! THE CLASS'S law(), put together: a new Law with u codes, u from 0 to 400. -/
theorem lq_tabe : (List.range 16).all (fun i => decide (ck_tab p2_T (240 + i) = none) || decide (i < 6)) = true := by decide +kernel
theorem lq_tabl : p2_T.length = 16 := by decide +kernel
theorem lq_tab {k : Nat} (h : ¬ k < 246) : ck_tab p2_T k = none := by
  by_cases hk : k < 256
  · have := List.all_eq_true.mp lq_tabe (k - 240) (List.mem_range.mpr (by omega))
    simp only [Bool.or_eq_true, decide_eq_true_eq] at this
    rw [show 240 + (k - 240) = k by omega] at this
    rcases this with h1 | h1
    · exact h1
    · omega
  · unfold ck_tab
    rw [List.getElem?_eq_none (by rw [lq_tabl]; omega)]
theorem pl_o {n : Nat} {K : gm_K} {R : gm_R} {M : gm_M} (h : gm_Fx p2_OL n K R M) : gm_Fx p2_O n K R M := by
  refine ⟨fun k q hq => h.1 k q ?_, fun k j r hr => h.2.1 k j r ?_, fun k r hr => h.2.2.1 k r ?_, fun k r hr => h.2.2.2.1 k r ?_, h.2.2.2.2.1⟩
  · by_cases hk : k < 246
    · show (if k < 246 then p2_O.1 k else _) = some q
      rw [if_pos hk]; exact hq
    · have : (match ck_tab p2_T k with | some e => some e.1 | none => none) = some q := hq
      rw [lq_tab hk] at this
      cases this
  · by_cases hk : k < 246
    · show (if k < 246 then p2_O.2.1 k j else _) = some r
      rw [if_pos hk]; exact hr
    · have : (match ck_tab p2_T k with | some e => e.2.1.lookup j | none => none) = some r := hr
      rw [lq_tab hk] at this
      cases this
  · by_cases hk : k < 246
    · show r ∈ (if k < 246 then p2_O.2.2.ty k else _)
      rw [if_pos hk]; exact hr
    · have : r ∈ (match ck_tab p2_T k with | some e => e.2.2 | none => []) := hr
      rw [lq_tab hk] at this
      cases this
  · show r ∈ (if k = 247 then [(-1, -1)] else j_fp k)
    rw [if_neg]
    · exact hr
    · rintro rfl
      have hr : r ∈ ([] : List (Int × Int)) := by rw [← show j_fp 247 = [] by decide]; exact hr
      cases hr
/-- a world becomes one with a law -/
theorem pl_i {K : gm_K} {R : gm_R} {M : gm_M} {N : Nat} (h : gm_Fx p2_O 249 K R M) (hN : N ≤ 400) (k6 : K 246 = (14, 0)) (k7 : K 247 = (0, N)) (k8 : K 248 = (6, 0)) (k9 : K 249 = (0, 48)) (r0 : R 246 0 = 248) (r1 : R 246 1 = 247) (r2 : R 248 2 = 249) (m0 : M 248 0 = 12) (m1 : M 248 1 = 4) (m3 : 0 ≤ M 248 3 ∧ M 248 3 ≤ 12) : gm_Fx p2_OL 249 K R M := by
  refine ⟨fun k q hq => ?_, fun k j r hr => ?_, fun k r hr => ?_, fun k r hr => ?_, h.2.2.2.2, N, hN, k7⟩
  · replace hq : (if k < 246 then p2_O.1 k else if k = 246 then some (14, 0) else if k = 247 then none else if k = 248 then some (6, 0) else if k = 249 then some (0, 48) else none) = some q := hq
    by_cases hk : k < 246
    · rw [if_pos hk] at hq; exact h.1 k q hq
    rw [if_neg hk] at hq
    by_cases e : k = 246
    · rw [if_pos e] at hq; cases hq; subst e; exact ⟨by decide, by decide, k6⟩
    rw [if_neg e] at hq
    by_cases e : k = 247
    · rw [if_pos e] at hq; cases hq
    rw [if_neg e] at hq
    by_cases e : k = 248
    · rw [if_pos e] at hq; cases hq; subst e; exact ⟨by decide, by decide, k8⟩
    rw [if_neg e] at hq
    by_cases e : k = 249
    · rw [if_pos e] at hq; cases hq; subst e; exact ⟨by decide, by decide, k9⟩
    rw [if_neg e] at hq
    cases hq
  · replace hr : (if k < 246 then p2_O.2.1 k j else if k = 246 then (if j = 0 then some 248 else if j = 1 then some 247 else none) else if k = 248 then (if j = 2 then some 249 else none) else none) = some r := hr
    by_cases hk : k < 246
    · rw [if_pos hk] at hr; exact h.2.1 k j r hr
    rw [if_neg hk] at hr
    by_cases e : k = 246
    · rw [if_pos e] at hr; subst e
      by_cases e : j = 0
      · rw [if_pos e] at hr; cases hr; subst e; exact ⟨by decide, r0⟩
      rw [if_neg e] at hr
      by_cases e : j = 1
      · rw [if_pos e] at hr; cases hr; subst e; exact ⟨by decide, r1⟩
      rw [if_neg e] at hr
      cases hr
    rw [if_neg e] at hr
    by_cases e : k = 248
    · rw [if_pos e] at hr; subst e
      by_cases e : j = 2
      · rw [if_pos e] at hr; cases hr; subst e; exact ⟨by decide, r2⟩
      rw [if_neg e] at hr
      cases hr
    rw [if_neg e] at hr
    cases hr
  · replace hr : r ∈ (if k < 246 then p2_O.2.2.ty k else if k = 248 then [(0, 0, 12, 12), (1, 1, 4, 4), (3, 3, 0, 12)] else []) := hr
    by_cases hk : k < 246
    · rw [if_pos hk] at hr; exact h.2.2.1 k r hr
    rw [if_neg hk] at hr
    by_cases e : k = 248
    · rw [if_pos e] at hr; subst e
      refine ⟨by decide, fun j j1 j2 => ?_⟩
      simp only [List.mem_cons, List.not_mem_nil, or_false] at hr
      rcases hr with rfl | rfl | rfl
      · have : j = 0 := Int.le_antisymm j2 j1
        subst this
        rw [m0]; decide
      · have : j = 1 := Int.le_antisymm j2 j1
        subst this
        rw [m1]; decide
      · have : j = 3 := Int.le_antisymm j2 j1
        subst this
        exact ⟨⟨by omega, by omega⟩, m3⟩
    rw [if_neg e] at hr
    cases hr
  · replace hr : r ∈ (if k = 247 then [(-1, -1)] else j_fp k) := hr
    by_cases e : k = 247
    · subst e; decide
    rw [if_neg e] at hr
    exact h.2.2.2.1 k r hr
section LQ
variable {X : Int → Int} {LX : Nat} {Q : gm_Q}
/-- Arrays.copyOf of the codes -/
theorem lq_cp {n N : Nat} {K : gm_K} {R : gm_R} {M : gm_M} (hk : 1 ≤ 219 ∧ 219 ≤ n) (hK : (K 219).1 = 0) (h2 : (K 219).2 = 400) (hN : N ≤ 400) (hn9 : n + 1 < 100000) (hq : ∀ M' : gm_M, (∀ k j, k ≤ n → M' k j = M k j) → Q (.inl (some (gm_vr (n + 1)))) (n + 1) (gm_nK K n 0 N) (gm_nR R n) M') : gm_Wp X LX 1 1 400 125 0 (gm_ent 125 [gm_vr 219, gm_vi (N : Int)]) [] n K R M Q := by
  have iN : gm_ir (N : Int) := ⟨by omega, by omega⟩
  have wN : gm_w (N : Int) = N := gm_w_id (by omega) (by omega)
  have tN : (gm_w (N : Int)).toNat = N := by rw [wN]; omega
  refine gm_sz (gm_p_load (pc := 0) (i := .iload_n 1) (sr := 0) (j := 1) (by decide +kernel) rfl rfl rfl) ?_
  refine gm_sz (gm_p_load (pc := 1) (i := .aload_n 0) (sr := 2) (j := 0) (by decide +kernel) rfl rfl rfl) ?_
  refine gm_sz (gm_p_alen (pc := 2) (by decide +kernel) hk (by omega)) ?_
  rw [show ((K 219).2 : Int) = 400 by rw [h2]; rfl]
  refine gm_b_ic (cc := .ne) (pc := 3) (off := 11) (by decide +kernel) (by decide) (fun _ => ?_) (fun hp => ?_)
  · skip
    refine gm_sz (gm_p_load (pc := 14) (i := .iload_n 1) (sr := 0) (j := 1) (by decide +kernel) rfl rfl rfl) ?_
    refine gm_sp (gm_p_newa (pc := 15) (at0 := .int) (kd := 0) (e0 := (N : Int)) hn9 (by decide +kernel) (Or.inl ⟨rfl, rfl⟩) ⟨by omega, by omega⟩) (Nat.le_refl 1) (by omega) ?_
    rw [tN]
    have k9 : gm_nK K n 0 N 219 = K 219 := by unfold gm_nK; rw [if_neg (by omega)]
    have kn : gm_nK K n 0 N (n + 1) = (0, N) := by unfold gm_nK; rw [if_pos rfl]
    refine gm_sz (gm_p_stor (pc := 17) (i := .astore_n 2) (sr := 2) (j := 2) (by decide +kernel) rfl (by show 2 + 0 < 3; decide) rfl) ?_
    refine gm_sz (gm_p_load (pc := 18) (i := .aload_n 0) (sr := 2) (j := 0) (by decide +kernel) rfl rfl rfl) ?_
    refine gm_sz (gm_p_const (pc := 19) (i := .iconst 0) (v := gm_vi 0) (by decide +kernel) (by decide +kernel)) ?_
    refine gm_sz (gm_p_load (pc := 20) (i := .aload_n 2) (sr := 2) (j := 2) (by decide +kernel) rfl rfl rfl) ?_
    refine gm_sz (gm_p_const (pc := 21) (i := .iconst 0) (v := gm_vi 0) (by decide +kernel) (by decide +kernel)) ?_
    refine gm_sz (gm_p_load (pc := 22) (i := .aload_n 0) (sr := 2) (j := 0) (by decide +kernel) rfl rfl rfl) ?_
    refine gm_sz (gm_p_alen (pc := 23) (by decide +kernel) ⟨hk.1, by omega⟩ (by rw [k9]; omega)) ?_
    rw [show ((gm_nK K n 0 N 219).2 : Int) = 400 by rw [k9, h2]; rfl]
    refine gm_sz (gm_p_load (pc := 24) (i := .iload_n 1) (sr := 0) (j := 1) (by decide +kernel) rfl rfl rfl) ?_
    refine gm_sz (gm_p_min (pc := 25) (ix := 304) (x := 400) (y := (N : Int)) (by decide +kernel) (by decide +kernel) (by decide) wN (Nat.le_of_ble_eq_true rfl) (Nat.le_refl 1)) ?_
    rw [show min (400 : Int) (N : Int) = N by omega]
    refine gm_sz (gm_p_acopy (pc := 28) (ix := 150) (k1 := 219) (k2 := n + 1) (sp := 0) (dp := 0) (m := (N : Int)) (by decide +kernel) (by decide +kernel) ⟨hk.1, by omega⟩ (by rw [k9]; exact hK) ⟨by omega, Nat.le_refl _⟩ (by rw [kn]) (by decide) (by decide) wN (by decide) (by decide) (by omega) (by rw [k9, h2]; omega) (by rw [kn]; show 0 + (N : Int) ≤ (N : Int); omega) (by simp) (Nat.le_refl 1)) ?_
    refine gm_sz (gm_p_load (pc := 31) (i := .aload_n 2) (sr := 2) (j := 2) (by decide +kernel) rfl rfl rfl) ?_
    refine gm_r_ref (pc := 32) (by decide +kernel) (Or.inr ⟨.int, by decide +kernel⟩) (hq _ fun k j hk => ?_)
    unfold gm_cpM
    rw [if_neg (fun h => by omega)]
    unfold gm_nM
    rw [if_neg (by omega)]
  · have ip : gm_ir (400 : Int) := ⟨by decide, by decide⟩
    rw [gm_cm_w iN ip] at hp
    have hp : ¬ ((N : Int) ≠ 400) := hp
    have e : N = 400 := by omega
    subst e
    refine gm_sz (gm_p_load (pc := 6) (i := .aload_n 0) (sr := 2) (j := 0) (by decide +kernel) rfl rfl rfl) ?_
    refine gm_sp (gm_p_clone (pc := 7) hn9 (by decide +kernel) (by decide +kernel) hk hK (by decide) (Nat.le_refl 1)) (Nat.le_refl 1) (by omega) ?_
    rw [h2]
    refine gm_sz (gm_p_castA (pc := 10) (by decide +kernel) (by decide +kernel) ⟨by omega, Nat.le_refl _⟩ (by unfold gm_nK; rw [if_pos rfl])) ?_
    refine gm_r_ref (pc := 13) (by decide +kernel) (Or.inr ⟨.int, by decide +kernel⟩) (hq _ fun k j hk => ?_)
    unfold gm_clM
    rw [if_neg (by omega)]
theorem lq_cg {O : gm_Or} {n n' : Nat} {K K' : gm_K} {R R' : gm_R} {M M' : gm_M} (h : gm_Fx O n K R M) (hK : ∀ k, k ≤ n → K' k = K k) (hR : ∀ k j, k ≤ n → R' k j = R k j) (hM : ∀ k j, k ≤ n → M' k j = M k j) (hn : n ≤ n') : gm_Fx O n' K' R' M' := by
  refine ⟨fun k q hq => ?_, fun k j r hr => ?_, fun k r hr => ?_, fun k r hr => Nat.le_trans (h.2.2.2.1 k r hr) hn, O.2.2.hJ K K' M M' (fun k r hr => hK k (h.2.2.2.1 k r hr)) (fun k r hr j _ _ => hM k j (h.2.2.2.1 k r hr)) h.2.2.2.2⟩
  · obtain ⟨a, b, c⟩ := h.1 k q hq
    exact ⟨a, Nat.le_trans b hn, (hK k b).trans c⟩
  · obtain ⟨a, b⟩ := h.2.1 k j r hr
    exact ⟨Nat.le_trans a hn, (hR k j a).trans b⟩
  · obtain ⟨a, b⟩ := h.2.2.1 k r hr
    refine ⟨Nat.le_trans a hn, fun j h1 h2 => ?_⟩
    rw [hM k j a]
    exact b j h1 h2
/-- what a new law is -/
def lq_N (N : Nat) (K0 : gm_K) (R0 : gm_R) (M0 : gm_M) (K : gm_K) (R : gm_R) (M : gm_M) : Prop := (gm_Fx p2_O 249 K R M ∧ ck_fr ([], []) 245 K0 R0 M0 249 K R M) ∧ (K 246 = (14, 0) ∧ K 247 = (0, N) ∧ K 248 = (6, 0) ∧ K 249 = (0, 48)) ∧ (R 246 0 = 248 ∧ R 246 1 = 247 ∧ R 248 2 = 249) ∧ M 248 0 = 12 ∧ M 248 1 = 4 ∧ 0 ≤ M 248 3 ∧ M 248 3 ≤ 12
theorem lq_or : (p2_O.1 1 = some (4, 0) ∧ p2_O.1 3 = some (5, 0) ∧ p2_O.1 215 = some (13, 0) ∧ p2_O.1 219 = some (0, 400)) ∧ (p2_O.2.1 1 ((3 : Nat) : Int) = some 3 ∧ p2_O.2.1 1 ((13 : Nat) : Int) = some 215 ∧ p2_O.2.1 215 ((2 : Nat) : Int) = some 217 ∧ p2_O.2.1 215 ((3 : Nat) : Int) = some 219) := by decide +kernel
theorem lq_kd {n k c : Nat} {K : gm_K} {R : gm_R} {M : gm_M} (hF : gm_Fx p2_O n K R M) (h : p2_O.1 k = some (c + 4, 0)) : (1 ≤ k ∧ k ≤ n) ∧ (K k).1 = c + 4 := by
  obtain ⟨h1, h2, h3⟩ := hF.1 k _ h
  exact ⟨⟨h1, h2⟩, by rw [h3]⟩
theorem lq_rf {n k r : Nat} {j : Nat} {K : gm_K} {R : gm_R} {M : gm_M} (hF : gm_Fx p2_O n K R M) (h : p2_O.2.1 k (j : Int) = some r) : R k (j : Int) = r := (hF.2.1 k _ _ h).2
/-- LawReader.makeLaw -/
theorem lq_mk {N : Nat} {K : gm_K} {R : gm_R} {M : gm_M} (hF : gm_Fx p2_O 245 K R M) (hN : N ≤ 400) (hu : M 215 4 = N) (hq : ∀ K' R' M', lq_N N K R M K' R' M' → Q (.inl (some (gm_vr 246))) 249 K' R' M') : gm_Wp X LX 3 4 454 124 0 (gm_ent 124 [gm_vr 215]) [] 245 K R M Q := by
  refine gm_sp (gm_p_new (pc := 0) (ix := 32) (ci := 10) (by decide) (by decide +kernel) (by decide +kernel)) (by decide) (by decide +kernel) ?_
  have hF1 : gm_Fx p2_O 246 (gm_nK K 245 14 0) (gm_nR R 245) (gm_nM M 245) := gm_Fx_n hF
  have fr1 : ck_fr ([], []) 245 K R M 246 (gm_nK K 245 14 0) (gm_nR R 245) (gm_nM M 245) := ck_fr_n ck_fr_0
  have k215 := lq_kd (c := 9) hF1 lq_or.1.2.2.1
  have hu1 : gm_nM M 245 215 ((4 : Nat) : Int) = (N : Int) := by
    unfold gm_nM
    rw [if_neg (by decide)]
    exact hu
  refine gm_sz (gm_p_dup (pc := 3) (by decide +kernel) (by simp [gm_sort])) ?_
  refine gm_sz (gm_p_load (pc := 4) (i := .aload_n 0) (sr := 2) (j := 0) (by decide +kernel) rfl rfl rfl) ?_
  refine gm_sz (gm_p_get (pc := 5) (ix := 14) (ci := 9) (j := 2) (by decide +kernel) k215.1 k215.2 (by decide +kernel)) ?_
  rw [if_pos (show gm_isr 9 2 = true by decide +kernel), lq_rf hF1 lq_or.2.2.2.1]
  refine gm_sz (gm_p_load (pc := 8) (i := .aload_n 0) (sr := 2) (j := 0) (by decide +kernel) rfl rfl rfl) ?_
  refine gm_sz (gm_p_get (pc := 9) (ix := 20) (ci := 9) (j := 3) (by decide +kernel) k215.1 k215.2 (by decide +kernel)) ?_
  rw [if_pos (show gm_isr 9 3 = true by decide +kernel), lq_rf hF1 lq_or.2.2.2.2]
  refine gm_sz (gm_p_load (pc := 12) (i := .aload_n 0) (sr := 2) (j := 0) (by decide +kernel) rfl rfl rfl) ?_
  refine gm_sz (gm_p_get (pc := 13) (ix := 24) (ci := 9) (j := 4) (by decide +kernel) k215.1 k215.2 (by decide +kernel)) ?_
  rw [if_neg (show ¬ gm_isr 9 4 = true by decide +kernel), hu1]
  refine gm_c_stat (mj := 125) (ix := 34) (pc := 16) (as := [gm_vr 219, gm_vi (N : Int)]) (st := [gm_vr 217, gm_vr 246, gm_vr 246]) (d' := 1) (bc' := 1) (bs' := 400) (by decide +kernel) (by decide +kernel) (by decide +kernel) (by decide +kernel) (show 2 = gm_na 125 by decide +kernel) (fun v hv => by simp only [List.mem_cons, List.not_mem_nil, or_false] at hv; rcases hv with rfl | rfl <;> simp [gm_sort]) (show 2 ≤ gm_ml 125 by decide +kernel) (Nat.le_of_ble_eq_true rfl) (by decide) (by decide) (by decide +kernel) ?_
  refine lq_cp (md_kd hF1 lq_or.1.2.2.2).1.1 (md_kd hF1 lq_or.1.2.2.2).1.2 (md_kd hF1 lq_or.1.2.2.2).2 hN (by decide) (fun M2 hM2 => ?_)
  show gm_Wp X LX 3 (4 - 1 - 1) _ 124 19 (gm_ent 124 [gm_vr 215]) [gm_vr 247, gm_vr 217, gm_vr 246, gm_vr 246] 247 (gm_nK (gm_nK K 245 14 0) 246 0 N) (gm_nR (gm_nR R 245) 246) M2 Q
  generalize hK2 : gm_nK (gm_nK K 245 14 0) 246 0 N = K2
  generalize hR2 : gm_nR (gm_nR R 245) 246 = R2
  have a6 : K2 246 = (14, 0) := by rw [← hK2]; unfold gm_nK; rw [if_neg (by decide), if_pos rfl]
  have a7 : K2 247 = (0, N) := by rw [← hK2]; unfold gm_nK; rw [if_pos rfl]
  have hF2 : gm_Fx p2_O 247 K2 R2 M2 := lq_cg hF1 (fun k hk => by rw [← hK2]; show gm_nK _ 246 0 N k = _; rw [show gm_nK (gm_nK K 245 14 0) 246 0 N k = if k = 246 + 1 then (0, N) else gm_nK K 245 14 0 k from rfl, if_neg (by omega)]) (fun k j hk => by rw [← hR2]; rw [show gm_nR (gm_nR R 245) 246 k j = if k = 246 + 1 then 0 else gm_nR R 245 k j from rfl, if_neg (by omega)]) hM2 (by decide)
  have fr2 : ck_fr ([], []) 245 K R M 247 K2 R2 M2 := by
    refine ⟨by decide, fun k hk => ?_, fun k j hk hw => ?_, fun k j hk hw => ?_⟩
    · rw [← hK2, show gm_nK (gm_nK K 245 14 0) 246 0 N k = if k = 246 + 1 then (0, N) else gm_nK K 245 14 0 k from rfl, if_neg (by omega)]
      exact fr1.2.1 k hk
    · rw [hM2 k j (by omega)]
      exact fr1.2.2.1 k j hk hw
    · rw [← hR2, show gm_nR (gm_nR R 245) 246 k j = if k = 246 + 1 then 0 else gm_nR R 245 k j from rfl, if_neg (by omega)]
      exact fr1.2.2.2 k j hk hw
  refine gm_c_init (kd := 1) (mj := 126) (ix := 40) (pc := 19) (k := 246) (as := [gm_vr 217, gm_vr 247]) (st := [gm_vr 246]) (d' := 2) (bc' := 2) (bs' := 52) (by decide +kernel) (by decide +kernel) (Or.inl rfl) (by decide +kernel) (by decide +kernel) ⟨by decide, by decide⟩ (show 2 = gm_na 126 by decide +kernel) (fun v hv => by simp only [List.mem_cons, List.not_mem_nil, or_false] at hv; rcases hv with rfl | rfl <;> simp [gm_sort]) (show 2 + 1 ≤ gm_ml 126 by decide +kernel) (Nat.le_of_ble_eq_true rfl) (by decide) (by decide) (by decide +kernel) ?_
  refine gm_Wp_mono (fun o n K3 R3 M3 h => ?_) (lq_init_s 2 (ck_sn p2_O (fun _ => 0) M2) [gm_vr 246, gm_vr 217, gm_vr 247] 247 K2 R2 M2 (Nat.le_refl _) rfl ⟨_, _, rfl, rfl, _, _, rfl, rfl, _, _, rfl, rfl, rfl⟩ (ck_sn_s p2_nmu) hF2 ⟨fun q hq => by rw [List.mem_singleton.mp hq]; exact ⟨⟨by decide, by decide⟩, a6⟩, (fun _ h => nomatch h), (fun _ h => nomatch h)⟩)
  obtain ⟨f1, f2, oc, f3, f4, f5, f6⟩ := h
  rw [List.mem_singleton.mp f3] at f4 f5 f6
  have f5 : n = 249 := f5
  subst f5
  rcases o with (_ | v) | x
  case inl.some => exact absurd f4 id
  case inr => exact absurd f4 id
  show gm_Wp X LX 3 _ _ 124 22 (gm_ent 124 [gm_vr 215]) [gm_vr 246] 249 K3 R3 M3 Q
  have b3 := (f6.2.2 (248, 3, 3, (0, 12, [])) List.mem_cons_self).2 3 (Int.le_refl _) (Int.le_refl _)
  have b1 := (f6.2.2 (248, 1, 1, ck_one 4) (List.mem_cons_of_mem _ List.mem_cons_self)).2 1 (Int.le_refl _) (Int.le_refl _)
  have b0 := (f6.2.2 (248, 0, 0, ck_one 12) (List.mem_cons_of_mem _ (List.mem_cons_of_mem _ List.mem_cons_self))).2 0 (Int.le_refl _) (Int.le_refl _)
  exact gm_r_ref (pc := 22) (by decide +kernel) (Or.inl ⟨"GlacierMail$Law", by decide +kernel⟩) (hq K3 R3 M3 ⟨⟨f1, ck_fr_tr fr2 f2 (by decide) (by decide)⟩, ⟨(f2.2.1 246 (by decide)).trans a6, (f2.2.1 247 (by decide)).trans a7, (f6.1 (248, 6, 0) List.mem_cons_self).2, (f6.1 (249, 0, 48) (List.mem_cons_of_mem _ List.mem_cons_self)).2⟩, ⟨(f6.2.1 (246, 0, 248) List.mem_cons_self).2, (f6.2.1 (246, 1, 247) (List.mem_cons_of_mem _ List.mem_cons_self)).2, (f6.2.1 (248, 2, 249) (List.mem_cons_of_mem _ (List.mem_cons_of_mem _ List.mem_cons_self))).2⟩, Int.le_antisymm b0.2.2.1 b0.2.1, Int.le_antisymm b1.2.2.1 b1.2.1, b3.2.1, b3.2.2.1⟩)
def lq_W : List (Nat × Int × Int) × List (Nat × Int) := ([(1, 1, 2), (1, 15, 15), (42, 2, 2), (200, 6, 6), (201, 0, 299), (202, 0, 593), (203, 0, 299), (215, 4, 4), (216, 2, 7), (217, 3, 3), (218, 0, 47), (219, 0, 399)], [(3, 8)])
def lq_oc (N : Nat) : ck_Oc := (.inr (some (.inl (0, 12, []))), 249, ([(246, 14, 0), (247, 0, N), (248, 6, 0), (249, 0, 48)], [(3, 8, 246), (246, 0, 248), (246, 1, 247), (248, 2, 249)], [(1, 1, 1, ck_one 0), (248, 0, 0, ck_one 12), (248, 1, 1, ck_one 4), (248, 3, 3, (0, 12, []))]))
/-- GlacierMail.law -/
def lq_S : ck_Sum := ((25, 4, 454), 245, [.inr (.inr (.inl 1))], ([], [(3, 8, 100003)], [(216, 3, 3, (0, 400, [(13, 0)])), (1, 1, 1, (0, 400, [(6, 0)]))]), lq_W, (.inl 0, 245, ([], [(3, 8, 100003)], [(1, 1, 1, ck_one 0)])) :: (List.range 401).map lq_oc)
def lq_C : ck_C := ([some (.inr (.inr (.inl 1)))], ([], [], [(1, 1, 1, ck_one 0)]), 0, .inr (1, 1), true)
def lq_E0 : List (Nat × List ck_Sum) := [(72, [pm_s77])]
def lq_E2 : List (Nat × List ck_Sum) := [(61, [lq_fw]), (64, [lq_ll])]
def lq_W2 : List (Nat × Int × Int) × List (Nat × Int) := ([(1, 15, 15), (42, 2, 2), (200, 6, 6), (201, 0, 299), (202, 0, 593), (203, 0, 299)], [])
def lq_o2 : List ck_Oc := [(.inr (some (.inl (0, 12, []))), 249, ([], [(3, 8, 246)], [(1, 1, 1, ck_one 0)]))]
set_option maxRecDepth 100000 in
theorem lq_a : (decide (lq_S.2.2.1.length ≤ gm_ml 123) && ck_go p2_O none [] lq_E0 123 lq_S.1.1 lq_S.2.1 lq_S.2.2.2.2.1 lq_S.2.2.2.2.2 [(38, lq_C)] 150 false [(38, lq_C, 4, 454, 245)] lq_S.1.2.1 lq_S.1.2.2 0 (lq_S.2.2.1.map some ++ List.replicate (gm_ml 123 - lq_S.2.2.1.length) none) [] lq_S.2.1 lq_S.2.2.2.1) = true := by decide +kernel
set_option maxRecDepth 100000 in
theorem lq_g52 : ck_go p2_OL none [] lq_E2 123 25 249 lq_W2 lq_o2 [] 60 false [] 0 0 52 [some (.inr (.inr (.inl 1)))] [] 249 ([], [(3, 8, 246)], [(1, 1, 1, ck_one 0)]) = true := by decide +kernel
theorem lq_S_s : ck_Ok p2_O X LX 123 lq_S := by
  refine ck_ok_st (cuts := [(38, lq_C)]) (by decide +kernel) ⟨p2_nmu, ck_E1 (ck_S1 pm_s77_s ck_S0) ck_E0⟩ lq_a (fun h hm => ?_)
  rw [List.mem_singleton.mp hm]
  refine ⟨List.mem_singleton.mpr rfl, fun σ K0 R0 M0 v _ bc bs L K R M hbc hbs hS _ => ?_⟩
  obtain ⟨hF, hl, -, hf, hfr⟩ := hS
  have hF : gm_Fx p2_O 245 K R M := hF
  have hl : ck_gl σ [some (.inr (.inr (.inl 1)))] L := hl
  have hf : ck_gf σ ([], [], [(1, 1, 1, ck_one 0)]) 245 K R M := hf
  have hfr : ck_fr lq_W 245 K0 R0 M0 245 K R M := hfr
  have hbc : 4 ≤ bc := hbc
  have hbs : 454 ≤ bs := hbs
  refine gm_Wp_wk (Nat.le_refl _) hbc hbs ?_
  show gm_Wp X LX 25 4 454 123 38 L [] 245 K R M _
  obtain ⟨u0, l0, g0⟩ := hl.2 0 (.inr (.inr (.inl 1))) rfl
  cases g0
  have tu := ((gm_tyr_s hF (show gm_tyr p2_O 215 4 4 = some (0, 400) by decide +kernel)).2 4 (Int.le_refl _) (Int.le_refl _)).2
  have tu1 : (0 : Int) ≤ M 215 4 := tu.1
  have tu2 : M 215 4 ≤ (400 : Int) := tu.2
  obtain ⟨N, hN⟩ : ∃ N : Nat, M 215 4 = (N : Int) := ⟨(M 215 4).toNat, by omega⟩
  have hN4 : N ≤ 400 := by omega
  have k1 := lq_kd (c := 0) hF lq_or.1.1
  have k3 := lq_kd (c := 1) hF lq_or.1.2.1
  have k215 := lq_kd (c := 9) hF lq_or.1.2.2.1
  refine gm_sz (gm_p_load (pc := 38) (i := .aload_n 0) (sr := 2) (j := 0) (by decide +kernel) rfl l0 rfl) ?_
  refine gm_sz (gm_p_get (pc := 39) (ix := 23) (ci := 0) (j := 3) (by decide +kernel) k1.1 k1.2 (by decide +kernel)) ?_
  rw [if_pos (show gm_isr 0 3 = true by decide +kernel), lq_rf hF lq_or.2.1]
  refine gm_sz (gm_p_load (pc := 42) (i := .aload_n 0) (sr := 2) (j := 0) (by decide +kernel) rfl l0 rfl) ?_
  refine gm_sz (gm_p_get (pc := 43) (ix := 88) (ci := 0) (j := 13) (by decide +kernel) k1.1 k1.2 (by decide +kernel)) ?_
  rw [if_pos (show gm_isr 0 13 = true by decide +kernel), lq_rf hF lq_or.2.2.1]
  refine gm_c_virt (k := 215) (ci := 9) (mj := 124) (ix := 142) (pc := 46) (as := []) (st := [gm_vr 3]) (d' := 3) (bc' := 4) (bs' := 454) (by decide +kernel) (by decide +kernel) (by decide +kernel) (by decide +kernel) k215.1 k215.2 (by decide) (by decide +kernel) (show 0 = gm_na 124 by decide +kernel) (fun v hv => nomatch hv) (show 0 + 1 ≤ gm_ml 124 by decide +kernel) (Nat.le_of_ble_eq_true rfl) (by decide) (Nat.le_refl _) (Nat.le_refl _) ?_
  refine lq_mk hF hN4 hN (fun K1 R1 M1 h1 => ?_)
  obtain ⟨⟨g1, g2⟩, ⟨k6, k7, k8, k9⟩, ⟨r0, r1, r2⟩, m0, m1, m3⟩ := h1
  show gm_Wp X LX 25 _ _ 123 49 L [gm_vr 246, gm_vr 3] 249 K1 R1 M1 _
  have kt := lq_kd (c := 1) g1 lq_or.1.2.1
  refine gm_sz (gm_p_putr (pc := 49) (ix := 146) (ci := 1) (j := 8) (by decide +kernel) kt.1 kt.2 (by decide +kernel) (by decide +kernel) (by decide +kernel)) ?_
  have un : ∀ (k : Nat) (j : Int), ¬ k = 3 → gm_uR R1 3 ((8 : Nat) : Int) 246 k j = R1 k j := fun k j hk => by unfold gm_uR; rw [if_neg (fun h => hk h.1)]
  have u8 : gm_uR R1 3 ((8 : Nat) : Int) 246 3 8 = 246 := by unfold gm_uR; rw [if_pos ⟨rfl, rfl⟩]
  have gF : gm_Fx p2_O 249 K1 (gm_uR R1 3 ((8 : Nat) : Int) 246) M1 := gm_Fx_R g1 (show p2_O.2.1 3 ((8 : Nat) : Int) = none by decide +kernel)
  have fr3 : ck_fr lq_W 245 K0 R0 M0 249 K1 (gm_uR R1 3 ((8 : Nat) : Int) 246) M1 := ck_fr_R (ck_fr_tr hfr g2 (by decide) (by decide)) (by decide)
  generalize gm_uR R1 3 ((8 : Nat) : Int) 246 = R3 at *
  have gL : gm_Fx p2_OL 249 K1 R3 M1 := pl_i gF hN4 k6 k7 k8 k9 ((un 246 0 (by decide)).trans r0) ((un 246 1 (by decide)).trans r1) ((un 248 2 (by decide)).trans r2) m0 m1 m3
  have h11 : M1 1 1 = M 1 1 := g2.2.2.1 1 1 (by decide) (fun w hw => nomatch hw)
  have hf1 := (hf.2.2 (1, 1, 1, ck_one 0) List.mem_cons_self).2 1 (Int.le_refl _) (Int.le_refl _)
  refine gm_Wp_mono (fun o n K4 R4 M4 h => ?_) (gm_Wp_wk (Nat.le_refl _) (Nat.zero_le _) (Nat.zero_le _) (ck_go_s (σ0 := σ) (cuts := []) (by decide) ⟨pl_nmu, ck_E1 (ck_S1 lq_fw_s ck_S0) (ck_E1 (ck_S1 lq_ll_s ck_S0) ck_E0)⟩ ck_X0 ck_l0 60 false [] 0 0 52 [some (.inr (.inr (.inl 1)))] [] 249 ([], [(3, 8, 246)], [(1, 1, 1, ck_one 0)]) σ L [] K1 R3 M1 (fun _ _ => rfl) (fun _ h => nomatch h) ⟨gL, hl, rfl, ⟨(fun _ h => nomatch h), fun q hq => ?_, fun q hq => ?_⟩, ck_fr_0⟩ lq_g52))
  · obtain ⟨e1, e2, oc, e3, e4, e5, e6⟩ := h
    rw [List.mem_singleton.mp e3] at e4 e5 e6
    have e5 : n = 249 := e5
    subst e5
    have t := fun (j a b : Int) (h : gm_tyr p2_OL 248 j j = some (a, b)) => (gm_tyr_s e1 h).2 j (Int.le_refl _) (Int.le_refl _)
    refine ⟨pl_o e1, ck_fr_tr fr3 e2 (by decide) (by decide), lq_oc N, List.mem_cons_of_mem _ (List.mem_map.mpr ⟨N, List.mem_range.mpr (by omega), rfl⟩), e4, rfl, ⟨fun q hq => ?_, fun q hq => ?_, fun q hq => ?_⟩⟩
    · have hq : q ∈ [((246 : Nat), (14 : Nat), (0 : Nat)), (247, 0, N), (248, 6, 0), (249, 0, 48)] := hq
      simp only [List.mem_cons, List.not_mem_nil, or_false] at hq
      rcases hq with rfl | rfl | rfl | rfl
      · exact ⟨⟨by decide, by decide⟩, (e2.2.1 246 (by decide)).trans k6⟩
      · exact ⟨⟨show 1 ≤ 247 by decide, show 247 ≤ 249 by decide⟩, (e2.2.1 247 (by decide)).trans k7⟩
      · exact ⟨⟨by decide, by decide⟩, (e2.2.1 248 (by decide)).trans k8⟩
      · exact ⟨⟨by decide, by decide⟩, (e2.2.1 249 (by decide)).trans k9⟩
    · have hq : q ∈ [((3 : Nat), (8 : Int), (246 : Nat)), (246, 0, 248), (246, 1, 247), (248, 2, 249)] := hq
      simp only [List.mem_cons, List.not_mem_nil, or_false] at hq
      rcases hq with rfl | rfl | rfl | rfl
      · exact e6.2.1 _ List.mem_cons_self
      · exact ⟨by decide, (e1.2.1 246 0 248 (by decide +kernel)).2⟩
      · exact ⟨by decide, (e1.2.1 246 1 247 (by decide +kernel)).2⟩
      · exact ⟨by decide, (e1.2.1 248 2 249 (by decide +kernel)).2⟩
    · have hq : q ∈ [((1 : Nat), (1 : Int), (1 : Int), ck_one 0), (248, 0, 0, ck_one 12), (248, 1, 1, ck_one 4), (248, 3, 3, (0, 12, []))] := hq
      simp only [List.mem_cons, List.not_mem_nil, or_false] at hq
      rcases hq with rfl | rfl | rfl | rfl
      · exact e6.2.2 _ List.mem_cons_self
      · have := t 0 12 12 (by decide +kernel)
        exact ck_f1 (by decide) ⟨this.1.1, this.1.2⟩ ⟨this.2.1, this.2.2, fun _ h => nomatch h⟩
      · have := t 1 4 4 (by decide +kernel)
        exact ck_f1 (by decide) ⟨this.1.1, this.1.2⟩ ⟨this.2.1, this.2.2, fun _ h => nomatch h⟩
      · have := t 3 0 12 (by decide +kernel)
        exact ck_f1 (by decide) ⟨this.1.1, this.1.2⟩ ⟨this.2.1, this.2.2, fun _ h => nomatch h⟩
  · rw [List.mem_singleton.mp hq]
    exact ⟨by decide, u8⟩
  · rw [List.mem_singleton.mp hq]
    refine ⟨by decide, fun j j1 j2 => ?_⟩
    have : j = 1 := Int.le_antisymm j2 j1
    subst this
    show gm_ir (M1 1 1) ∧ ck_gi σ (ck_one 0) (M1 1 1)
    rw [h11]
    exact hf1
end LQ
