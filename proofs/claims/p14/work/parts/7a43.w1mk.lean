/-! THE CLASS'S makeLaw: what the new law holds (laid by wip/core/w1.py). -/
section W1A
variable {X : Int → Int} {LX d bc bs n : Nat} {K : gm_K} {R : gm_R} {M : gm_M} {Q : gm_Q}
theorem nM_ne {a : Nat} {j : Int} (h : ¬ a = n + 1) : gm_nM M n a j = M a j := if_neg h
theorem nK_ne {a c l : Nat} (h : ¬ a = n + 1) : gm_nK K n c l a = K a := if_neg h
theorem nK_at {c l : Nat} : gm_nK K n c l (n + 1) = (c, l) := if_pos rfl
theorem nR_ne {a : Nat} {j : Int} (h : ¬ a = n + 1) : gm_nR R n a j = R a j := if_neg h
theorem mk_125 {n N : Nat} {K : gm_K} {R : gm_R} {M : gm_M} (hk : 1 ≤ 219 ∧ 219 ≤ n) (hK : (K 219).1 = 0) (h2 : (K 219).2 = 400) (hN : N ≤ 400) (hn9 : n + 1 < 100000) (hq : ∀ M' : gm_M, (∀ k j, k ≤ n → M' k j = M k j) → (∀ j, 0 ≤ j → j < (N : Int) → M' (n + 1) j = M 219 j) → Q (.inl (some (gm_vr (n + 1)))) (n + 1) (gm_nK K n 0 N) (gm_nR R n) M') : gm_Wp X LX 1 1 400 125 0 (gm_ent 125 [gm_vr 219, gm_vi (N : Int)]) [] n K R M Q := by
  have iN : gm_ir (N : Int) := ⟨by omega, by omega⟩
  have wN : gm_w (N : Int) = N := gm_w_id (by omega) (by omega)
  have tN : (gm_w (N : Int)).toNat = N := by rw [wN]; omega
  refine gm_sz (gm_p_load (pc := 0) (i := .iload_n 1) (sr := 0) (j := 1) (by decide +kernel) rfl rfl rfl) ?_
  refine gm_sz (gm_p_load (pc := 1) (i := .aload_n 0) (sr := 2) (j := 0) (by decide +kernel) rfl rfl rfl) ?_
  refine gm_sz (gm_p_alen (pc := 2) (by decide +kernel) hk (by omega)) ?_
  rw [show ((K 219).2 : Int) = 400 by rw [h2]; rfl]
  refine gm_b_ic (cc := .ne) (pc := 3) (off := 11) (by decide +kernel) (by decide) (fun _ => ?_) (fun hp => ?_)
  · skip
    refine gm_sz (gm_p_load (pc := 14) (i := .iload_n 1) (sr := 0) (j := 1) (by decide +kernel) rfl rfl rfl) ?_
    refine gm_sp (gm_p_newa (pc := 15) (at0 := .int) (kd := 0) (e0 := (N : Int)) hn9 (by decide +kernel) (Or.inl ⟨rfl, rfl⟩) ⟨by omega, by omega⟩) (Nat.le_refl 1) (by omega) ?_
    rw [tN]
    have k9 : gm_nK K n 0 N 219 = K 219 := by unfold gm_nK; rw [if_neg (by omega)]
    have kn : gm_nK K n 0 N (n + 1) = (0, N) := by unfold gm_nK; rw [if_pos rfl]
    refine gm_sz (gm_p_stor (pc := 17) (i := .astore_n 2) (sr := 2) (j := 2) (by decide +kernel) rfl (by show 2 + 0 < 3; decide) rfl) ?_
    refine gm_sz (gm_p_load (pc := 18) (i := .aload_n 0) (sr := 2) (j := 0) (by decide +kernel) rfl rfl rfl) ?_
    refine gm_sz (gm_p_const (pc := 19) (i := .iconst 0) (v := gm_vi 0) (by decide +kernel) (by decide +kernel)) ?_
    refine gm_sz (gm_p_load (pc := 20) (i := .aload_n 2) (sr := 2) (j := 2) (by decide +kernel) rfl rfl rfl) ?_
    refine gm_sz (gm_p_const (pc := 21) (i := .iconst 0) (v := gm_vi 0) (by decide +kernel) (by decide +kernel)) ?_
    refine gm_sz (gm_p_load (pc := 22) (i := .aload_n 0) (sr := 2) (j := 0) (by decide +kernel) rfl rfl rfl) ?_
    refine gm_sz (gm_p_alen (pc := 23) (by decide +kernel) ⟨hk.1, by omega⟩ (by rw [k9]; omega)) ?_
    rw [show ((gm_nK K n 0 N 219).2 : Int) = 400 by rw [k9, h2]; rfl]
    refine gm_sz (gm_p_load (pc := 24) (i := .iload_n 1) (sr := 0) (j := 1) (by decide +kernel) rfl rfl rfl) ?_
    refine gm_sz (gm_p_min (pc := 25) (ix := 304) (x := 400) (y := (N : Int)) (by decide +kernel) (by decide +kernel) (by decide) wN (Nat.le_of_ble_eq_true rfl) (Nat.le_refl 1)) ?_
    rw [show min (400 : Int) (N : Int) = N by omega]
    refine gm_sz (gm_p_acopy (pc := 28) (ix := 150) (k1 := 219) (k2 := n + 1) (sp := 0) (dp := 0) (m := (N : Int)) (by decide +kernel) (by decide +kernel) ⟨hk.1, by omega⟩ (by rw [k9]; exact hK) ⟨by omega, Nat.le_refl _⟩ (by rw [kn]) (by decide) (by decide) wN (by decide) (by decide) (by omega) (by rw [k9, h2]; omega) (by rw [kn]; show 0 + (N : Int) ≤ (N : Int); omega) (by simp) (Nat.le_refl 1)) ?_
    refine gm_sz (gm_p_load (pc := 31) (i := .aload_n 2) (sr := 2) (j := 2) (by decide +kernel) rfl rfl rfl) ?_
    refine gm_r_ref (pc := 32) (by decide +kernel) (Or.inr ⟨.int, by decide +kernel⟩) (hq _ (fun k j hk => ?_) (fun j j0 j1 => ?_))
    · unfold gm_cpM
      rw [if_neg (fun h => by omega)]
      unfold gm_nM
      rw [if_neg (by omega)]
    · exact (cpM_at j0 j1).trans (nM_ne (by omega))
  · have ip : gm_ir (400 : Int) := ⟨by decide, by decide⟩
    rw [gm_cm_w iN ip] at hp
    have hp : ¬ ((N : Int) ≠ 400) := hp
    have e : N = 400 := by omega
    subst e
    refine gm_sz (gm_p_load (pc := 6) (i := .aload_n 0) (sr := 2) (j := 0) (by decide +kernel) rfl rfl rfl) ?_
    refine gm_sp (gm_p_clone (pc := 7) hn9 (by decide +kernel) (by decide +kernel) hk hK (by decide) (Nat.le_refl 1)) (Nat.le_refl 1) (by omega) ?_
    rw [h2]
    refine gm_sz (gm_p_castA (pc := 10) (by decide +kernel) (by decide +kernel) ⟨by omega, Nat.le_refl _⟩ (by unfold gm_nK; rw [if_pos rfl])) ?_
    refine gm_r_ref (pc := 13) (by decide +kernel) (Or.inr ⟨.int, by decide +kernel⟩) (hq _ (fun k j hk => ?_) (fun j j0 j1 => ?_))
    · unfold gm_clM
      rw [if_neg (by omega)]
    · unfold gm_clM
      rw [if_pos rfl]

variable {c a t r len : Nat} {m z : Int}
theorem rw_copy1 (hd : 1 ≤ d) (hk : (1 ≤ c ∧ c ≤ n) ∧ (K c).1 = 2 + 4) (hs : (1 ≤ r ∧ r ≤ n) ∧ (K r).1 = 2 + 4) (ha : (1 ≤ a ∧ a ≤ n) ∧ K a = (0, len)) (ht : (1 ≤ t ∧ t ≤ n) ∧ K t = (0, len)) (hra : R c ((2 : Nat) : Int) = a) (hrt : R r ((2 : Nat) : Int) = t) (hl : len < 2147483648) (hm : M c 0 = m) (hz : M r 3 = z) (hb : 0 ≤ z ∧ z ≤ m ∧ m ≤ 100000) (hq : Q (.inl none) n K R (gm_cpM (gm_uM M c 3 z) t a 0 0 (len : Int))) : gm_Wp X LX d bc bs 58 0 (gm_ent 58 [gm_vr c, gm_vr r]) [] n K R M Q := by
  refine gm_sz (gm_p_load (pc := 0) (i := .aload_n 0) (sr := 2) (j := 0) (by decide +kernel) rfl rfl rfl) ?_
  refine gm_sz (gm_p_load (pc := 1) (i := .aload_n 1) (sr := 2) (j := 1) (by decide +kernel) rfl rfl rfl) ?_
  refine gm_sz (fw_gi (pc := 2) (ix := 9) (ci := 2) (j := 3) (x := z) (by decide +kernel) hs (by decide +kernel) (by decide +kernel) hz) ?_
  refine gm_sz (gm_p_load (pc := 5) (i := .aload_n 0) (sr := 2) (j := 0) (by decide +kernel) rfl rfl rfl) ?_
  refine gm_sz (fw_gi (pc := 6) (ix := 15) (ci := 2) (j := 0) (x := m) (by decide +kernel) hk (by decide +kernel) (by decide +kernel) hm) ?_
  refine gm_sz (gm_p_min (pc := 9) (ix := 25) (x := z) (y := m) (by decide +kernel) (by decide +kernel) (gm_w_id (by omega) (by omega)) (gm_w_id (by omega) (by omega)) (Nat.le_of_ble_eq_true rfl) (by omega)) ?_
  rw [show min z m = z by omega]
  refine gm_sz (fw_pi (pc := 12) (ix := 9) (ci := 2) (j := 3) (M' := gm_uM M c 3 z) (by decide +kernel) hk (by decide +kernel) (by decide +kernel) (by decide +kernel) rfl) ?_
  refine gm_sz (gm_p_load (pc := 15) (i := .aload_n 1) (sr := 2) (j := 1) (by decide +kernel) rfl rfl rfl) ?_
  refine gm_sz (fw_gr (pc := 16) (ix := 21) (ci := 2) (j := 2) (r := t) (by decide +kernel) hs (by decide +kernel) (by decide +kernel) hrt) ?_
  refine gm_sz (gm_p_const (pc := 19) (i := .iconst 0) (v := gm_vi 0) (by decide +kernel) (by decide +kernel)) ?_
  refine gm_sz (gm_p_load (pc := 20) (i := .aload_n 0) (sr := 2) (j := 0) (by decide +kernel) rfl rfl rfl) ?_
  refine gm_sz (fw_gr (pc := 21) (ix := 21) (ci := 2) (j := 2) (r := a) (by decide +kernel) hk (by decide +kernel) (by decide +kernel) hra) ?_
  refine gm_sz (gm_p_const (pc := 24) (i := .iconst 0) (v := gm_vi 0) (by decide +kernel) (by decide +kernel)) ?_
  refine gm_sz (gm_p_load (pc := 25) (i := .aload_n 1) (sr := 2) (j := 1) (by decide +kernel) rfl rfl rfl) ?_
  refine gm_sz (fw_gr (pc := 26) (ix := 21) (ci := 2) (j := 2) (r := t) (by decide +kernel) hs (by decide +kernel) (by decide +kernel) hrt) ?_
  refine gm_sz (fw_al (pc := 29) (k := t) (len := len) (by decide +kernel) ht.1 ht.2 (by decide)) ?_
  refine gm_sz (gm_p_load (pc := 30) (i := .aload_n 0) (sr := 2) (j := 0) (by decide +kernel) rfl rfl rfl) ?_
  refine gm_sz (fw_gr (pc := 31) (ix := 21) (ci := 2) (j := 2) (r := a) (by decide +kernel) hk (by decide +kernel) (by decide +kernel) hra) ?_
  refine gm_sz (fw_al (pc := 34) (k := a) (len := len) (by decide +kernel) ha.1 ha.2 (by decide)) ?_
  refine gm_sz (gm_p_min (pc := 35) (ix := 25) (x := (len : Int)) (y := (len : Int)) (by decide +kernel) (by decide +kernel) (gm_w_id (by omega) (by omega)) (gm_w_id (by omega) (by omega)) (Nat.le_of_ble_eq_true rfl) (by omega)) ?_
  rw [show min (len : Int) (len : Int) = (len : Int) by omega]
  refine gm_sz (gm_p_acopy (pc := 38) (ix := 40) (k1 := t) (k2 := a) (sp := 0) (dp := 0) (m := (len : Int)) (by decide +kernel) (by decide +kernel) ht.1 (by rw [ht.2]) ha.1 (by rw [ha.2]) (by decide) (by decide) (gm_w_id (by omega) (by omega)) (by decide) (by decide) (by omega) (by rw [ht.2]; show 0 + (len : Int) ≤ (len : Int); omega) (by rw [ha.2]; show 0 + (len : Int) ≤ (len : Int); omega) (Nat.le_of_ble_eq_true rfl) (by omega)) ?_
  exact gm_r_void (pc := 41) (by decide +kernel) (by decide +kernel) hq

theorem mk_2 (hd : 1 ≤ d) (hbc : 1 ≤ bc) (hbs : 48 ≤ bs) (hk : (1 ≤ 248 ∧ 248 ≤ 248) ∧ (K 248).1 = 2 + 4) (hq : Q (.inl none) 249 (gm_nK K 248 0 48) (gm_uR (gm_nR R 248) 248 2 249) (gm_nM (gm_uM (gm_uM (gm_uM M 248 3 0) 248 0 12) 248 1 4) 248)) : gm_Wp X LX d bc bs 2 0 (gm_ent 2 [gm_vr 248, gm_vi 12, gm_vi 4]) [] 248 K R M Q := by
  refine gm_sz (gm_p_load (pc := 0) (i := .aload_n 0) (sr := 2) (j := 0) (by decide +kernel) rfl rfl rfl) ?_
  refine gm_sz (gm_p_oinit (pc := 1) (ix := 3) (by decide +kernel) (by decide +kernel) hk.1 (by decide) hd) ?_
  refine gm_sz (gm_p_load (pc := 4) (i := .aload_n 0) (sr := 2) (j := 0) (by decide +kernel) rfl rfl rfl) ?_
  refine gm_sz (gm_p_const (pc := 5) (i := .iconst 0) (v := gm_vi 0) (by decide +kernel) (by decide +kernel)) ?_
  refine gm_sz (fw_pi (pc := 6) (ix := 9) (ci := 2) (j := 3) (M' := gm_uM M 248 3 0) (by decide +kernel) hk (by decide +kernel) (by decide +kernel) (by decide +kernel) rfl) ?_
  refine gm_sz (gm_p_load (pc := 9) (i := .aload_n 0) (sr := 2) (j := 0) (by decide +kernel) rfl rfl rfl) ?_
  refine gm_sz (gm_p_load (pc := 10) (i := .iload_n 1) (sr := 0) (j := 1) (by decide +kernel) rfl rfl rfl) ?_
  refine gm_sz (fw_pi (pc := 11) (ix := 15) (ci := 2) (j := 0) (M' := gm_uM (gm_uM M 248 3 0) 248 0 12) (by decide +kernel) hk (by decide +kernel) (by decide +kernel) (by decide +kernel) rfl) ?_
  refine gm_sz (gm_p_load (pc := 14) (i := .aload_n 0) (sr := 2) (j := 0) (by decide +kernel) rfl rfl rfl) ?_
  refine gm_sz (gm_p_load (pc := 15) (i := .iload_n 2) (sr := 0) (j := 2) (by decide +kernel) rfl rfl rfl) ?_
  refine gm_sz (fw_pi (pc := 16) (ix := 18) (ci := 2) (j := 1) (M' := gm_uM (gm_uM (gm_uM M 248 3 0) 248 0 12) 248 1 4) (by decide +kernel) hk (by decide +kernel) (by decide +kernel) (by decide +kernel) rfl) ?_
  refine gm_sz (gm_p_load (pc := 19) (i := .aload_n 0) (sr := 2) (j := 0) (by decide +kernel) rfl rfl rfl) ?_
  refine gm_sz (gm_p_load (pc := 20) (i := .iload_n 1) (sr := 0) (j := 1) (by decide +kernel) rfl rfl rfl) ?_
  refine gm_sz (gm_p_load (pc := 21) (i := .iload_n 2) (sr := 0) (j := 2) (by decide +kernel) rfl rfl rfl) ?_
  refine gm_sz (gm_p_bin (pc := 22) (i := .imul) (f := fun x y => x * y) (by decide +kernel) rfl) ?_
  refine gm_sp (gm_p_newa (pc := 23) (at0 := .int) (kd := 0) (e0 := 12 * 4) (by decide) (by decide +kernel) (Or.inl ⟨rfl, rfl⟩) (by decide +kernel)) hbc (show (gm_w (12 * 4)).toNat ≤ bs by rw [show (gm_w (12 * 4)).toNat = 48 by decide +kernel]; exact hbs) ?_
  rw [show (gm_w (12 * 4)).toNat = 48 by decide +kernel]
  refine gm_sz (gm_p_putr (pc := 25) (ix := 21) (ci := 2) (j := 2) (by decide +kernel) ⟨by decide, by decide⟩ ((congrArg Prod.fst (nK_ne (by decide))).trans hk.2) (by decide +kernel) (by decide +kernel) (by decide +kernel)) ?_
  exact gm_r_void (pc := 28) (by decide +kernel) (by decide +kernel) hq
theorem mk_126 (hd : 2 ≤ d) (hbc : 2 ≤ bc) (hbs : 52 ≤ bs) (hk : (1 ≤ 246 ∧ 246 ≤ 247) ∧ (K 246).1 = 10 + 4) (k217 : (K 217).1 = 2 + 4) (k218 : K 218 = (0, 48)) (r217 : R 217 2 = 218) (hz : M 217 3 = z) (hz0 : 0 ≤ z ∧ z ≤ 12) (hq : Q (.inl none) 249 (gm_nK (gm_nK K 247 6 0) 248 0 48) (gm_uR (gm_uR (gm_uR (gm_nR (gm_nR R 247) 248) 248 2 249) 246 0 248) 246 1 247) (gm_cpM (gm_uM (gm_nM (gm_uM (gm_uM (gm_uM (gm_nM M 247) 248 3 0) 248 0 12) 248 1 4) 248) 248 3 z) 218 249 0 0 ((48 : Nat) : Int))) : gm_Wp X LX d bc bs 126 0 (gm_ent 126 [gm_vr 246, gm_vr 217, gm_vr 247]) [] 247 K R M Q := by
  refine gm_sz (gm_p_load (pc := 0) (i := .aload_n 0) (sr := 2) (j := 0) (by decide +kernel) rfl rfl rfl) ?_
  refine gm_sz (gm_p_oinit (pc := 1) (ix := 3) (by decide +kernel) (by decide +kernel) hk.1 (by decide) (by omega)) ?_
  refine gm_sz (gm_p_load (pc := 4) (i := .aload_n 0) (sr := 2) (j := 0) (by decide +kernel) rfl rfl rfl) ?_
  refine gm_sp (gm_p_new (pc := 5) (ix := 9) (ci := 2) (by decide) (by decide +kernel) (by decide +kernel)) (show 1 ≤ bc by omega) (show gm_nf 2 ≤ bs by rw [show gm_nf 2 = 4 by decide +kernel]; omega) ?_
  refine gm_sz (gm_p_dup (pc := 8) (by decide +kernel) fw_sr) ?_
  refine gm_sz (gm_p_const (pc := 9) (i := .bipush 12) (v := gm_vi 12) (by decide +kernel) (by decide +kernel)) ?_
  refine gm_sz (gm_p_const (pc := 11) (i := .iconst 4) (v := gm_vi 4) (by decide +kernel) (by decide +kernel)) ?_
  refine gm_c_init (kd := 1) (mj := 2) (ix := 11) (pc := 12) (k := 248) (as := [gm_vi 12, gm_vi 4]) (st := [gm_vr 248, gm_vr 246]) (d' := 1) (bc' := 1) (bs' := 48) (by decide +kernel) (by decide +kernel) (Or.inl rfl) (by decide +kernel) (by decide +kernel) ⟨by decide, by decide⟩ (show 2 = gm_na 2 by decide +kernel) (fun v hv => by simp only [List.mem_cons, List.not_mem_nil, or_false] at hv; rcases hv with rfl | rfl <;> simp [gm_sort]) (show 2 + 1 ≤ gm_ml 2 by decide +kernel) (Nat.le_of_ble_eq_true rfl) (by omega) (by omega) (show 48 ≤ bs - gm_nf 2 by rw [show gm_nf 2 = 4 by decide +kernel]; omega) ?_
  refine mk_2 (Nat.le_refl _) (Nat.le_refl _) (Nat.le_refl _) ⟨⟨by decide, by decide⟩, congrArg Prod.fst nK_at⟩ ?_
  show gm_Wp X LX d _ _ 126 15 _ [gm_vr 248, gm_vr 246] 249 _ _ _ Q
  have k6 : (gm_nK (gm_nK K 247 6 0) 248 0 48 246).1 = 10 + 4 := (congrArg Prod.fst ((nK_ne (by decide)).trans (nK_ne (by decide)))).trans hk.2
  have k8 : (gm_nK (gm_nK K 247 6 0) 248 0 48 248).1 = 2 + 4 := congrArg Prod.fst ((nK_ne (by decide)).trans nK_at)
  refine gm_sz (gm_p_putr (pc := 15) (ix := 14) (ci := 10) (j := 0) (by decide +kernel) ⟨by decide, by decide⟩ k6 (by decide +kernel) (by decide +kernel) (by decide +kernel)) ?_
  refine gm_sz (gm_p_load (pc := 18) (i := .aload_n 0) (sr := 2) (j := 0) (by decide +kernel) rfl rfl rfl) ?_
  refine gm_sz (fw_gr (pc := 19) (ix := 14) (ci := 10) (j := 0) (r := 248) (by decide +kernel) ⟨⟨by decide, by decide⟩, k6⟩ (by decide +kernel) (by decide +kernel) uR_at) ?_
  refine gm_sz (gm_p_load (pc := 22) (i := .aload_n 1) (sr := 2) (j := 1) (by decide +kernel) rfl rfl rfl) ?_
  refine gm_c_virt (k := 248) (ci := 2) (mj := 58) (ix := 18) (pc := 23) (as := [gm_vr 217]) (st := []) (d' := d - 1) (bc' := 0) (bs' := 0) (by decide +kernel) (by decide +kernel) (by decide +kernel) (by decide +kernel) ⟨by decide, by decide⟩ k8 (by decide) (by decide +kernel) (show 1 = gm_na 58 by decide +kernel) (fw_c1 fw_sr) (show 2 ≤ gm_ml 58 by decide +kernel) (Nat.le_of_ble_eq_true rfl) (by omega) (Nat.zero_le _) (Nat.zero_le _) ?_
  refine rw_copy1 (c := 248) (r := 217) (a := 249) (t := 218) (len := 48) (m := 12) (z := z) (by omega) ⟨⟨by decide, by decide⟩, k8⟩ ⟨⟨by decide, by decide⟩, (congrArg Prod.fst ((nK_ne (by decide)).trans (nK_ne (by decide)))).trans k217⟩ ⟨⟨by decide, by decide⟩, nK_at⟩ ⟨⟨by decide, by decide⟩, ((nK_ne (by decide)).trans (nK_ne (by decide))).trans k218⟩ ((uR_ne (by omega)).trans uR_at) ((uR_ne (by omega)).trans ((uR_ne (by omega)).trans ((nR_ne (by decide)).trans ((nR_ne (by decide)).trans r217)))) (by decide) ?_ ?_ ⟨hz0.1, hz0.2, by decide⟩ ?_
  · exact (nM_ne (by decide)).trans ((uM_ne (by omega)).trans uM_at)
  · exact (nM_ne (by decide)).trans ((uM_ne (by omega)).trans ((uM_ne (by omega)).trans ((uM_ne (by omega)).trans ((nM_ne (by decide)).trans hz))))
  show gm_Wp X LX d _ _ 126 26 _ [] 249 _ _ _ Q
  refine gm_sz (gm_p_load (pc := 26) (i := .aload_n 0) (sr := 2) (j := 0) (by decide +kernel) rfl rfl rfl) ?_
  refine gm_sz (gm_p_load (pc := 27) (i := .aload_n 2) (sr := 2) (j := 2) (by decide +kernel) rfl rfl rfl) ?_
  refine gm_sz (gm_p_putr (pc := 28) (ix := 22) (ci := 10) (j := 1) (by decide +kernel) ⟨by decide, by decide⟩ k6 (by decide +kernel) (by decide +kernel) (by decide +kernel)) ?_
  exact gm_r_void (pc := 31) (by decide +kernel) (by decide +kernel) hq
/-- what the new law holds: codes, lines; and what stands as it was -/
def mkN (N : Nat) (z : Int) (K0 : gm_K) (R0 : gm_R) (M0 : gm_M) (K : gm_K) (R : gm_R) (M : gm_M) : Prop := ((∀ c, c ≤ 245 → K c = K0 c) ∧ (∀ c j, c ≤ 245 → R c j = R0 c j) ∧ ∀ c j, c ≤ 245 → M c j = M0 c j) ∧ (K 246 = (14, 0) ∧ K 247 = (0, N) ∧ K 248 = (6, 0) ∧ K 249 = (0, 48)) ∧ (R 246 0 = 248 ∧ R 246 1 = 247 ∧ R 248 2 = 249) ∧ (M 248 0 = 12 ∧ M 248 1 = 4 ∧ M 248 3 = z) ∧ (∀ j, 0 ≤ j → j < 48 → M 249 j = M0 218 j) ∧ ∀ j, 0 ≤ j → j < (N : Int) → M 247 j = M0 219 j
theorem mk_124 {N : Nat} (hE : E0 245 K R) (hN : N ≤ 400) (hu : M 215 4 = N) (hz : M 217 3 = z) (hz0 : 0 ≤ z ∧ z ≤ 12) (hq : ∀ K' R' M', mkN N z K R M K' R' M' → Q (.inl (some (gm_vr 246))) 249 K' R' M') : gm_Wp X LX 3 4 454 124 0 (gm_ent 124 [gm_vr 215]) [] 245 K R M Q := by
  have k215 := e0k hE (k := 215) (c := 9) (by decide +kernel)
  have k219 := e0a hE (k := 219) (q := (0, 400)) (by decide +kernel)
  have k217 := e0a hE (k := 217) (q := (6, 0)) (by decide +kernel)
  have k218 := e0a hE (k := 218) (q := (0, 48)) (by decide +kernel)
  have r2152 := e0r hE (k := 215) (j := 2) (r := 217) (by decide +kernel)
  have r2153 := e0r hE (k := 215) (j := 3) (r := 219) (by decide +kernel)
  have r217 := e0r hE (k := 217) (j := 2) (r := 218) (by decide +kernel)
  refine gm_sp (gm_p_new (pc := 0) (ix := 32) (ci := 10) (by decide) (by decide +kernel) (by decide +kernel)) (by decide) (by decide +kernel) ?_
  have k5 : (1 ≤ 215 ∧ 215 ≤ 246) ∧ (gm_nK K 245 14 0 215).1 = 9 + 4 := ⟨⟨by decide, by decide⟩, (congrArg Prod.fst (nK_ne (by decide))).trans k215.2⟩
  refine gm_sz (gm_p_dup (pc := 3) (by decide +kernel) fw_sr) ?_
  refine gm_sz (gm_p_load (pc := 4) (i := .aload_n 0) (sr := 2) (j := 0) (by decide +kernel) rfl rfl rfl) ?_
  refine gm_sz (fw_gr (pc := 5) (ix := 14) (ci := 9) (j := 2) (r := 217) (by decide +kernel) k5 (by decide +kernel) (by decide +kernel) ((nR_ne (by decide)).trans r2152)) ?_
  refine gm_sz (gm_p_load (pc := 8) (i := .aload_n 0) (sr := 2) (j := 0) (by decide +kernel) rfl rfl rfl) ?_
  refine gm_sz (fw_gr (pc := 9) (ix := 20) (ci := 9) (j := 3) (r := 219) (by decide +kernel) k5 (by decide +kernel) (by decide +kernel) ((nR_ne (by decide)).trans r2153)) ?_
  refine gm_sz (gm_p_load (pc := 12) (i := .aload_n 0) (sr := 2) (j := 0) (by decide +kernel) rfl rfl rfl) ?_
  refine gm_sz (fw_gi (pc := 13) (ix := 24) (ci := 9) (j := 4) (x := (N : Int)) (by decide +kernel) k5 (by decide +kernel) (by decide +kernel) ((nM_ne (by decide)).trans hu)) ?_
  refine gm_c_stat (mj := 125) (ix := 34) (pc := 16) (as := [gm_vr 219, gm_vi (N : Int)]) (st := [gm_vr 217, gm_vr 246, gm_vr 246]) (d' := 1) (bc' := 1) (bs' := 400) (by decide +kernel) (by decide +kernel) (by decide +kernel) (by decide +kernel) (show 2 = gm_na 125 by decide +kernel) (fun v hv => by simp only [List.mem_cons, List.not_mem_nil, or_false] at hv; rcases hv with rfl | rfl <;> simp [gm_sort]) (show 2 ≤ gm_ml 125 by decide +kernel) (Nat.le_of_ble_eq_true rfl) (by decide) (by decide) (by decide +kernel) ?_
  have k9 : gm_nK K 245 14 0 219 = (0, 400) := (nK_ne (by decide)).trans k219.2
  refine mk_125 ⟨by decide, by decide⟩ (congrArg Prod.fst k9) (congrArg Prod.snd k9) hN (by decide) (fun M2 hM2 hc2 => ?_)
  show gm_Wp X LX 3 (4 - 1 - 1) _ 124 19 (gm_ent 124 [gm_vr 215]) [gm_vr 247, gm_vr 217, gm_vr 246, gm_vr 246] 247 (gm_nK (gm_nK K 245 14 0) 246 0 N) (gm_nR (gm_nR R 245) 246) M2 Q
  refine gm_c_init (kd := 1) (mj := 126) (ix := 40) (pc := 19) (k := 246) (as := [gm_vr 217, gm_vr 247]) (st := [gm_vr 246]) (d' := 2) (bc' := 2) (bs' := 52) (by decide +kernel) (by decide +kernel) (Or.inl rfl) (by decide +kernel) (by decide +kernel) ⟨by decide, by decide⟩ (show 2 = gm_na 126 by decide +kernel) (fun v hv => by simp only [List.mem_cons, List.not_mem_nil, or_false] at hv; rcases hv with rfl | rfl <;> simp [gm_sort]) (show 2 + 1 ≤ gm_ml 126 by decide +kernel) (Nat.le_of_ble_eq_true rfl) (by decide) (by decide) (by decide +kernel) ?_
  have m2 : ∀ c j, c ≤ 245 → M2 c j = M c j := fun c j hc => (hM2 c j (by omega)).trans (nM_ne (by omega))
  have kk : ∀ c, c ≤ 245 → gm_nK (gm_nK K 245 14 0) 246 0 N c = K c := fun c hc => (nK_ne (by omega)).trans (nK_ne (by omega))
  have rr : ∀ c j, c ≤ 245 → gm_nR (gm_nR R 245) 246 c j = R c j := fun c j hc => (nR_ne (by omega)).trans (nR_ne (by omega))
  refine mk_126 (z := z) (by decide) (by decide) (by decide) ⟨⟨by decide, by decide⟩, congrArg Prod.fst ((nK_ne (by decide)).trans nK_at)⟩ (by rw [kk 217 (by decide), k217.2]) ((kk 218 (by decide)).trans k218.2) ((rr 217 2 (by decide)).trans r217) ((m2 217 3 (by decide)).trans hz) hz0 ?_
  show gm_Wp X LX 3 _ _ 124 22 (gm_ent 124 [gm_vr 215]) [gm_vr 246] 249 _ _ _ Q
  refine gm_r_ref (pc := 22) (by decide +kernel) (Or.inl ⟨"GlacierMail$Law", (by decide +kernel)⟩) (hq _ _ _ ⟨⟨fun c hc => ?_, fun c j hc => ?_, fun c j hc => ?_⟩, ⟨?_, ?_, ?_, nK_at⟩, ⟨?_, uR_at, ?_⟩, ⟨?_, ?_, ?_⟩, fun j j0 j1 => ?_, fun j j0 j1 => ?_⟩)
  · exact (nK_ne (by omega)).trans ((nK_ne (by omega)).trans (kk c hc))
  · exact (uR_ne (by omega)).trans ((uR_ne (by omega)).trans ((uR_ne (by omega)).trans ((nR_ne (by omega)).trans ((nR_ne (by omega)).trans (rr c j hc)))))
  · exact (cpM_ne (by omega)).trans ((uM_ne (by omega)).trans ((nM_ne (by omega)).trans ((uM_ne (by omega)).trans ((uM_ne (by omega)).trans ((uM_ne (by omega)).trans ((nM_ne (by omega)).trans (m2 c j hc)))))))
  · exact (nK_ne (by decide)).trans ((nK_ne (by decide)).trans ((nK_ne (by decide)).trans nK_at))
  · exact (nK_ne (by decide)).trans ((nK_ne (by decide)).trans nK_at)
  · exact (nK_ne (by decide)).trans nK_at
  · exact (uR_ne (by omega)).trans uR_at
  · exact (uR_ne (by omega)).trans ((uR_ne (by omega)).trans uR_at)
  · exact (cpM_ne (by decide)).trans ((uM_ne (by omega)).trans ((nM_ne (by decide)).trans ((uM_ne (by omega)).trans uM_at)))
  · exact (cpM_ne (by decide)).trans ((uM_ne (by omega)).trans ((nM_ne (by decide)).trans uM_at))
  · exact (cpM_ne (by decide)).trans uM_at
  · exact (cpM_at j0 j1).trans ((uM_ne (by omega)).trans ((nM_ne (by decide)).trans ((uM_ne (by omega)).trans ((uM_ne (by omega)).trans ((uM_ne (by omega)).trans ((nM_ne (by decide)).trans (m2 218 j (by decide))))))))
  · exact (cpM_ne (by decide)).trans ((uM_ne (by omega)).trans ((nM_ne (by decide)).trans ((uM_ne (by omega)).trans ((uM_ne (by omega)).trans ((uM_ne (by omega)).trans ((nM_ne (by decide)).trans ((hc2 j j0 j1).trans (nM_ne (by decide)))))))))
end W1A
