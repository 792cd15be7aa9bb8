/-! THE LAW'S CASES that tell something of the TAPE, by hand: end, feed, law. -/
section SPC
variable {X : Int → Int} {LX g z g1 bc bs pc n d : Nat} {i y : Int} {la : Nat → Nat} {O : gm_Or} {K : gm_K} {R : gm_R} {M M' : gm_M} {Q : gm_Q} {L : gm_L} {st : List gm_V} {S : ck_Sum}
theorem bg_upd (hb : bg g la K R M) (hF : gm_Fx p2_O (245 + 4 * g) K R M') (hM : ∀ k j, 246 ≤ k → M' k j = M k j) : bg g la K R M' := by
  obtain ⟨h1, -, h3, h4⟩ := hb
  refine ⟨h1, hF, fun j hj => ?_, h4⟩
  have h := h3 j hj
  unfold bg_g at h ⊢
  rw [hM _ _ (by omega), hM _ _ (by omega), hM _ _ (by omega)]
  exact h
/-- GlacierMail.end -/
theorem me_x (hK : (1 ≤ 1 ∧ 1 ≤ n) ∧ (K 1).1 = 0 + 4) (hy : gm_ir y) (hm : gm_ir (M 1 1)) (h0 : y < 0 ∨ M 1 1 < y → Q (.inl (some (gm_vi 0))) n K R M) (h1 : 0 ≤ y → y ≤ M 1 1 → Q (.inl (some (gm_vi 1))) n K R (gm_uM M 1 1 y)) : gm_Wp X LX d bc bs 21 0 (gm_ent 21 [gm_vr 1, gm_vi y]) [] n K R M Q := by
  have e0 : (y < 0 ∨ M 1 1 < y) → gm_Wp X LX d bc bs 21 12 (gm_ent 21 [gm_vr 1, gm_vi y]) [] n K R M Q := fun h => by
    refine gm_sz (gm_p_const (pc := 12) (i := .iconst 0) (v := gm_vi 0) (by decide +kernel) (by decide +kernel)) ?_
    exact gm_r_int (pc := 13) (by decide +kernel) (Or.inr ⟨by decide +kernel, Or.inl rfl⟩) (h0 h)
  refine gm_sz (gm_p_load (pc := 0) (i := .iload_n 1) (sr := 0) (j := 1) (by decide +kernel) rfl rfl rfl) ?_
  refine gm_b_if (cc := .lt) (pc := 1) (off := 11) (by decide +kernel) (by decide) (fun hp => ?_) (fun hp => ?_)
  · rw [gm_cm_w hy ⟨by decide, by decide⟩] at hp
    have hp : y < 0 := hp
    exact e0 (Or.inl hp)
  · rw [gm_cm_w hy ⟨by decide, by decide⟩] at hp
    have hp : ¬ y < 0 := hp
    refine gm_sz (gm_p_load (pc := 4) (i := .iload_n 1) (sr := 0) (j := 1) (by decide +kernel) rfl rfl rfl) ?_
    refine gm_sz (gm_p_load (pc := 5) (i := .aload_n 0) (sr := 2) (j := 0) (by decide +kernel) rfl rfl rfl) ?_
    refine gm_sz (gm_p_get (pc := 6) (ix := 13) (ci := 0) (j := 1) (by decide +kernel) hK.1 hK.2 (by decide +kernel)) ?_
    rw [if_neg (show ¬ gm_isr 0 1 = true by decide +kernel), show M 1 ((1 : Nat) : Int) = M 1 1 from rfl]
    refine gm_b_ic (cc := .le) (pc := 9) (off := 5) (by decide +kernel) (by decide) (fun hp2 => ?_) (fun hp2 => ?_)
    · rw [gm_cm_w hy hm] at hp2
      have hp2 : y ≤ M 1 1 := hp2
      refine gm_sz (gm_p_load (pc := 14) (i := .aload_n 0) (sr := 2) (j := 0) (by decide +kernel) rfl rfl rfl) ?_
      refine gm_sz (gm_p_load (pc := 15) (i := .iload_n 1) (sr := 0) (j := 1) (by decide +kernel) rfl rfl rfl) ?_
      refine gm_sz (gm_p_puti (pc := 16) (ix := 13) (ci := 0) (j := 1) (by decide +kernel) hK.1 hK.2 (by decide +kernel) (by decide +kernel) (Or.inl (by decide +kernel))) ?_
      refine gm_sz (gm_p_const (pc := 19) (i := .iconst 1) (v := gm_vi 1) (by decide +kernel) (by decide +kernel)) ?_
      exact gm_r_int (pc := 20) (by decide +kernel) (Or.inr ⟨by decide +kernel, Or.inr rfl⟩) (h1 (by omega) hp2)
    · rw [gm_cm_w hy hm] at hp2
      have hp2 : ¬ y ≤ M 1 1 := hp2
      exact e0 (Or.inr (by omega))
/-- GlacierMailModel.end -/
theorem me_m (hK : (1 ≤ 226 ∧ 226 ≤ n) ∧ (K 226).1 = 11 + 4) (hy : gm_ir y) (hm : gm_ir (M 226 8)) (h0 : y < 0 ∨ M 226 8 < y → Q (.inl (some (gm_vi 0))) n K R (gm_uM M 226 0 0)) (h1 : 0 ≤ y → y ≤ M 226 8 → Q (.inl (some (gm_vi 1))) n K R (gm_uM (gm_uM M 226 0 0) 226 8 y)) : gm_Wp X LX d bc bs 240 0 (gm_ent 240 [gm_vr 226, gm_vi y]) [] n K R M Q := by
  have e8 : gm_uM M 226 ((0 : Nat) : Int) 0 226 ((8 : Nat) : Int) = M 226 8 := uM_ne (by omega)
  refine gm_sz (gm_p_load (pc := 0) (i := .aload_n 0) (sr := 2) (j := 0) (by decide +kernel) rfl rfl rfl) ?_
  refine gm_sz (gm_p_const (pc := 1) (i := .iconst 0) (v := gm_vi 0) (by decide +kernel) (by decide +kernel)) ?_
  refine gm_sz (gm_p_puti (pc := 2) (ix := 3) (ci := 11) (j := 0) (by decide +kernel) hK.1 hK.2 (by decide +kernel) (by decide +kernel) (Or.inl (by decide +kernel))) ?_
  have e0 : (y < 0 ∨ M 226 8 < y) → gm_Wp X LX d bc bs 240 17 (gm_ent 240 [gm_vr 226, gm_vi y]) [] n K R (gm_uM M 226 ((0 : Nat) : Int) 0) Q := fun h => by
    refine gm_sz (gm_p_const (pc := 17) (i := .iconst 0) (v := gm_vi 0) (by decide +kernel) (by decide +kernel)) ?_
    exact gm_r_int (pc := 18) (by decide +kernel) (Or.inr ⟨by decide +kernel, Or.inl rfl⟩) (h0 h)
  refine gm_sz (gm_p_load (pc := 5) (i := .iload_n 1) (sr := 0) (j := 1) (by decide +kernel) rfl rfl rfl) ?_
  refine gm_b_if (cc := .lt) (pc := 6) (off := 11) (by decide +kernel) (by decide) (fun hp => ?_) (fun hp => ?_)
  · rw [gm_cm_w hy ⟨by decide, by decide⟩] at hp
    have hp : y < 0 := hp
    exact e0 (Or.inl hp)
  · rw [gm_cm_w hy ⟨by decide, by decide⟩] at hp
    have hp : ¬ y < 0 := hp
    refine gm_sz (gm_p_load (pc := 9) (i := .iload_n 1) (sr := 0) (j := 1) (by decide +kernel) rfl rfl rfl) ?_
    refine gm_sz (gm_p_load (pc := 10) (i := .aload_n 0) (sr := 2) (j := 0) (by decide +kernel) rfl rfl rfl) ?_
    refine gm_sz (gm_p_get (pc := 11) (ix := 103) (ci := 11) (j := 8) (by decide +kernel) hK.1 hK.2 (by decide +kernel)) ?_
    rw [if_neg (show ¬ gm_isr 11 8 = true by decide +kernel), e8]
    refine gm_b_ic (cc := .le) (pc := 14) (off := 5) (by decide +kernel) (by decide) (fun hp2 => ?_) (fun hp2 => ?_)
    · rw [gm_cm_w hy hm] at hp2
      have hp2 : y ≤ M 226 8 := hp2
      refine gm_sz (gm_p_load (pc := 19) (i := .aload_n 0) (sr := 2) (j := 0) (by decide +kernel) rfl rfl rfl) ?_
      refine gm_sz (gm_p_load (pc := 20) (i := .iload_n 1) (sr := 0) (j := 1) (by decide +kernel) rfl rfl rfl) ?_
      refine gm_sz (gm_p_puti (pc := 21) (ix := 103) (ci := 11) (j := 8) (by decide +kernel) hK.1 hK.2 (by decide +kernel) (by decide +kernel) (Or.inl (by decide +kernel))) ?_
      refine gm_sz (gm_p_const (pc := 24) (i := .iconst 1) (v := gm_vi 1) (by decide +kernel) (by decide +kernel)) ?_
      exact gm_r_int (pc := 25) (by decide +kernel) (Or.inr ⟨by decide +kernel, Or.inr rfl⟩) (h1 (by omega) hp2)
    · rw [gm_cm_w hy hm] at hp2
      have hp2 : ¬ y ≤ M 226 8 := hp2
      exact e0 (Or.inr (by omega))
theorem mn_t1 (hb : bg g la K R M) : (0 ≤ M 1 1 ∧ M 1 1 ≤ 400) ∧ (0 ≤ M 226 8 ∧ M 226 8 ≤ 400) := by
  have a := ((gm_tyr_s hb.2.1 (show gm_tyr p2_O 1 1 1 = some (0, 400) by decide +kernel)).2 1 (Int.le_refl _) (Int.le_refl _)).2
  have b := ((gm_tyr_s hb.2.1 (show gm_tyr p2_O 226 8 8 = some (0, 400) by decide +kernel)).2 8 (Int.le_refl _) (Int.le_refl _)).2
  exact ⟨a, b⟩
theorem mc_1 (hb : bg g la K R M) (hg : g < 9990) (hM : rl M) (hL : mn_L i L) (hi : 0 ≤ i ∧ i + 6 ≤ (LX : Int)) (hLX : LX ≤ 3072) (hX : ∀ j, gm_ir (X j)) (rest : mn_R X LX bc bs i g Q) : gm_Wp X LX 280 bc bs 370 317 L [] (245 + 4 * g) K R M Q := by
  obtain ⟨hM, hMb⟩ := hM
  have cat : ∀ v ∈ [gm_vi (X (i + 1))], ¬ gm_sort v = 1 := fun v hv => by rw [List.mem_singleton.mp hv]; simp [gm_sort]
  obtain ⟨⟨t1, t2⟩, t3, t4⟩ := mn_t1 hb
  have hy := hX (i + 1)
  refine gm_sz (gm_p_load (pc := 317) (i := .aload_n 1) (sr := 2) (j := 1) (by decide +kernel) rfl hL.2.2.1 rfl) ?_
  refine mn_arg (pc := 318) (j := 1) (by decide +kernel) (by decide +kernel) (by decide +kernel) (by decide +kernel) (by decide +kernel) hL hi (by decide) hLX ?_
  have tail : ∀ M2 : gm_M, gm_Fx p2_O (245 + 4 * g) K R M2 → (∀ k j, 246 ≤ k → M2 k j = M k j) → M2 226 8 = M 226 8 → (∀ j, 0 ≤ j → j < 400 → M2 2 j = M2 231 j) → (M2 1 1 = M 1 1 ∧ (X (i + 1) < 0 ∨ M 1 1 < X (i + 1)) ∨ M2 1 1 = X (i + 1) ∧ 0 ≤ X (i + 1) ∧ X (i + 1) ≤ M 1 1) → gm_Wp X LX 280 bc bs 370 328 L [] (245 + 4 * g) K R M2 Q := by
    intro M2 hF2 hM2 h8 hMb2 hrel
    refine gm_sz (gm_p_load (pc := 328) (i := .aload_n 2) (sr := 2) (j := 2) (by decide +kernel) rfl hL.2.2.2.1 rfl) ?_
    refine mn_arg (pc := 329) (j := 1) (by decide +kernel) (by decide +kernel) (by decide +kernel) (by decide +kernel) (by decide +kernel) hL hi (by decide) hLX ?_
    refine gm_c_virt (k := 226) (ci := 11) (mj := 240) (ix := 148) (pc := 335) (as := [gm_vi (X (i + 1))]) (st := []) (d' := 1) (bc' := 0) (bs' := 0) (by decide +kernel) (by decide +kernel) (by decide +kernel) (by decide +kernel) (md_mo hF2).1 (md_mo hF2).2 (by decide) (by decide +kernel) (show 1 = gm_na 240 by decide +kernel) cat (show 1 + 1 ≤ gm_ml 240 by decide +kernel) (Nat.le_of_ble_eq_true rfl) (by decide) (Nat.zero_le _) (Nat.zero_le _) ?_
    have hF3 : gm_Fx p2_O (245 + 4 * g) K R (gm_uM M2 226 0 0) := gm_Fx_M hF2 (show gm_tyw p2_O 226 0 0 0 0 = true by decide +kernel) (Int.le_refl _) (Int.le_refl _) (Int.le_refl _) (Int.le_refl _)
    refine me_m ⟨(md_mo hF2).1, (md_mo hF2).2⟩ hy ⟨by omega, by omega⟩ (fun h => ?_) (fun h h2 => ?_)
    · show gm_Wp X LX 280 _ _ 370 338 L [gm_vi 0] (245 + 4 * g) K R (gm_uM M2 226 0 0) Q
      refine gm_sz (gm_p_pop (pc := 338) (by decide +kernel) (by simp [gm_sort])) ?_
      refine gm_sz (gm_p_goto (pc := 339) (off := 1654) (by decide +kernel) (by decide)) ?_
      have e1 : gm_uM M2 226 0 0 1 1 = M2 1 1 := uM_ne (by omega)
      have e2 : gm_uM M2 226 0 0 226 8 = M2 226 8 := uM_ne (by omega)
      exact gm_Wp_wk (Nat.le_refl _) (by omega) (by omega) (rest g la K R _ L (bg_upd hb hF3 (fun k j hk => by rw [uM_ne (by omega)]; exact hM2 k j hk)) (by omega) ⟨by omega, fun j j1 j2 => (uM_ne (by omega)).trans ((hMb2 j j1 j2).trans (uM_ne (by omega)).symm)⟩ hL)
    · show gm_Wp X LX 280 _ _ 370 338 L [gm_vi 1] (245 + 4 * g) K R (gm_uM (gm_uM M2 226 0 0) 226 8 (X (i + 1))) Q
      refine gm_sz (gm_p_pop (pc := 338) (by decide +kernel) (by simp [gm_sort])) ?_
      refine gm_sz (gm_p_goto (pc := 339) (off := 1654) (by decide +kernel) (by decide)) ?_
      have e1 : gm_uM (gm_uM M2 226 0 0) 226 8 (X (i + 1)) 1 1 = M2 1 1 := by rw [uM_ne (by omega), uM_ne (by omega)]
      have e2 : gm_uM (gm_uM M2 226 0 0) 226 8 (X (i + 1)) 226 8 = X (i + 1) := uM_at
      have hF4 := gm_Fx_M hF3 (show gm_tyw p2_O 226 8 8 0 400 = true by decide +kernel) (Int.le_refl 8) (Int.le_refl 8) h (show X (i + 1) ≤ (400 : Int) by omega)
      exact gm_Wp_wk (Nat.le_refl _) (by omega) (by omega) (rest g la K R _ L (bg_upd hb hF4 (fun k j hk => by rw [uM_ne (by omega), uM_ne (by omega)]; exact hM2 k j hk)) (by omega) ⟨by omega, fun j j1 j2 => ((uM_ne (by omega)).trans (uM_ne (by omega))).trans ((hMb2 j j1 j2).trans ((uM_ne (by omega)).trans (uM_ne (by omega))).symm)⟩ hL)
  have kx := lq_kd (c := 0) hb.2.1 lq_or.1.1
  refine gm_c_virt (k := 1) (ci := 0) (mj := 21) (ix := 144) (pc := 324) (as := [gm_vi (X (i + 1))]) (st := []) (d' := 1) (bc' := 0) (bs' := 0) (by decide +kernel) (by decide +kernel) (by decide +kernel) (by decide +kernel) kx.1 kx.2 (by decide) (by decide +kernel) (show 1 = gm_na 21 by decide +kernel) cat (show 1 + 1 ≤ gm_ml 21 by decide +kernel) (Nat.le_of_ble_eq_true rfl) (by decide) (Nat.zero_le _) (Nat.zero_le _) ?_
  refine me_x kx hy ⟨by omega, by omega⟩ (fun h => ?_) (fun h h2 => ?_)
  · show gm_Wp X LX 280 _ _ 370 327 L [gm_vi 0] (245 + 4 * g) K R M Q
    refine gm_sz (gm_p_pop (pc := 327) (by decide +kernel) (by simp [gm_sort])) ?_
    exact gm_Wp_wk (Nat.le_refl _) (by omega) (by omega) (tail M hb.2.1 (fun _ _ _ => rfl) rfl hMb (Or.inl ⟨rfl, h⟩))
  · show gm_Wp X LX 280 _ _ 370 327 L [gm_vi 1] (245 + 4 * g) K R (gm_uM M 1 1 (X (i + 1))) Q
    refine gm_sz (gm_p_pop (pc := 327) (by decide +kernel) (by simp [gm_sort])) ?_
    exact gm_Wp_wk (Nat.le_refl _) (by omega) (by omega) (tail _ (gm_Fx_M hb.2.1 (show gm_tyw p2_O 1 1 1 0 400 = true by decide +kernel) (Int.le_refl 1) (Int.le_refl 1) h (show X (i + 1) ≤ (400 : Int) by omega)) (fun k j hk => uM_ne (by omega)) (uM_ne (by omega)) (fun j j1 j2 => (uM_ne (by omega)).trans ((hMb j j1 j2).trans (uM_ne (by omega)).symm)) (Or.inr ⟨uM_at, h, h2⟩))
/-- feed: the numbers that it tells -/
def mn_f (t0 t2 y : Int) : Prop := (y = t0 + 20 ∧ t2 = t0 + 20 ∧ t2 ≤ 400) ∨ (y = -1 ∧ t2 = t0 ∧ 381 ≤ t0)
theorem mn_fdK {s kk ok n1 : Nat} {jj oj : Int} {FA FB : List (Nat × Int × Int × ck_I)} (hs : (s, kk, jj) ∈ O.2.2.nm) (hs2 : s < 1000000) (hkk : kk ≤ 245) (hok : ok ≤ 245) (hkeep : bc_keep S ok oj = true) (ho : S.2.2.2.2.2 = [(.inr (some (.inl (20, 400, [(s, 20)]))), n1, ([], [], (kk, jj, jj, (20, 400, [(s, 20)])) :: FA)), (.inr (some (.inl (ck_one (-1)))), n1, ([], [], (kk, jj, jj, (381, 400, [(s, 0)])) :: FB))]) (hbc : 6 ≤ bc) (hbs : 600 ≤ bs) (h4 : S.1.2.1 ≤ 6) (h5 : S.1.2.2 ≤ 600) (k : ∀ (g' : Nat) (la' : Nat → Nat) (K2 : gm_K) (R2 : gm_R) (M2 : gm_M) (y : Int), bg g' la' K2 R2 M2 → g' ≤ g + 1 → M2 ok oj = M ok oj → gm_ir y → mn_f (M kk jj) (M2 kk jj) y → gm_Wp X LX 280 (bc - 6) (bs - 600) 370 pc L (gm_vi y :: st) (245 + 4 * g') K2 R2 M2 Q) : bc_K X LX 280 (bc - S.1.2.1) (bs - S.1.2.2) 370 pc L st Q O z g1 g la K M S := by
  intro oc hoc σ u n' K' R' M' hσ hu hf hF hfr g' la' K2 R2 M2 hb2 hg2 hM2
  have e1 : ∀ c j, c ≤ 245 → bs_M la M c j = M c j := fun c j hc => by unfold bs_M bg_rho; rw [if_pos (by omega)]
  have hsv : σ s = M kk jj := (hσ _ hs).trans (e1 kk jj hkk)
  have hkp : M2 ok oj = M ok oj := by rw [hM2 ok oj hok, bc_keep_s hkeep (by omega) hfr, e1 ok oj hok]
  rw [ho] at hoc
  simp only [List.mem_cons, List.not_mem_nil, or_false] at hoc
  rcases hoc with rfl | rfl
  · cases u with
    | none => exact absurd hu id
    | some v =>
      obtain ⟨y, rfl, hy, -, -, ht⟩ := hu
      have t1 : y = σ s + 20 := (ht (s, 20) List.mem_cons_self).1 hs2
      have t2 := ((hf.2.2 _ List.mem_cons_self).2 jj (Int.le_refl _) (Int.le_refl _)).2
      have t3 : M' kk jj = σ s + 20 := (t2.2.2 (s, 20) List.mem_cons_self).1 hs2
      have t4 : M' kk jj ≤ (400 : Int) := t2.2.1
      have t5 := hM2 kk jj hkk
      exact gm_Wp_wk (Nat.le_refl _) (by omega) (by omega) (k g' la' K2 R2 M2 y hb2 hg2 hkp hy (Or.inl ⟨by omega, by omega, by omega⟩))
  · cases u with
    | none => exact absurd hu id
    | some v =>
      obtain ⟨y, rfl, hy, h6, h7, -⟩ := hu
      have h6 : (-1 : Int) ≤ y := h6
      have h7 : y ≤ (-1 : Int) := h7
      have t2 := ((hf.2.2 _ List.mem_cons_self).2 jj (Int.le_refl _) (Int.le_refl _)).2
      have t3 : M' kk jj = σ s + 0 := (t2.2.2 (s, 0) List.mem_cons_self).1 hs2
      have t4 : (381 : Int) ≤ M' kk jj := t2.1
      have t5 := hM2 kk jj hkk
      exact gm_Wp_wk (Nat.le_refl _) (by omega) (by omega) (k g' la' K2 R2 M2 y hb2 hg2 hkp hy (Or.inr ⟨by omega, by omega, by omega⟩))
/-- behind the class's law(), by the law's own method: one law more, or none -/
theorem lqh_rt {σ : Nat → Int} {o : gm_O} {n' : Nat} {K1 K' : gm_K} {R' : gm_R} {M1 M' : gm_M} (hq : ck_Q p2_O σ lqh_S.2.2.2.2.1 245 K1 (bs_R 100003 0) M1 lqh_S.2.2.2.2.2 o n' K' R' M') : (∃ y, o = .inl (some (gm_vi y))) ∧ (∃ c, bs_rt 100003 0 c K1 M1 n' K' R' M') ∧ M' 1 1 = 0 ∧ M' 226 8 = M1 226 8 := by
  obtain ⟨hF, hfr, oc, hoc, ho, hn, hf⟩ := hq
  have hk8 : M' 226 8 = M1 226 8 := hfr.2.2.1 226 8 (by decide) (fun w hw hh => by
    have := of_decide_eq_true (List.all_eq_true.mp (show lqh_S.2.2.2.2.1.1.all (fun w => decide (¬ (w.1 = 226 ∧ w.2.1 ≤ 8 ∧ 8 ≤ w.2.2))) = true by decide) w hw)
    exact this hh)
  have hW1 : ∀ k j, 246 ≤ k → k ≤ 245 + 4 * 0 → M' k j = M1 k j := fun k j h1 h2 => by omega
  have hR : ∀ k j, k ≤ 245 + 4 * 0 → ¬ (k ∈ bg_ss ∧ j = 8) → R' k j = bs_R 100003 0 k j := fun k j h1 h2 => hfr.2.2.2 k j h1 (fun hm => h2 (by
    have hm : (k, j) ∈ [((3 : Nat), (8 : Int))] := hm
    cases List.mem_singleton.mp hm
    exact ⟨by decide, rfl⟩))
  have hs0 : ∀ s ∈ bg_ss, ¬ s = 3 → R' s 8 = 100000 + s := fun s hs h3 => by
    rw [hfr.2.2.2 s 8 (by have := bg_ssl hs; omega) (fun hm => h3 (by
      have hm : (s, (8 : Int)) ∈ [((3 : Nat), (8 : Int))] := hm
      exact congrArg Prod.fst (List.mem_singleton.mp hm))), bc_lf hs, if_neg h3]
  have hoc : oc ∈ (.inr (some (.inl (ck_one 1))), 245, ([], [(3, 8, 100003)], [(1, 1, 1, ck_one 0)])) :: (List.range 401).map lqh_o := hoc
  rcases List.mem_cons.mp hoc with rfl | hoc
  · refine ⟨?_, ⟨0, ⟨Or.inl rfl, hn⟩, hF, fun k hk => hfr.2.1 k hk, hW1, hR, fun s hs => ?_, fun h => by omega⟩, ?_, hk8⟩
    · rcases o with (_ | v) | x
      · exact absurd ho id
      · obtain ⟨y, rfl, -⟩ := ho
        exact ⟨y, rfl⟩
      · exact absurd ho id
    · by_cases h3 : s = 3
      · subst h3
        exact Or.inr (Or.inr ⟨3, by decide, (hf.2.1 (3, 8, 100003) List.mem_cons_self).2⟩)
      · exact Or.inr (Or.inr ⟨s, hs, hs0 s hs h3⟩)
    · have := ((hf.2.2 (1, 1, 1, ck_one 0) List.mem_cons_self).2 1 (Int.le_refl _) (Int.le_refl _)).2
      exact Int.le_antisymm this.2.1 this.1
  · obtain ⟨N, hN, rfl⟩ := List.mem_map.mp hoc
    have hN := List.mem_range.mp hN
    have q : ∀ a ∈ [((1 : Nat), (1 : Int), (1 : Int), ck_one 0), (248, 0, 0, ck_one 12), (248, 1, 1, ck_one 4), (248, 3, 3, (0, 12, []))], a.1 ≤ n' ∧ ∀ j, a.2.1 ≤ j → j ≤ a.2.2.1 → gm_ir (M' a.1 j) ∧ ck_gi σ a.2.2.2 (M' a.1 j) := hf.2.2
    have kq : ∀ a ∈ [((246 : Nat), (14 : Nat), (0 : Nat)), (247, 0, N), (248, 6, 0), (249, 0, 48)], (1 ≤ a.1 ∧ a.1 ≤ n') ∧ K' a.1 = a.2 := hf.1
    have rq : ∀ a ∈ [((3 : Nat), (8 : Int), (246 : Nat)), (246, 0, 248), (246, 1, 247), (248, 2, 249)], a.1 ≤ n' ∧ R' a.1 a.2.1 = a.2.2 := hf.2.1
    have b0 := (q (248, 0, 0, ck_one 12) (by simp)).2 0 (Int.le_refl _) (Int.le_refl _)
    have b1 := (q (248, 1, 1, ck_one 4) (by simp)).2 1 (Int.le_refl _) (Int.le_refl _)
    have b3 := (q (248, 3, 3, (0, 12, [])) (by simp)).2 3 (Int.le_refl _) (Int.le_refl _)
    have a1 := (q (1, 1, 1, ck_one 0) (by simp)).2 1 (Int.le_refl _) (Int.le_refl _)
    refine ⟨?_, ⟨1, ⟨Or.inr ⟨rfl, rfl⟩, hn⟩, hF, fun k hk => hfr.2.1 k hk, hW1, hR, fun s hs => ?_, fun _ => ⟨⟨⟨(kq (246, 14, 0) (by simp)).2, ⟨N, by omega, (kq (247, 0, N) (by simp)).2⟩, (kq (248, 6, 0) (by simp)).2, (kq (249, 0, 48) (by simp)).2⟩, Int.le_antisymm b0.2.2.1 b0.2.1, Int.le_antisymm b1.2.2.1 b1.2.1, b3.2.1, b3.2.2.1⟩, (rq (246, 0, 248) (by simp)).2, (rq (246, 1, 247) (by simp)).2, (rq (248, 2, 249) (by simp)).2⟩⟩, Int.le_antisymm a1.2.2.1 a1.2.1, hk8⟩
    · rcases o with (_ | v) | x
      · exact absurd ho id
      · obtain ⟨y, rfl, -⟩ := ho
        exact ⟨y, rfl⟩
      · exact absurd ho id
    · by_cases h3 : s = 3
      · subst h3
        exact Or.inr (Or.inl ⟨(rq (3, 8, 246) (by simp)).2, Or.inr rfl⟩)
      · exact Or.inr (Or.inr ⟨s, hs, hs0 s hs h3⟩)
end SPC
