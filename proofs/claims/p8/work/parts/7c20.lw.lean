/-! THE CLASS'S law(), THE REFERENCE'S, told of the world. -/
section LW20
variable {X : Int → Int} {LX : Nat} {g n : Nat} {la la2 : Nat → Nat} {K K1 K2 : gm_K} {R R1 R2 : gm_R} {M M1 M2 : gm_M} {L : gm_L} {st : List gm_V} {Q : gm_Q} {N N0 : Int → Int} {lw lw0 : Option (List lln)} {A A0 A' : List (Int → Int)} {im im0 : Option ((Int → Int) × Option (List lln))} {t w t0 w0 x : Int} {f f0 a : Int → Int} {bc bs pc ix : Nat} {ls : List lln}
/-- the law that was just read -/
theorem lawc_new (h : NL ls K1 R1 M1) (eK : ∀ k, 247 ≤ k → k ≤ 249 → K2 (k + 4 * g) = K1 k) (eM : ∀ k, 247 ≤ k → k ≤ 249 → M2 (k + 4 * g) = M1 k) : LAWC (g + 1) (some ls) K2 M2 := by
  refine ⟨(fun e => nomatch e), fun ls2 e => ?_⟩
  cases e
  obtain ⟨us, hu, hk, -, hL, hC, hW⟩ := h
  have r : ∀ k, 247 ≤ k → bg_rho (g + 1) k = k + 4 * g := fun k k1 => by unfold bg_rho; rw [if_neg (by omega)]; omega
  have r7 := r 247 (by decide)
  have r8 := r 248 (by decide)
  have r9 := r 249 (by decide)
  have e7 := eM 247 (by decide) (by decide)
  have e8 := eM 248 (by decide) (by decide)
  have e9 := eM 249 (by decide) (by decide)
  refine ⟨by omega, hW, us.toNat, by omega, by rw [r7, eK 247 (by decide) (by decide)]; exact hk.2.1, ?_, by rw [r7, r9, e7, e9]; exact hC⟩
  unfold LB LM at hL ⊢
  simpa only [r7, r8, r9, e7, e8, e9] using hL
/-- behind the class's law() -/
noncomputable def ml_K (X : Int → Int) (LX bc bs pc : Nat) (L : gm_L) (st : List gm_V) (Q : gm_Q) (g : Nat) (u : Option gm_V) (ov : Option Int) (P : (Nat → Nat) → gm_K → gm_M → Prop) : Prop := ∀ (g2 : Nat) (la2 : Nat → Nat) (K2 : gm_K) (R2 : gm_R) (M2 : gm_M), g2 ≤ g + 1 → bg g2 la2 K2 R2 M2 → P la2 K2 M2 → (∀ v, ov = some v → Int64.ofInt (M2 245 0) = Int64.ofInt (gm_w v)) → gm_Wp X LX 280 (bc - 6) (bs - 600) 370 pc L (u.toList ++ st) (245 + 4 * g2) K2 R2 M2 Q
theorem fx_tape (hF : gm_Fx p2_O n K R M) (h1 : M 1 1 = t) (hf : ∀ j, 0 ≤ j → j < 400 → M 2 j = f j) : gm_Fx p2_O n K R (fe M t f) := by
  refine ⟨hF.1, hF.2.1, fun k r hq => ⟨(hF.2.2.1 k r hq).1, fun j j1 j2 => ?_⟩, hF.2.2.2.1, ?_⟩
  · have h := (hF.2.2.1 k r hq).2 j j1 j2
    by_cases e : k = 2
    · subst e
      have hb := of_decide_eq_true (List.all_eq_true.mp (show (p2_O.2.2.ty 2).all (fun r => decide (0 ≤ r.1 ∧ r.2.1 < 400)) = true by decide +kernel) r hq)
      rw [fe_2, ← hf j (by omega) (by omega)]
      exact h
    · rw [fe_ne h1 e]
      exact h
  · have hJ : jP p2_ty (M 227) (M 228) (M 229) (M 230) := hF.2.2.2.2
    have e : ∀ k, ¬ k = 2 → fe M t f k = M k := fun k hk => funext fun j => fe_ne h1 hk
    show jP p2_ty (fe M t f 227) (fe M t f 228) (fe M t f 229) (fe M t f 230)
    rw [e 227 (by decide), e 228 (by decide), e 229 (by decide), e 230 (by decide)]
    exact hJ
theorem lqw_c : lq_W.1.all (fun w => decide (w.1 < 226)) = true := by decide +kernel
theorem dt_u {v : Int} (hd : dt_m n K1 M1 K2 M2) : dt_m n K1 (gm_uM M1 245 0 v) K2 (gm_uM M2 245 0 v) := fun k h1 h2 he => by
  obtain ⟨a1, a2, a3⟩ := hd k h1 h2 he
  have u : ∀ j : Int, (gm_uM M1 245 0 v k j = v ∧ gm_uM M2 245 0 v k j = v) ∨ (gm_uM M1 245 0 v k j = M1 k j ∧ gm_uM M2 245 0 v k j = M2 k j) := fun j => by
    unfold gm_uM
    by_cases e : k = 245 ∧ j = 0
    · rw [if_pos e, if_pos e]; exact Or.inl ⟨rfl, rfl⟩
    · rw [if_neg e, if_neg e]; exact Or.inr ⟨rfl, rfl⟩
  refine ⟨fun h j hj => ?_, fun h j hj => ?_, fun c j hc hj hr => ?_⟩
  · rcases u (j : Int) with ⟨e1, e2⟩ | ⟨e1, e2⟩
    · rw [e1, e2]
    · rw [e1, e2]; exact a1 h j hj
  · rcases u (j : Int) with ⟨e1, e2⟩ | ⟨e1, e2⟩
    · rw [e1, e2]
    · rw [e1, e2]; exact a2 h j hj
  · rcases u (j : Int) with ⟨e1, e2⟩ | ⟨e1, e2⟩
    · rw [e1, e2]
    · rw [e1, e2]; exact a3 c j hc hj hr
theorem mx_u {v : Int} : mxM 245 (gm_uM M2 245 0 v) (gm_uM M1 245 0 v) = gm_uM (mxM 245 M2 M1) 245 0 v := by
  funext k j
  show (if k ≤ 245 then (if k = 245 ∧ j = 0 then v else M2 k j) else (if k = 245 ∧ j = 0 then v else M1 k j)) = if k = 245 ∧ j = 0 then v else (if k ≤ 245 then M2 k j else M1 k j)
  by_cases e : k = 245 ∧ j = 0
  · rw [if_pos e, if_pos e, if_pos e, ite_self]
  · rw [if_neg e, if_neg e, if_neg e]
/-- types and all, by the row, in the cells that were there -/
theorem fx_mx {n1 n2 : Nat} {z g1 : Nat} (hF : gm_Fx p2_O n2 K2 R2 M2) (hn : 245 ≤ n1) (eK : ∀ k, k ≤ 245 → K1 k = K2 k) (eR : ∀ k j, k ≤ 245 → ¬ (k = 3 ∧ j = 8) → R1 k j = bs_R z g1 k j) : gm_Fx p2_O n1 K1 R1 (mxM 245 M2 M1) := by
  have eM : ∀ k, k ≤ 245 → mxM 245 M2 M1 k = M2 k := fun k h => funext fun j => mxM_o h
  refine ⟨fun k q hq => ?_, fun k j r hq => ?_, fun k r hq => ?_, fun k r hq => ?_, ?_⟩
  · obtain ⟨a1, a2, a3⟩ := hF.1 k q hq
    have := bg_O1 hq
    exact ⟨a1, by omega, (eK k (by omega)).trans a3⟩
  · obtain ⟨-, a2, a3⟩ := bg_rfo hq
    refine ⟨by omega, (eR k j a2 (fun e => a3 ⟨by rw [e.1]; decide, e.2⟩)).trans ?_⟩
    unfold bs_R
    rw [hq]
  · obtain ⟨a1, a2⟩ := hF.2.2.1 k r hq
    have := bg_tyk hq
    refine ⟨by omega, fun j j1 j2 => ?_⟩
    rw [eM k (by omega)]
    exact a2 j j1 j2
  · have := jfp_b hq
    by_cases hk9 : k ≤ 245
    · omega
    · have hq : r ∈ j_fp k := hq
      rw [show j_fp k = [] by unfold j_fp; rw [if_neg (by omega), if_neg (by omega), if_neg (by omega), if_neg (by omega)]] at hq
      cases hq
  · have hJ : jP p2_ty (M2 227) (M2 228) (M2 229) (M2 230) := hF.2.2.2.2
    show jP p2_ty (mxM 245 M2 M1 227) (mxM 245 M2 M1 228) (mxM 245 M2 M1 229) (mxM 245 M2 M1 230)
    rw [eM 227 (by decide), eM 228 (by decide), eM 229 (by decide), eM 230 (by decide)]
    exact hJ
theorem lw_key {n1 n2 : Nat} {o : gm_O} (hb : bg g la K R M) (hg : g < 10000) (hR : REL la K M N lw A im t w f) (hbc : 6 ≤ bc) (hbs : 600 ≤ bs) (k : ml_K X LX bc bs pc L st Q g (some (gm_vi (ap_law f t lw A).1)) (oV (ap_law f t lw A).1 (ap_law f t lw A).2.1) (fun la2 K2 M2 => MID la2 K2 M2 N (ap_law f t lw A).2.2.1 (ap_law f t lw A).2.2.2.1 im 0 (ap_law f t lw A).2.2.2.2 f N lw A im t w f)) (q1 : LQ (bs_K la K) (bs_R 100003 0) (fe (bs_M la M) t f) (ap_law f t lw A) N im f o n1 K1 R1 M1) (hF2 : gm_Fx p2_O n2 K2 R2 M2) (hK2 : ∀ k, k ≤ 245 → K2 k = bs_K la K k) (hrf : ∀ k j, rK k j → M2 k j = M k j) (hdt : dt_m 245 K1 M1 K2 M2) : gm_owe X LX 280 (bc - 5) (bs - 470) 370 pc L st (bg_rho (la 3)) (bg_f la) (245 + 4 * 0) (245 + 4 * g) K R M Q o n1 K1 R1 (mxM 245 M2 M1) := by
  have hz : bs_ok la 100003 0 := Or.inr (Or.inl ⟨rfl, rfl⟩)
  have hV := clv_w hb hR.2.2.1
  have h11 := hV.2.2.2.2.1.1
  have hRA2 := ra_law hR.1
  obtain ⟨rfl, hv, hC, h42, hk1, hend⟩ := q1
  have h42 : M1 42 1 = M 42 1 := h42.trans ((fe_ne h11 (by decide)).trans (vM (by decide)))
  have eK : ∀ k, k ≤ 245 → K1 k = K2 k := fun k hk => (hk1 k hk).trans (hK2 k hk).symm
  have hV2 := clv_dt hdt (Nat.le_refl _) (fun k _ hk => eK k hk) hF2 hRA2 hC
  have e : ∀ k j, k ≤ 245 → bg_M g M (mxM 245 M2 M1) k j = M2 k j := fun k j hk => (bg_Ms hk j).trans (mxM_o hk)
  have hx : 0 ≤ M1 42 1 ∧ M1 42 1 < 12 := his_nx hC.1.2
  have e42 : bg_M g M (mxM 245 M2 M1) 42 1 = M 42 1 := by
    rw [e 42 1 (by decide)]
    have e9 : M2 42 1 = gm_w (M1 42 1) := dw_f hdt (Nat.le_refl _) (fun k _ hk => eK k hk) hF2 dt_c2.1
    rw [e9, dw_i ⟨by omega, by omega⟩, h42]
  have hans : ∀ v, oV (ap_law f t lw A).1 (ap_law f t lw A).2.1 = some v → Int64.ofInt (bg_M g M (mxM 245 M2 M1) 245 0) = Int64.ofInt (gm_w v) := fun v hv2 => by
    obtain ⟨c1, c2⟩ := oV_s hv2
    rw [e 245 0 (by decide), c2, ← hv c1]
    have k245 := hF2.1 245 (2, 1) (by decide +kernel)
    have ee := eK 245 (by decide)
    exact ((hdt 245 (by decide) (Nat.le_refl _) ee).2.1 (by rw [ee, k245.2.2]) 0 (by rw [ee, k245.2.2]; decide)).symm
  have hRf : RFV N lw A im t w f (bg_M g M (mxM 245 M2 M1)) := rfv_e hR.2.2.2 (fun k j hk0 => by
    have hk := rk_le hk0
    rw [e k j (by omega)]
    exact hrf k j hk0)
  have oldM : ∀ k j, 246 ≤ k → k ≤ 245 + 4 * g → bg_M g M (mxM 245 M2 M1) k j = M k j := fun k j h1 h2 => bg_oldM h1 h2
  have oldK : ∀ k, 246 ≤ k → k ≤ 245 + 4 * g → bg_K g K K1 k = K k := fun k _ h2 => bg_Ks h2
  rcases hend with ⟨hr1, rfl, hRR⟩ | ⟨hr0, rfl, hRR, ls, hls, hnl⟩
  · have hrt : bs_rt 100003 0 0 (bs_K la K) (bs_M la M) 245 K1 R1 (mxM 245 M2 M1) := ⟨⟨Or.inl rfl, rfl⟩, fx_mx hF2 (Nat.le_refl _) eK (fun k j hk _ => hRR k j hk), fun k hk => hk1 k hk, fun k j k1 k2 => by omega, fun k j hk _ => hRR k j hk, fun s hs => Or.inr (Or.inr ⟨s, hs, (hRR s 8 (bg_ssl hs).2).trans ((bc_lf hs).trans (by split <;> omega))⟩), fun h => absurd h (by decide)⟩
    refine bg_oweX (c := 0) hb hz hg hrt (Or.inr ⟨_, rfl⟩) (fun hb2 => ?_)
    have er : ap_law f t lw A = (1, 0, lw, A, (ap_law f t lw A).2.2.2.2) := by
      unfold ap_law at hr1 ⊢
      by_cases h1 : ¬ (g_law f t).1 = true
      · rw [tif_t h1]
      · rw [tif_f h1] at hr1
        exact absurd (show (0 : Int) = 1 from hr1) (by decide)
    have e1 : (ap_law f t lw A).2.2.1 = lw := by rw [er]
    have e2 : (ap_law f t lw A).2.2.2.1 = A := by rw [er]
    refine gm_Wp_wk (Nat.le_refl _) (by omega) (by omega) (k g _ _ _ _ (by omega) hb2 ⟨hRA2, hR.1, ?_, clv_e hV2 (cstF hb2.2.1) (fun k j hk => e k j (by have := ck_le hk; omega)), hRf⟩ hans)
    rw [e1, e2]
    refine lwl_e hR.2.1 hb.2.2.2 (fun s hs => ?_) e42 oldK oldM
    show bg_dc la g 0 (R1 s 8) = la s
    rw [hRR s 8 (bg_ssl hs).2]
    exact bg_dcs hz hs
  · have hnl2 := hnl
    obtain ⟨us, hu, ⟨k6, k7, k8, k9⟩, ⟨r3, r60, r61, r82⟩, hLB, -⟩ := hnl2
    have hs3 : ∀ s ∈ bg_ss, ¬ s = 3 → R1 s 8 = 100000 + s := fun s hs h3 => (hRR s 8 (bg_ssl hs).2 (fun e => h3 e.1)).trans ((bc_lf hs).trans (if_neg h3))
    have hrt : bs_rt 100003 0 1 (bs_K la K) (bs_M la M) 249 K1 R1 (mxM 245 M2 M1) := by
      have q8 : ∀ j, mxM 245 M2 M1 248 j = M1 248 j := fun j => mxM_n (by decide)
      have hm := hLB.1.1
      refine ⟨⟨Or.inr ⟨rfl, rfl⟩, rfl⟩, fx_mx hF2 (by decide) eK hRR, fun k hk => hk1 k hk, fun k j k1 k2 => by omega, fun k j hk hs => hRR k j hk (fun e => hs ⟨by rw [e.1]; decide, e.2⟩), fun s hs => ?_, fun _ => ⟨⟨⟨k6, ⟨us.toNat, by omega, k7⟩, k8, k9⟩, ?_⟩, r60, r61, r82⟩⟩
      · by_cases h3 : s = 3
        · subst h3
          exact Or.inr (Or.inl ⟨r3, Or.inr rfl⟩)
        · exact Or.inr (Or.inr ⟨s, hs, hs3 s hs h3⟩)
      · show mxM 245 M2 M1 248 0 = 12 ∧ mxM 245 M2 M1 248 1 = 4 ∧ 0 ≤ mxM 245 M2 M1 248 3 ∧ mxM 245 M2 M1 248 3 ≤ 12
        rw [q8, q8, q8]
        exact hm
    refine bg_oweX (c := 1) hb hz hg hrt (Or.inr ⟨_, rfl⟩) (fun hb2 => ?_)
    have er : (ap_law f t lw A).2.2.2.1 = [] := by
      unfold ap_law at hr0 ⊢
      by_cases h1 : ¬ (g_law f t).1 = true
      · rw [tif_t h1] at hr0
        exact absurd (show (1 : Int) = 0 from hr0) (by decide)
      · rw [tif_f h1]
    have l3 : bg_la la g 1 R1 3 = g + 1 := by
      show bg_dc la g 1 (R1 3 8) = g + 1
      rw [r3]
      unfold bg_dc
      rw [if_neg (by decide), if_pos rfl, if_pos rfl]
    have l29 : bg_la la g 1 R1 29 = la 29 := by
      show bg_dc la g 1 (R1 29 8) = la 29
      rw [hs3 29 (by decide) (by decide)]
      unfold bg_dc
      rw [if_neg (by decide), if_neg (by decide)]
    have nK : ∀ k, 247 ≤ k → k ≤ 249 → bg_K g K K1 (k + 4 * g) = K1 k := fun k h1 h2 => by unfold bg_K; rw [if_neg (by omega), show k + 4 * g - 4 * g = k by omega]
    have nM : ∀ k, 247 ≤ k → k ≤ 249 → bg_M g M (mxM 245 M2 M1) (k + 4 * g) = M1 k := fun k h1 h2 => funext fun j => by unfold bg_M; rw [if_neg (by omega), if_neg (by omega), show k + 4 * g - 4 * g = k by omega]; exact mxM_n (by omega)
    refine gm_Wp_wk (Nat.le_refl _) (by omega) (by omega) (k (g + 1) _ _ _ _ (Nat.le_refl _) hb2 ⟨hRA2, hR.1, ?_, clv_e hV2 (cstF hb2.2.1) (fun k j hk => e k j (by have := ck_le hk; omega)), hRf⟩ hans)
    rw [er, hls]
    refine ⟨by rw [l3]; exact lawc_new hnl nK nM, fun i hi => absurd hi (Nat.not_lt_zero _), fun NI lI e => ?_⟩
    rw [l29]
    exact lawc_e (hR.2.1.2.2 NI lI e) (hb.2.2.2 29 (by decide)) oldK oldM
theorem ow_law (hb : bg g la K R M) (hg : g < 10000) (hR : REL la K M N lw A im t w f) (h : gm_at 370 pc = some (.invokestatic ix)) (hc : gm_cal (gm_ow 370) ix = some (5, 122)) (hst : (st.map gm_cat).sum ≤ 8) (hbc : 6 ≤ bc) (hbs : 600 ≤ bs) (k : ml_K X LX bc bs (pc + 3) L st Q g (some (gm_vi (ap_law f t lw A).1)) (oV (ap_law f t lw A).1 (ap_law f t lw A).2.1) (fun la2 K2 M2 => MID la2 K2 M2 N (ap_law f t lw A).2.2.1 (ap_law f t lw A).2.2.2.1 im 0 (ap_law f t lw A).2.2.2.2 f N lw A im t w f)) : gm_Wp X LX 280 bc bs 370 pc L (gm_vr 245 :: gm_vr 1 :: st) (245 + 4 * g) K R M Q := by
  have hz : bs_ok la 100003 0 := Or.inr (Or.inl ⟨rfl, rfl⟩)
  have hF := bs_F0 (z := 100003) hb
  have hσ := ck_sn_s (σ := fun _ => 0) (M := bs_M la M) p2_nmu
  have ha : gm_ar (bg_rho (la 3)) (245 + 4 * 0) [gm_vr 1, gm_vr 245] [gm_vr 1, gm_vr 245] := ⟨_, _, rfl, Or.inr ⟨1, ⟨by decide, by decide⟩, rfl, by rfl⟩, _, _, rfl, Or.inr ⟨245, ⟨by decide, by decide⟩, rfl, by rfl⟩, rfl⟩
  have hE : E0 245 (bs_K la K) (bs_R 100003 0) := e0F hF
  have hV := clv_w hb hR.2.2.1
  have h11 := hV.2.2.2.2.1.1
  have k2 := (hE.1 2 (1, 400) (by decide +kernel)).2
  refine gm_c_statS (mj := 122) (as1 := [gm_vr 1, gm_vr 245]) (as := [gm_vr 1, gm_vr 245]) (st := st) (d' := 27) (bc' := 5) (bs' := 470) (fun ti α => bg_sbw hb hz ti α) (fun i j a b c d e => bc_hin hz i j a b c d e) (bs_Rv hz) ha h hc (by decide +kernel) (by decide +kernel) (show 2 = gm_na 122 by decide +kernel) (show 2 ≤ gm_ml 122 by decide +kernel) hst (by decide) (by omega) (by omega) ?_
  have hrow := gm_Wp_wk (d := 26) (d' := 26) (bc := 5) (bs := 470) (Nat.le_refl _) (by decide) (by decide) (lq_S_s (X := X) (LX := LX) 26 (ck_sn p2_O (fun _ => 0) (bs_M la M)) [gm_vr 1] _ _ _ _ (by decide) rfl ⟨_, _, rfl, rfl, rfl⟩ hσ hF (bc_f_s (show bc_f p2_O 100003 lq_S.2.2.2.1 = true by decide +kernel) hF (by decide) hσ))
  have hfun : gm_Wp X LX 26 5 470 123 0 (gm_ent 123 [gm_vr 1]) [] 245 (bs_K la K) (bs_R 100003 0) (bs_M la M) (hQ [(0, 1)] (LQ (bs_K la K) (bs_R 100003 0) (fe (bs_M la M) t f) (ap_law f t lw A) N im f)) :=
    gm_Wp_nM (c := 2) (len := 400) (M' := fe (bs_M la M) t f) k2 (fun k j hk => fe_ne h11 hk) (fun j hj => fe_2.trans (hV.2.2.2.2.2 (j : Int) (by omega) (by omega)).symm) (ca_law (d := 26) (bc := 5) (bs := 470) (by decide) (by decide) (by decide) (fx_tape hF h11 hV.2.2.2.2.2) (funext fun j => fe_2) hR.1.1 (clv_tape hV (fun _ _ _ => rfl)))
  refine hl_122 (k1_e hE) (gm_Wp_mx hfun hrow (fun o n1 K1 R1 M1 o2 n2 K2 R2 M2 q1 q2 ho hdt => ?_))
  obtain ⟨hn9, q1⟩ := q1
  obtain ⟨hF2, hfr, -⟩ := q2
  have hW := lqw_c
  have hK2 : ∀ k, k ≤ 245 → K2 k = bs_K la K k := fun k hk => hfr.2.1 k hk
  have hrf : ∀ k j, rK k j → M2 k j = M k j := fun k j hk => by
    have hk := rk_le hk
    rw [hfr.2.2.1 k j (show k ≤ 245 by omega) (fun w hw hh => by have := of_decide_eq_true (List.all_eq_true.mp hW w hw); omega)]
    exact vM (by omega)
  rcases q1 with ⟨v, rfl, q1⟩ | ⟨i, hi, rfl, q1⟩
  · refine ⟨fun k h1 hk => (q1.2.2.2.2.1 k hk).trans (hK2 k hk).symm, hn9, Or.inl ⟨v, rfl, ?_⟩⟩
    rw [← mx_u]
    have hv := ck_w_ir v
    exact lw_key hb hg hR hbc hbs k q1 (gm_Fx_M hF2 (show gm_tyw p2_O 245 0 0 (-2147483648) 2147483647 = true by decide +kernel) (Int.le_refl 0) (Int.le_refl 0) hv.1 (show gm_w v ≤ 2147483647 by have := hv.2; omega)) hK2 (fun k j hk => (uM_ne (by have := rk_le hk; omega)).trans (hrf k j hk)) (dt_u hdt)
  · exact ⟨fun k h1 hk => (q1.2.2.2.2.1 k hk).trans (hK2 k hk).symm, hn9, Or.inr ⟨i, hi, rfl, lw_key hb hg hR hbc hbs k q1 hF2 hK2 hrf hdt⟩⟩
theorem lw_ck : [lw_S].all w_m = true ∧ bc_cov 60 [] ([lw_S].map bc_box) = true := by decide +kernel
theorem om_law (hb : bg g la K R M) (hg : g < 10000) (hR : MID la K M N (ap_law f t lw A).2.2.1 (ap_law f t lw A).2.2.2.1 im 0 (ap_law f t lw A).2.2.2.2 f N lw A im t w f) (h : gm_at 370 pc = some (.invokevirtual ix)) (hc : gm_cal (gm_ow 370) ix = some (0, 283)) (hst : (st.map gm_cat).sum ≤ 8) (hbc : 6 ≤ bc) (hbs : 600 ≤ bs) (k : mm_K X LX bc bs (pc + 3) L st Q g M (PV (ap_law f t lw A).1 (ap_law f t lw A).2.1) (some (ap_law f t lw A).1) (fun la2 K2 M2 => REL la2 K2 M2 N (ap_law f t lw A).2.2.1 (ap_law f t lw A).2.2.2.1 im 0 (ap_law f t lw A).2.2.2.2 f)) : gm_Wp X LX 280 bc bs 370 pc L (gm_vr 226 :: st) (245 + 4 * g) K R M Q := by
  refine mw_m (xs := []) (mj := 283) (l := [lw_S]) (ds := []) (P := PV (ap_law f t lw A).1 (ap_law f t lw A).2.1) (oc := some (ap_law f t lw A).1) hb hg hR h hc (by decide +kernel) (by decide +kernel) (show 0 = gm_na 283 by decide +kernel) (show 0 + 1 ≤ gm_ml 283 by decide +kernel) hst (ck_S1 lw_S_s ck_S0) lw_ck.1 lw_ck.2 trivial (fun _ h => nomatch h) hbc hbs pv_u ?_ k
  have hE : E0 245 (bs_K la K) (bs_R 100003 0) := e0_w hb (Or.inr (Or.inl ⟨rfl, rfl⟩))
  have hV := rfv_w (la := la) hR.2.2.2.2
  have k231 := (hE.1 231 (1, 400) (by decide +kernel)).2
  refine gm_Wp_nM (c := 231) (len := 400) (M' := fun k j => if k = 231 then f j else bs_M la M k j) k231 (fun k j hk => if_neg hk) (fun j hj => (if_pos rfl).trans (hV.2.2.2.2 (j : Int) (by omega) (by omega)).symm) ?_
  exact gm_Wp_mono (fun o n1 K1 R1 M1 hq => rd_rv ic_law hq) (rr_law (by decide) hE (vf_ra hR.2.1) (funext fun j => if_pos rfl) (rf_exact hV))
end LW20
