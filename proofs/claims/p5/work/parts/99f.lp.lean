/-! THE LAW'S LOOP (laid by wip/am/gen99f.py). -/
section LPF
variable {X : Int → Int} {LX g bc bs : Nat} {i : Int} {la : Nat → Nat} {K : gm_K} {R : gm_R} {M : gm_M} {Q : gm_Q} {L : gm_L}
def fa (X : Int → Int) (i : Int) : Int → Int := fun z => if z = 0 then X (i + 1) else if z = 1 then X (i + 2) else if z = 2 then X (i + 3) else if z = 3 then X (i + 4) else X (i + 5)
/-- what feed's TAPE is: how long, the bytes -/
def fp (a : Int → Int) (t : Int) (f : Int → Int) (t2 : Int) (f2 : Int → Int) : Prop := (381 ≤ t ∧ t2 = t ∧ f2 = f) ∨ (t ≤ 380 ∧ t2 = t + 20 ∧ f2 = fdc a t 20 f)
theorem fp_ir {a f f2 : Int → Int} {t t2 : Int} (h : fp a t f t2 f2) (hf : ∀ j, 0 ≤ j → j < 400 → -128 ≤ f j ∧ f j ≤ 127) : ∀ j, 0 ≤ j → j < 400 → gm_ir (f2 j) := by
  intro j j1 j2
  rcases h with ⟨-, -, rfl⟩ | ⟨-, -, rfl⟩
  · have := hf j j1 j2
    exact ⟨by omega, by omega⟩
  · unfold fdc
    split
    · have := fb_ir (x := a ((j - t) / 4)) (r := (j - t) % 4)
      exact ⟨by omega, by omega⟩
    · have := hf j j1 j2
      exact ⟨by omega, by omega⟩
theorem fp_eq {a f f2 g g2 : Int → Int} {t t2 t3 : Int} (h : fp a t f t2 f2) (h2 : fp a t g t3 g2) (hf : ∀ j, 0 ≤ j → j < 400 → f j = g j) : t2 = t3 ∧ ∀ j, 0 ≤ j → j < 400 → f2 j = g2 j := by
  rcases h with ⟨h1, rfl, rfl⟩ | ⟨h1, rfl, rfl⟩
  · rcases h2 with ⟨h3, rfl, rfl⟩ | ⟨h3, rfl, rfl⟩
    · exact ⟨rfl, hf⟩
    · omega
  · rcases h2 with ⟨h3, rfl, rfl⟩ | ⟨h3, rfl, rfl⟩
    · omega
    · refine ⟨rfl, fun j j1 j2 => ?_⟩
      unfold fdc
      rw [hf j j1 j2]
def fQ (K0 : gm_K) (k1 : Nat) (j1 : Int) (k2 : Nat) (a : Int → Int) (M0 : gm_M) : gm_Q := fun _ _ K2 _ M2 => K2 = K0 ∧ fp a (M0 k1 j1) (M0 k2) (M2 k1 j1) (M2 k2)
theorem fe_id {M : gm_M} : fe M (M 1 1) (M 2) = M := by
  funext b j
  unfold fe
  by_cases h1 : b = 1
  · subst h1
    by_cases h2 : j = 1
    · subst h2; rfl
    · rw [if_neg (fun h => h2 h.2), if_neg (by decide)]
  · rw [if_neg (fun h => h1 h.1)]
    by_cases h2 : b = 2
    · subst h2; rfl
    · rw [if_neg h2]
/-- what a call of feed leaves, by both judgements -/
theorem fd_get {g1 k1 ci jf k2 : Nat} {a : Int → Int} {K' Ka : gm_K} {M0 M' Ma : gm_M} (hq : K' = K' ∧ fp a (M0 k1 (jf : Int)) (M0 k2) (Ma k1 (jf : Int)) (Ma k2)) (hdm : dt_m (245 + 4 * g1) K' M' Ka Ma) (e1 : K' k1 = Ka k1) (e2 : K' k2 = Ka k2) (h1 : 1 ≤ k1 ∧ k1 ≤ 245) (h2 : 1 ≤ k2 ∧ k2 ≤ 245) (q1 : (K' k1).1 = ci + 4) (qj : jf < gm_nf ci) (qr : ¬ gm_isr ci jf = true) (q2 : K' k2 = (1, 400)) (t0 : 0 ≤ M0 k1 (jf : Int) ∧ M0 k1 (jf : Int) ≤ 400) (b0 : ∀ j, 0 ≤ j → j < 400 → -128 ≤ M0 k2 j ∧ M0 k2 j ≤ 127) (i1 : gm_ir (M' k1 (jf : Int))) (i2 : ∀ j, 0 ≤ j → j < 400 → gm_ir (M' k2 j)) : ∃ f2, fp a (M0 k1 (jf : Int)) (M0 k2) (M' k1 (jf : Int)) f2 ∧ ∀ j, 0 ≤ j → j < 400 → M' k2 j = f2 j := by
  obtain ⟨-, hq⟩ := hq
  have a1 : M' k1 (jf : Int) = Ma k1 (jf : Int) := dt_f hdm h1.1 (by omega) e1 q1 qj qr i1 (by rcases hq with ⟨h, h3, -⟩ | ⟨h, h3, -⟩ <;> rw [h3] <;> exact ⟨by omega, by omega⟩)
  rw [a1]
  exact ⟨_, hq, fun j j1 j2 => dt_a hdm h2.1 (by omega) e2 (Or.inr q2) j1 j2 (i2 j j1 j2) (fp_ir hq b0 j j1 j2)⟩
/-- feed -/
theorem mc_0 (hb : bg g la K R M) (hg : g < 9990) (hM : rl M) (hL : mn_L i L) (hi : 0 ≤ i ∧ i + 6 ≤ (LX : Int)) (hLX : LX ≤ 3072) (hX : ∀ j, gm_ir (X j)) (hbc : 12 ≤ bc) (hbs : 1200 ≤ bs) (rest : mn_R X LX bc bs i g Q) : gm_Wp X LX 280 bc bs 370 244 L [] (245 + 4 * g) K R M Q := by
  obtain ⟨hM, hMb⟩ := hM
  have by2 : ∀ j, 0 ≤ j → j < 400 → -128 ≤ M 2 j ∧ M 2 j ≤ 127 := fun j j1 j2 => ((gm_tyr_s hb.2.1 (show gm_tyr p2_O 2 0 399 = some (-128, 127) by decide +kernel)).2 j j1 (by omega)).2
  have tt := mn_t1 hb
  have cont : ∀ (g1 : Nat) (la1 : Nat → Nat) (K1 : gm_K) (R1 : gm_R) (M1 : gm_M) (y : Int), bg g1 la1 K1 R1 M1 → g1 ≤ g + 1 → M1 226 8 = M 226 8 → (∀ j, 0 ≤ j → j < 400 → M1 231 j = M 231 j) → (∃ f2, fp (fa X i) (M 1 1) (M 2) (M1 1 1) f2 ∧ ∀ j, 0 ≤ j → j < 400 → M1 2 j = f2 j) → gm_Wp X LX 280 (bc - 6) (bs - 600) 370 278 L [gm_vi y] (245 + 4 * g1) K1 R1 M1 Q := by
    intro g1 la1 K1 R1 M1 y hb1 hg1 h8 h231 hf
    obtain ⟨f2, hf, hf2⟩ := hf
    have tt1 := mn_t1 hb1
    have k226 : K1 226 = (15, 0) := (hb1.2.1.1 226 (15, 0) (by decide +kernel)).2.2
    have k231 : K1 231 = (1, 400) := (hb1.2.1.1 231 (1, 400) (by decide +kernel)).2.2
    have by1 : ∀ j, 0 ≤ j → j < 400 → -128 ≤ M1 231 j ∧ M1 231 j ≤ 127 := fun j j1 j2 => ((gm_tyr_s hb1.2.1 (show gm_tyr p2_O 231 0 399 = some (-128, 127) by decide +kernel)).2 j j1 (by omega)).2
    have F1 := bs_F0 (z := 100003) hb1
    have e9 : ∀ c j, c ≤ 245 → bs_M la1 M1 c j = M1 c j := fun c j hc => by unfold bs_M bg_rho; rw [if_pos (by omega)]
    have e9k : ∀ c, c ≤ 245 → bs_K la1 K1 c = K1 c := fun c hc => by unfold bs_K bg_rho; rw [if_pos (by omega)]
    refine gm_sz (gm_p_pop (pc := 278) (by decide +kernel) (by simp [gm_sort])) ?_
    refine gm_sz (gm_p_load (pc := 279) (i := .aload_n 2) (sr := 2) (j := 2) (by decide +kernel) rfl hL.2.2.2.1 rfl) ?_
    refine mn_arg (pc := 280) (j := 1) (by decide +kernel) (by decide +kernel) (by decide +kernel) (by decide +kernel) (by decide +kernel) hL hi (by decide) hLX ?_
    refine mn_arg (pc := 286) (j := 2) (by decide +kernel) (by decide +kernel) (by decide +kernel) (by decide +kernel) (by decide +kernel) hL hi (by decide) hLX ?_
    refine mn_arg (pc := 292) (j := 3) (by decide +kernel) (by decide +kernel) (by decide +kernel) (by decide +kernel) (by decide +kernel) hL hi (by decide) hLX ?_
    refine mn_arg (pc := 298) (j := 4) (by decide +kernel) (by decide +kernel) (by decide +kernel) (by decide +kernel) (by decide +kernel) hL hi (by decide) hLX ?_
    refine mn_arg (pc := 304) (j := 5) (by decide +kernel) (by decide +kernel) (by decide +kernel) (by decide +kernel) (by decide +kernel) hL hi (by decide) hLX ?_
    have hfun : gm_Wp X LX 6 0 0 239 0 (gm_ent 239 (gm_vr 226 :: [X (i + 1), X (i + 2), X (i + 3), X (i + 4), X (i + 5)].map gm_vi)) [] (245 + 4 * 0) (bs_K la1 K1) (bs_R 100003 0) (bs_M la1 M1) (fQ (bs_K la1 K1) 226 8 231 (fa X i) (bs_M la1 M1)) := by
      have e8 : (0 : Int) ≤ bs_M la1 M1 226 8 ∧ bs_M la1 M1 226 8 ≤ 400 := by rw [e9 226 8 (by decide)]; exact tt1.2
      refine fd_c239 (a := fa X i) (M := bs_M la1 M1) ⟨⟨by decide, by decide⟩, by rw [e9k 226 (by decide), k226]⟩ ⟨⟨by decide, by decide⟩, by rw [e9k 231 (by decide)]; exact k231⟩ ⟨⟨by decide, by decide⟩, by rw [e9k 232 (by decide)]; exact (hb1.2.1.1 232 (0, 5) (by decide +kernel)).2.2⟩ (F1.2.1 226 7 231 (by decide +kernel)).2 (F1.2.1 226 14 232 (by decide +kernel)).2 e8 (fun h => ⟨rfl, Or.inl ⟨h, by rfl, by rfl⟩⟩) (fun V h => ⟨rfl, Or.inr ⟨h, by rfl, by rfl⟩⟩)
    refine bc_virtA (O := p2_O) (z := 100003) (g1 := 0) (S := p2_s6) (Qf := fQ (bs_K la1 K1) 226 8 231 (fa X i) (bs_M la1 M1)) (k1 := 226) (ci := 11) (mj := 239) (ix := 143) (pc := 310) (d' := 6) (bc' := 0) (bs' := 0) (xs := [X (i + 1), X (i + 2), X (i + 3), X (i + 4), X (i + 5)]) (st := []) hb1 (Or.inr (Or.inl ⟨rfl, rfl⟩)) (by omega) p2_nmu (fun _ _ _ _ h => h) F1 ⟨by decide, by decide⟩ (md_mo hb1.2.1).2 (by decide +kernel) (by decide +kernel) (by decide +kernel) (by decide) (by decide +kernel) (show 5 = gm_na 239 by decide +kernel) (show 5 + 1 ≤ gm_ml 239 by decide +kernel) (Nat.le_of_ble_eq_true rfl) p2_s6_s (by decide +kernel) (by decide +kernel) (by decide +kernel) (by decide +kernel) (by decide) (Nat.zero_le _) (Nat.zero_le _) (fun σ => by have := bc_gas2 (σ := σ) (S := p2_s6) (k1 := 226) (t := false) (xs := [X (i + 1), X (i + 2), X (i + 3), X (i + 4), X (i + 5)]) (by decide +kernel) (bc_in1 (mn_w (hX _)) (bc_in1 (mn_w (hX _)) (bc_in1 (mn_w (hX _)) (bc_in1 (mn_w (hX _)) (bc_in1 (mn_w (hX _)) bc_in0))))) (List.forall_mem_cons.mpr ⟨hX _, (List.forall_mem_cons.mpr ⟨hX _, (List.forall_mem_cons.mpr ⟨hX _, (List.forall_mem_cons.mpr ⟨hX _, (List.forall_mem_cons.mpr ⟨hX _, (fun _ h => nomatch h)⟩)⟩)⟩)⟩)⟩); rwa [show bc_as [X (i + 1), X (i + 2), X (i + 3), X (i + 4), X (i + 5)] false = [X (i + 1), X (i + 2), X (i + 3), X (i + 4), X (i + 5)].map gm_vi by simp [bc_as]] at this) hfun ?_
    intro oc hoc σ u n' K' R' M' hσ ho hfa hF' hfr o2 n2 Ka Ra Ma hqf hdo hdm g2 la2 K2 R2 M2 hb2 hg2 hM2
    have kk : ∀ c, c ≤ 245 → K' c = K1 c := fun c hc => (hfr.2.1 c (by omega)).trans (e9k c hc)
    obtain ⟨rfl, hqf⟩ := hqf
    have hF9 := hF'
    obtain ⟨f3, hf3, hf4⟩ := fd_get (k1 := 226) (jf := 8) (k2 := 231) (ci := 11) (M' := M') (K' := K') ⟨rfl, hqf⟩ hdm ((kk 226 (by decide)).trans (e9k 226 (by decide)).symm) ((kk 231 (by decide)).trans (e9k 231 (by decide)).symm) ⟨by decide, by decide⟩ ⟨by decide, by decide⟩ (by rw [kk 226 (by decide), k226]) (by decide +kernel) (by decide +kernel) (by rw [kk 231 (by decide)]; exact k231) (by show 0 ≤ bs_M la1 M1 226 8 ∧ _; rw [e9 226 8 (by decide)]; exact tt1.2) (fun j j1 j2 => by rw [e9 231 j (by decide)]; exact by1 j j1 j2) ((gm_tyr_s hF9 (show gm_tyr p2_O 226 8 8 = some (0, 400) by decide +kernel)).2 8 (Int.le_refl _) (Int.le_refl _)).1 (fun j j1 j2 => ((gm_tyr_s hF9 (show gm_tyr p2_O 231 0 399 = some (-128, 127) by decide +kernel)).2 j j1 (by omega)).1)
    have hf3 : fp (fa X i) (bs_M la1 M1 226 8) (bs_M la1 M1 231) (M' 226 8) f3 := hf3
    rw [e9 226 8 (by decide), show bs_M la1 M1 231 = M1 231 from funext fun j => e9 231 j (by decide), h8, ← hM] at hf3
    obtain ⟨x1, x2⟩ := fp_eq hf hf3 (fun j j1 j2 => (hMb j j1 j2).trans (h231 j j1 j2).symm)
    have m1 : M2 1 1 = M1 1 1 := by rw [hM2 1 1 (by decide), bc_keep_s (S := p2_s6) (by decide +kernel) (by decide) hfr, e9 1 1 (by decide)]
    have m2 : ∀ j, M2 2 j = M1 2 j := fun j => by
      rw [hM2 2 j (by decide), hfr.2.2.1 2 j (by decide) (fun w hw hh => by
        have := List.all_eq_true.mp (show p2_s6.2.2.2.2.1.1.all (fun w => decide (¬ w.1 = 2)) = true by decide +kernel) w hw
        exact absurd hh.1 (of_decide_eq_true this)), e9 2 j (by decide)]
    obtain ⟨y2, rfl⟩ : ∃ y2, u = some (gm_vi y2) := by
      have := List.all_eq_true.mp (show p2_s6.2.2.2.2.2.all (fun oc => match oc.1 with | .inr (some (.inl _)) => true | _ => false) = true by decide +kernel) oc hoc
      generalize oc.1 = o9 at this ho
      rcases o9 with x9 | _ | (I | I)
      · cases this
      · cases this
      · cases u with
        | none => exact absurd ho id
        | some v => obtain ⟨y, rfl, -⟩ := ho; exact ⟨y, rfl⟩
      · cases this
    show gm_Wp X LX 280 _ _ 370 313 L [gm_vi y2] (245 + 4 * g2) K2 R2 M2 Q
    refine gm_sz (gm_p_pop (pc := 313) (by decide +kernel) (by simp [gm_sort])) ?_
    refine gm_sz (gm_p_goto (pc := 314) (off := 1679) (by decide +kernel) (by decide)) ?_
    exact gm_Wp_wk (Nat.le_refl _) (by omega) (by omega) (rest g2 la2 K2 R2 M2 L hb2 (by omega) ⟨by rw [m1, hM2 226 8 (by decide)]; exact x1, fun j j1 j2 => by rw [m2 j, hf2 j j1 j2, hM2 231 j (by decide), hf4 j j1 j2]; exact x2 j j1 j2⟩ hL)
  refine gm_sz (gm_p_load (pc := 244) (i := .aload_n 1) (sr := 2) (j := 1) (by decide +kernel) rfl hL.2.2.1 rfl) ?_
  refine mn_arg (pc := 245) (j := 1) (by decide +kernel) (by decide +kernel) (by decide +kernel) (by decide +kernel) (by decide +kernel) hL hi (by decide) hLX ?_
  refine mn_arg (pc := 251) (j := 2) (by decide +kernel) (by decide +kernel) (by decide +kernel) (by decide +kernel) (by decide +kernel) hL hi (by decide) hLX ?_
  refine mn_arg (pc := 257) (j := 3) (by decide +kernel) (by decide +kernel) (by decide +kernel) (by decide +kernel) (by decide +kernel) hL hi (by decide) hLX ?_
  refine mn_arg (pc := 263) (j := 4) (by decide +kernel) (by decide +kernel) (by decide +kernel) (by decide +kernel) (by decide +kernel) hL hi (by decide) hLX ?_
  refine mn_arg (pc := 269) (j := 5) (by decide +kernel) (by decide +kernel) (by decide +kernel) (by decide +kernel) (by decide +kernel) hL hi (by decide) hLX ?_
  have e9 : ∀ c j, c ≤ 245 → bs_M la M c j = M c j := fun c j hc => by unfold bs_M bg_rho; rw [if_pos (by omega)]
  have e9k : ∀ c, c ≤ 245 → bs_K la K c = K c := fun c hc => by unfold bs_K bg_rho; rw [if_pos (by omega)]
  have k1 : K 1 = (4, 0) := (hb.2.1.1 1 (4, 0) (by decide +kernel)).2.2
  have k2 : K 2 = (1, 400) := (hb.2.1.1 2 (1, 400) (by decide +kernel)).2.2
  by_cases h3 : la 3 = 0
  · have F1 := bs_F0 (z := 0) hb
    have hfun : gm_Wp X LX 6 0 0 19 0 (gm_ent 19 (gm_vr 1 :: [X (i + 1), X (i + 2), X (i + 3), X (i + 4), X (i + 5)].map gm_vi)) [] (245 + 4 * 0) (bs_K la K) (bs_R 0 0) (bs_M la M) (fQ (bs_K la K) 1 1 2 (fa X i) (bs_M la M)) := by
      have e8 : (0 : Int) ≤ bs_M la M 1 1 ∧ bs_M la M 1 1 ≤ 400 := by rw [e9 1 1 (by decide)]; exact tt.1
      have q := fd_c19 (X := X) (LX := LX) (d := 6) (bc := 0) (bs := 0) (n := 245 + 4 * 0) (K := bs_K la K) (R := bs_R 0 0) (Q := fQ (bs_K la K) 1 1 2 (fa X i) (bs_M la M)) (a := fa X i) (M := bs_M la M) (t := bs_M la M 1 1) (f := bs_M la M 2) (by decide) ⟨⟨by decide, by decide⟩, by rw [e9k 1 (by decide), k1]⟩ ⟨⟨by decide, by decide⟩, by rw [e9k 2 (by decide)]; exact k2⟩ (F1.2.1 1 0 2 (by decide +kernel)).2 e8 (fun h => ⟨rfl, Or.inl ⟨h, by rfl, by rfl⟩⟩) (fun h => ⟨rfl, Or.inr ⟨h, by rfl, by rfl⟩⟩)
      rw [fe_id] at q
      exact q
    refine bc_virtA (O := p2_O) (z := 0) (g1 := 0) (S := p2_s5) (Qf := fQ (bs_K la K) 1 1 2 (fa X i) (bs_M la M)) (k1 := 1) (ci := 0) (mj := 19) (ix := 139) (pc := 275) (d' := 6) (bc' := 0) (bs' := 0) (xs := [X (i + 1), X (i + 2), X (i + 3), X (i + 4), X (i + 5)]) (st := []) hb (Or.inl ⟨rfl, rfl, h3⟩) (by omega) p2_nmu (fun _ _ _ _ h => h) F1 ⟨by decide, by decide⟩ (lq_kd (c := 0) hb.2.1 lq_or.1.1).2 (by decide +kernel) (by decide +kernel) (by decide +kernel) (by decide) (by decide +kernel) (show 5 = gm_na 19 by decide +kernel) (show 5 + 1 ≤ gm_ml 19 by decide +kernel) (Nat.le_of_ble_eq_true rfl) p2_s5_s (by decide +kernel) (by decide +kernel) (by decide +kernel) (by decide +kernel) (by decide) (Nat.zero_le _) (Nat.zero_le _) (fun σ => by have := bc_gas2 (σ := σ) (S := p2_s5) (k1 := 1) (t := false) (xs := [X (i + 1), X (i + 2), X (i + 3), X (i + 4), X (i + 5)]) (by decide +kernel) (bc_in1 (mn_w (hX _)) (bc_in1 (mn_w (hX _)) (bc_in1 (mn_w (hX _)) (bc_in1 (mn_w (hX _)) (bc_in1 (mn_w (hX _)) bc_in0))))) (List.forall_mem_cons.mpr ⟨hX _, (List.forall_mem_cons.mpr ⟨hX _, (List.forall_mem_cons.mpr ⟨hX _, (List.forall_mem_cons.mpr ⟨hX _, (List.forall_mem_cons.mpr ⟨hX _, (fun _ h => nomatch h)⟩)⟩)⟩)⟩)⟩); rwa [show bc_as [X (i + 1), X (i + 2), X (i + 3), X (i + 4), X (i + 5)] false = [X (i + 1), X (i + 2), X (i + 3), X (i + 4), X (i + 5)].map gm_vi by simp [bc_as]] at this) hfun ?_
    intro oc hoc σ u n' K' R' M' hσ ho hfa hF' hfr o2 n2 Ka Ra Ma hqf hdo hdm g2 la2 K2 R2 M2 hb2 hg2 hM2
    have kk : ∀ c, c ≤ 245 → K' c = K c := fun c hc => (hfr.2.1 c (by omega)).trans (e9k c hc)
    obtain ⟨rfl, hqf⟩ := hqf
    have hF9 := hF'
    obtain ⟨f3, hf3, hf4⟩ := fd_get (k1 := 1) (jf := 1) (k2 := 2) (ci := 0) (M' := M') (K' := K') ⟨rfl, hqf⟩ hdm ((kk 1 (by decide)).trans (e9k 1 (by decide)).symm) ((kk 2 (by decide)).trans (e9k 2 (by decide)).symm) ⟨by decide, by decide⟩ ⟨by decide, by decide⟩ (by rw [kk 1 (by decide), k1]) (by decide +kernel) (by decide +kernel) (by rw [kk 2 (by decide)]; exact k2) (by show 0 ≤ bs_M la M 1 1 ∧ _; rw [e9 1 1 (by decide)]; exact tt.1) (fun j j1 j2 => by rw [e9 2 j (by decide)]; exact by2 j j1 j2) ((gm_tyr_s hF9 (show gm_tyr p2_O 1 1 1 = some (0, 400) by decide +kernel)).2 1 (Int.le_refl _) (Int.le_refl _)).1 (fun j j1 j2 => ((gm_tyr_s hF9 (show gm_tyr p2_O 2 0 399 = some (-128, 127) by decide +kernel)).2 j j1 (by omega)).1)
    have hf3 : fp (fa X i) (bs_M la M 1 1) (bs_M la M 2) (M' 1 1) f3 := hf3
    rw [e9 1 1 (by decide), show bs_M la M 2 = M 2 from funext fun j => e9 2 j (by decide)] at hf3
    obtain ⟨y, rfl⟩ : ∃ y, u = some (gm_vi y) := by
      have := List.all_eq_true.mp (show p2_s5.2.2.2.2.2.all (fun oc => match oc.1 with | .inr (some (.inl _)) => true | _ => false) = true by decide +kernel) oc hoc
      generalize oc.1 = o9 at this ho
      rcases o9 with x9 | _ | (I | I)
      · cases this
      · cases this
      · cases u with
        | none => exact absurd ho id
        | some v => obtain ⟨y, rfl, -⟩ := ho; exact ⟨y, rfl⟩
      · cases this
    refine gm_Wp_wk (d' := 280) (bc' := bc - 6) (bs' := bs - 600) (Nat.le_refl _) (by omega) (by omega) (cont g2 la2 K2 R2 M2 y hb2 hg2 ?_ (fun j j1 j2 => ?_) ⟨f3, by rw [hM2 1 1 (by decide)]; exact hf3, fun j j1 j2 => by rw [hM2 2 j (by decide)]; exact hf4 j j1 j2⟩)
    · rw [hM2 226 8 (by decide), bc_keep_s (S := p2_s5) (by decide +kernel) (by decide) hfr, e9 226 8 (by decide)]
    · rw [hM2 231 j (by decide), hfr.2.2.1 231 j (by decide) (fun w hw hh => by
        have := List.all_eq_true.mp (show p2_s5.2.2.2.2.1.1.all (fun w => decide (¬ w.1 = 231)) = true by decide +kernel) w hw
        exact absurd hh.1 (of_decide_eq_true this)), e9 231 j (by decide)]
  · have F1 := bs_F1 hb h3
    have hfun : gm_Wp X LX 6 0 0 19 0 (gm_ent 19 (gm_vr 1 :: [X (i + 1), X (i + 2), X (i + 3), X (i + 4), X (i + 5)].map gm_vi)) [] (245 + 4 * 1) (bs_K la K) (bs_R 246 1) (bs_M la M) (fQ (bs_K la K) 1 1 2 (fa X i) (bs_M la M)) := by
      have e8 : (0 : Int) ≤ bs_M la M 1 1 ∧ bs_M la M 1 1 ≤ 400 := by rw [e9 1 1 (by decide)]; exact tt.1
      have q := fd_c19 (X := X) (LX := LX) (d := 6) (bc := 0) (bs := 0) (n := 245 + 4 * 1) (K := bs_K la K) (R := bs_R 246 1) (Q := fQ (bs_K la K) 1 1 2 (fa X i) (bs_M la M)) (a := fa X i) (M := bs_M la M) (t := bs_M la M 1 1) (f := bs_M la M 2) (by decide) ⟨⟨by decide, by decide⟩, by rw [e9k 1 (by decide), k1]⟩ ⟨⟨by decide, by decide⟩, by rw [e9k 2 (by decide)]; exact k2⟩ (F1.2.1 1 0 2 (by decide +kernel)).2 e8 (fun h => ⟨rfl, Or.inl ⟨h, by rfl, by rfl⟩⟩) (fun h => ⟨rfl, Or.inr ⟨h, by rfl, by rfl⟩⟩)
      rw [fe_id] at q
      exact q
    refine bc_virtA (O := p2_OL) (z := 246) (g1 := 1) (S := pl_s5) (Qf := fQ (bs_K la K) 1 1 2 (fa X i) (bs_M la M)) (k1 := 1) (ci := 0) (mj := 19) (ix := 139) (pc := 275) (d' := 6) (bc' := 0) (bs' := 0) (xs := [X (i + 1), X (i + 2), X (i + 3), X (i + 4), X (i + 5)]) (st := []) hb (Or.inr (Or.inr ⟨rfl, rfl, h3⟩)) (by omega) pl_nmu (fun _ _ _ _ h => pl_o h) F1 ⟨by decide, by decide⟩ (lq_kd (c := 0) hb.2.1 lq_or.1.1).2 (by decide +kernel) (by decide +kernel) (by decide +kernel) (by decide) (by decide +kernel) (show 5 = gm_na 19 by decide +kernel) (show 5 + 1 ≤ gm_ml 19 by decide +kernel) (Nat.le_of_ble_eq_true rfl) pl_s5_s (by decide +kernel) (by decide +kernel) (by decide +kernel) (by decide +kernel) (by decide) (Nat.zero_le _) (Nat.zero_le _) (fun σ => by have := bc_gas2 (σ := σ) (S := pl_s5) (k1 := 1) (t := false) (xs := [X (i + 1), X (i + 2), X (i + 3), X (i + 4), X (i + 5)]) (by decide +kernel) (bc_in1 (mn_w (hX _)) (bc_in1 (mn_w (hX _)) (bc_in1 (mn_w (hX _)) (bc_in1 (mn_w (hX _)) (bc_in1 (mn_w (hX _)) bc_in0))))) (List.forall_mem_cons.mpr ⟨hX _, (List.forall_mem_cons.mpr ⟨hX _, (List.forall_mem_cons.mpr ⟨hX _, (List.forall_mem_cons.mpr ⟨hX _, (List.forall_mem_cons.mpr ⟨hX _, (fun _ h => nomatch h)⟩)⟩)⟩)⟩)⟩); rwa [show bc_as [X (i + 1), X (i + 2), X (i + 3), X (i + 4), X (i + 5)] false = [X (i + 1), X (i + 2), X (i + 3), X (i + 4), X (i + 5)].map gm_vi by simp [bc_as]] at this) hfun ?_
    intro oc hoc σ u n' K' R' M' hσ ho hfa hF' hfr o2 n2 Ka Ra Ma hqf hdo hdm g2 la2 K2 R2 M2 hb2 hg2 hM2
    have kk : ∀ c, c ≤ 245 → K' c = K c := fun c hc => (hfr.2.1 c (by omega)).trans (e9k c hc)
    obtain ⟨rfl, hqf⟩ := hqf
    have hF9 := pl_o hF'
    obtain ⟨f3, hf3, hf4⟩ := fd_get (k1 := 1) (jf := 1) (k2 := 2) (ci := 0) (M' := M') (K' := K') ⟨rfl, hqf⟩ hdm ((kk 1 (by decide)).trans (e9k 1 (by decide)).symm) ((kk 2 (by decide)).trans (e9k 2 (by decide)).symm) ⟨by decide, by decide⟩ ⟨by decide, by decide⟩ (by rw [kk 1 (by decide), k1]) (by decide +kernel) (by decide +kernel) (by rw [kk 2 (by decide)]; exact k2) (by show 0 ≤ bs_M la M 1 1 ∧ _; rw [e9 1 1 (by decide)]; exact tt.1) (fun j j1 j2 => by rw [e9 2 j (by decide)]; exact by2 j j1 j2) ((gm_tyr_s hF9 (show gm_tyr p2_O 1 1 1 = some (0, 400) by decide +kernel)).2 1 (Int.le_refl _) (Int.le_refl _)).1 (fun j j1 j2 => ((gm_tyr_s hF9 (show gm_tyr p2_O 2 0 399 = some (-128, 127) by decide +kernel)).2 j j1 (by omega)).1)
    have hf3 : fp (fa X i) (bs_M la M 1 1) (bs_M la M 2) (M' 1 1) f3 := hf3
    rw [e9 1 1 (by decide), show bs_M la M 2 = M 2 from funext fun j => e9 2 j (by decide)] at hf3
    obtain ⟨y, rfl⟩ : ∃ y, u = some (gm_vi y) := by
      have := List.all_eq_true.mp (show pl_s5.2.2.2.2.2.all (fun oc => match oc.1 with | .inr (some (.inl _)) => true | _ => false) = true by decide +kernel) oc hoc
      generalize oc.1 = o9 at this ho
      rcases o9 with x9 | _ | (I | I)
      · cases this
      · cases this
      · cases u with
        | none => exact absurd ho id
        | some v => obtain ⟨y, rfl, -⟩ := ho; exact ⟨y, rfl⟩
      · cases this
    refine gm_Wp_wk (d' := 280) (bc' := bc - 6) (bs' := bs - 600) (Nat.le_refl _) (by omega) (by omega) (cont g2 la2 K2 R2 M2 y hb2 hg2 ?_ (fun j j1 j2 => ?_) ⟨f3, by rw [hM2 1 1 (by decide)]; exact hf3, fun j j1 j2 => by rw [hM2 2 j (by decide)]; exact hf4 j j1 j2⟩)
    · rw [hM2 226 8 (by decide), bc_keep_s (S := pl_s5) (by decide +kernel) (by decide) hfr, e9 226 8 (by decide)]
    · rw [hM2 231 j (by decide), hfr.2.2.1 231 j (by decide) (fun w hw hh => by
        have := List.all_eq_true.mp (show pl_s5.2.2.2.2.1.1.all (fun w => decide (¬ w.1 = 231)) = true by decide +kernel) w hw
        exact absurd hh.1 (of_decide_eq_true this)), e9 231 j (by decide)]
def l3Q (f : Int → Int) (e : Int) (K0 : gm_K) : gm_Q := fun o n2 K2 _ M2 => 245 ≤ n2 ∧ (∀ c, c ≤ 245 → K2 c = K0 c) ∧ (((g_law f e).1 = true ∧ o = .inl (some (gm_vi 0)) ∧ M2 245 0 = (g_law f e).2) ∨ (¬ (g_law f e).1 = true ∧ o = .inl (some (gm_vi 1))))
def l3R (f : Int → Int) (e : Int) (K0 : gm_K) : gm_Q := fun o _ K2 _ M2 => (∀ c, c ≤ 245 → K2 c = K0 c) ∧ (((g_law f e).1 = true ∧ o = .inl (some (gm_vi (g_law f e).2)) ∧ M2 226 0 = 0) ∨ (¬ (g_law f e).1 = true ∧ o = .inl (some (gm_vi 0)) ∧ M2 226 0 = 1))
theorem l3_kp {σ : Nat → Int} {o : gm_O} {n' : Nat} {K1 K' : gm_K} {R' : gm_R} {M1 M' : gm_M} (hq : ck_Q p2_O σ lqh_S.2.2.2.2.1 245 K1 (bs_R 100003 0) M1 lqh_S.2.2.2.2.2 o n' K' R' M') : (∀ j, M' 2 j = M1 2 j ∧ M' 231 j = M1 231 j) ∧ ∀ c, c ≤ 245 → K' c = K1 c := by
  obtain ⟨-, hfr, -⟩ := hq
  refine ⟨fun j => ⟨hfr.2.2.1 2 j (by decide) (fun w hw hh => ?_), hfr.2.2.1 231 j (by decide) (fun w hw hh => ?_)⟩, fun c hc => hfr.2.1 c hc⟩
  · exact absurd hh.1 (of_decide_eq_true (List.all_eq_true.mp (show lqh_S.2.2.2.2.1.1.all (fun w => decide (¬ w.1 = 2)) = true by decide) w hw))
  · exact absurd hh.1 (of_decide_eq_true (List.all_eq_true.mp (show lqh_S.2.2.2.2.1.1.all (fun w => decide (¬ w.1 = 231)) = true by decide) w hw))
/-- the law: what both answer -/
theorem mc_3 (hb : bg g la K R M) (hg : g < 9990) (hM : rl M) (hL : mn_L i L) (hbc : 12 ≤ bc) (hbs : 1200 ≤ bs) (rest : mn_R X LX bc bs i g Q) : gm_Wp X LX 280 bc bs 370 358 L [] (245 + 4 * g) K R M Q := by
  obtain ⟨hM, hMb⟩ := hM
  refine gm_sz (gm_p_load (pc := 358) (i := .aload_n 1) (sr := 2) (j := 1) (by decide +kernel) rfl hL.2.2.1 rfl) ?_
  refine gm_sz (gm_p_load (pc := 359) (i := .aload_n 3) (sr := 2) (j := 3) (by decide +kernel) rfl hL.2.2.2.2.1 rfl) ?_
  have hz : bs_ok la 100003 0 := Or.inr (Or.inl ⟨rfl, rfl⟩)
  have hF := bs_F0 (z := 100003) hb
  have hσ := ck_sn_s (σ := fun _ => 0) (M := bs_M la M) p2_nmu
  have ha : gm_ar (bg_rho (la 3)) (245 + 4 * 0) [gm_vr 1, gm_vr 245] [gm_vr 1, gm_vr 245] := ⟨_, _, rfl, Or.inr ⟨1, ⟨by decide, by decide⟩, rfl, by rfl⟩, _, _, rfl, Or.inr ⟨245, ⟨by decide, by decide⟩, rfl, by rfl⟩, rfl⟩
  have e9 : ∀ c j, c ≤ 245 → bs_M la M c j = M c j := fun c j hc => by unfold bs_M bg_rho; rw [if_pos (by omega)]
  have e9k : ∀ c, c ≤ 245 → bs_K la K c = K c := fun c hc => by unfold bs_K bg_rho; rw [if_pos (by omega)]
  have k245 : K 245 = (2, 1) := (hb.2.1.1 245 (2, 1) (by decide +kernel)).2.2
  have g2e : bs_M la M 2 = M 2 := funext fun j => e9 2 j (by decide)
  have t1 := mn_t1 hb
  obtain ⟨b0, b1, b2⟩ := g_law_b (f := M 2) (e := M 1 1) t1.1.1
  refine gm_c_statS (mj := 122) (ix := 155) (pc := 360) (as1 := [gm_vr 1, gm_vr 245]) (as := [gm_vr 1, gm_vr 245]) (st := []) (d' := 27) (bc' := 5) (bs' := 470) (fun ti α => bg_sbw hb hz ti α) (fun i j a b c d e => bc_hin hz i j a b c d e) (bs_Rv hz) ha (by decide +kernel) (by decide +kernel) (by decide +kernel) (by decide +kernel) (show 2 = gm_na 122 by decide +kernel) (show 2 ≤ gm_ml 122 by decide +kernel) (Nat.le_of_ble_eq_true rfl) (by decide) (by omega) (by omega) ?_
  refine gm_Wp_mono (fun o n' K' R' M' hq => ?_) (gm_Wp_and (gm_Wp_wk (d' := 26) (by decide) (Nat.le_refl _) (Nat.le_refl _) (lqh_s 26 (ck_sn p2_O (fun _ => 0) (bs_M la M)) [gm_vr 1, gm_vr 245] _ _ _ _ (Nat.le_refl _) rfl ⟨_, _, rfl, rfl, _, _, rfl, rfl, rfl⟩ hσ hF (bc_f_s (show bc_f p2_O 100003 lqh_S.2.2.2.1 = true by decide +kernel) hF (by decide) hσ))) (gm_Wp_wk (d' := 27) (bc' := 4) (bs' := 454) (Nat.le_refl _) (by decide) (by decide) (lv_h122 (Q := l3Q (M 2) (M 1 1) (bs_K la K)) (e := M 1 1) hF (e9 1 1 (by decide)) (fun hg n2 K2 R2 M2 hn hk hv => ⟨hn, hk, Or.inl ⟨by rw [g2e] at hg; exact hg, rfl, by rw [g2e] at hv; exact hv⟩⟩) (fun hg n2 K2 R2 M2 hn hk => ⟨hn, hk, Or.inr ⟨by rw [g2e] at hg; exact hg, rfl⟩⟩))))
  obtain ⟨hq, o2, n2, Ka, Ra, Ma, ⟨hn2, hka, hqf⟩, hdo, hdm⟩ := hq
  obtain ⟨hkb, hkk⟩ := l3_kp hq
  obtain ⟨⟨y, rfl⟩, ⟨c, hrt⟩, h11, h68⟩ := lqh_rt hq
  have o245 : (g_law (M 2) (M 1 1)).1 = true → gm_w y = 0 ∧ gm_w6 (M' 245 0) = (g_law (M 2) (M 1 1)).2 := fun hg => by
    rcases hqf with ⟨-, rfl, hv⟩ | ⟨hg2, -⟩
    · refine ⟨dt_w (y := 0) hdo, ?_⟩
      have a := (hdm 245 (by decide) (by decide) ((hkk 245 (by decide)).trans (hka 245 (by decide)).symm)).2.1 (by rw [hkk 245 (by decide), e9k 245 (by decide), k245]) 0 (by rw [hkk 245 (by decide), e9k 245 (by decide), k245]; decide)
      have a2 : gm_w6 (M' 245 0) = gm_w6 (Ma 245 0) := dt_w6 a
      rw [a2, hv]
      have := b1 hg
      unfold gm_w6
      omega
    · exact absurd hg hg2
  have o245b : ¬ (g_law (M 2) (M 1 1)).1 = true → gm_w y = 1 := fun hg => by
    rcases hqf with ⟨hg2, -⟩ | ⟨-, rfl⟩
    · exact absurd hg2 hg
    · exact dt_w (y := 1) hdo
  refine bg_owe hb hz (by omega) hrt (Or.inr ⟨y, rfl⟩) (fun g1 la1 K1 R1 M1 hb1 hg1 hM1 => ?_)
  show gm_Wp X LX 280 _ _ 370 363 L [gm_vi y] (245 + 4 * g1) K1 R1 M1 Q
  refine gm_sz (gm_p_stor (pc := 363) (i := .istore 5) (sr := 0) (j := 5) (by decide +kernel) rfl (by show 5 + 0 < L.length; have := hL.1; omega) rfl) ?_
  have hL5 := mn_L_s (y := y) hL (j := 5) (Or.inl rfl)
  have l55 : (gm_lst L 5 (gm_vi y))[5]? = some (some (gm_vi y)) := by
    show ((gm_lc L 5).set 5 (some (gm_vi y)))[5]? = _
    rw [List.getElem?_set, if_pos rfl, if_pos (by rw [gm_lc_len]; have := hL.1; omega)]
  generalize gm_lst L 5 (gm_vi y) = L5 at hL5 l55 ⊢
  refine gm_sz (gm_p_load (pc := 365) (i := .aload_n 2) (sr := 2) (j := 2) (by decide +kernel) rfl hL5.2.2.2.1 rfl) ?_
  have F1 := bs_F0 (z := 100003) hb1
  have f9 : ∀ c j, c ≤ 245 → bs_M la1 M1 c j = M1 c j := fun c j hc => by unfold bs_M bg_rho; rw [if_pos (by omega)]
  have f9k : ∀ c, c ≤ 245 → bs_K la1 K1 c = K1 c := fun c hc => by unfold bs_K bg_rho; rw [if_pos (by omega)]
  have m8 : bs_M la1 M1 226 8 = M 1 1 := by rw [f9 226 8 (by decide), hM1 226 8 (by decide), h68, e9 226 8 (by decide), hM]
  have hfun : gm_Wp X LX 34 0 0 283 0 (gm_ent 283 (gm_vr 226 :: ([] : List Int).map gm_vi)) [] (245 + 4 * 0) (bs_K la1 K1) (bs_R 100003 0) (bs_M la1 M1) (l3R (M 2) (M 1 1) (bs_K la1 K1)) := by
    have k231 : bs_K la1 K1 231 = (1, 400) := by rw [f9k 231 (by decide)]; exact (hb1.2.1.1 231 (1, 400) (by decide +kernel)).2.2
    have ag : ∀ j, 0 ≤ j → j ≤ 399 → M 2 j = bs_M la1 M1 231 j := fun j j1 j2 => by rw [f9 231 j (by decide), hM1 231 j (by decide), (hkb j).2, e9 231 j (by decide)]; exact hMb j j1 (by omega)
    have o1 : ∀ k j, ¬ k = 231 → (fun k j => if k = 231 then M 2 j else bs_M la1 M1 k j : gm_M) k j = bs_M la1 M1 k j := fun k j h => if_neg h
    have o2 : ∀ j, 0 ≤ j → j ≤ 399 → (fun k j => if k = 231 then M 2 j else bs_M la1 M1 k j : gm_M) 231 j = bs_M la1 M1 231 j := fun j j1 j2 => (if_pos rfl).trans (ag j j1 j2)
    have o3 : (fun k j => if k = 231 then M 2 j else bs_M la1 M1 k j : gm_M) 231 = M 2 := funext fun j => if_pos rfl
    refine gm_Wp_nM (c := 231) (len := 400) k231 o1 (fun j hj => o2 j (by omega) (by omega)) ?_
    generalize hG : (fun k j => if k = 231 then M 2 j else bs_M la1 M1 k j : gm_M) = G at o1 o2 o3
    refine lr_law (e := M 1 1) (nM_Fx F1 o1 o2) ((o1 226 8 (by decide)).trans m8) (fun hg K2 R2 M2 hk h0 => ⟨hk, Or.inl ?_⟩) (fun hg K2 R2 M2 hk h0 => ⟨hk, Or.inr ?_⟩)
    · rw [o3] at hg ⊢
      exact ⟨hg, rfl, h0⟩
    · rw [o3] at hg
      exact ⟨hg, rfl, h0⟩
  refine bc_virtA (O := p2_O) (z := 100003) (g1 := 0) (S := lw_S) (Qf := l3R (M 2) (M 1 1) (bs_K la1 K1)) (k1 := 226) (ci := 11) (mj := 283) (ix := 157) (pc := 366) (d' := 34) (bc' := 0) (bs' := 0) (xs := []) (st := []) hb1 (Or.inr (Or.inl ⟨rfl, rfl⟩)) (by omega) p2_nmu (fun _ _ _ _ h => h) F1 ⟨by decide, by decide⟩ (md_mo hb1.2.1).2 (by decide +kernel) (by decide +kernel) (by decide +kernel) (by decide) (by decide +kernel) (show 0 = gm_na 283 by decide +kernel) (show 0 + 1 ≤ gm_ml 283 by decide +kernel) (Nat.le_of_ble_eq_true rfl) lw_S_s (by decide +kernel) (by decide +kernel) (by decide +kernel) (by decide +kernel) (by decide) (Nat.zero_le _) (Nat.zero_le _) (fun σ => by have := bc_gas2 (σ := σ) (S := lw_S) (k1 := 226) (t := false) (xs := []) (by decide +kernel) bc_in0 (fun _ h => nomatch h); rwa [show bc_as [] false = ([] : List Int).map gm_vi by simp [bc_as]] at this) hfun ?_
  intro oc hoc σ u n9 K9 R9 M9 hσ9 ho9 hfa9 hF9 hfr9 o3 n3 Kb Rb Mb hqr hdo2 hdm2 g2 la2 K2 R2 M2 hb2 hg2 hM2
  obtain ⟨hkr, hqr⟩ := hqr
  rw [List.mem_singleton.mp hoc] at ho9 hfa9
  cases u with
  | none => exact absurd ho9 id
  | some v9 =>
  obtain ⟨y2, rfl, -⟩ := ho9
  have z8 := ((hfa9.2.2 _ List.mem_cons_self).2 8 (Int.le_refl _) (Int.le_refl _)).2
  have z9 : M9 226 8 = 0 := Int.le_antisymm z8.2.1 z8.1
  have q0 : K9 226 = Kb 226 := (hfr9.2.1 226 (by decide)).trans (hkr 226 (by decide)).symm
  have q1 : (K9 226).1 = 11 + 4 := by rw [hfr9.2.1 226 (by decide), f9k 226 (by decide)]; exact (md_mo hb1.2.1).2
  have i0 := ((gm_tyr_s hF9 (show gm_tyr p2_O 226 0 0 = some (0, 3) by decide +kernel)).2 0 (Int.le_refl _) (Int.le_refl _)).1
  have th : ((g_law (M 2) (M 1 1)).1 = true ∧ gm_w y2 = (g_law (M 2) (M 1 1)).2 ∧ M2 226 0 = 0) ∨ (¬ (g_law (M 2) (M 1 1)).1 = true ∧ M2 226 0 = 1) := by
    have e0 : ∀ v : Int, Mb 226 0 = v → gm_ir v → M2 226 0 = v := fun v hv hi => by
      rw [hM2 226 0 (by decide)]
      have := dt_f (c := 11) (j := 0) hdm2 (by decide) (by decide) q0 q1 (by decide +kernel) (by decide +kernel) i0 (by show gm_ir (Mb 226 0); rw [hv]; exact hi)
      exact this.trans hv
    rcases hqr with ⟨hg, rfl, hv⟩ | ⟨hg, rfl, hv⟩
    · refine Or.inl ⟨hg, ?_, e0 0 hv ⟨by decide, by decide⟩⟩
      have a : gm_w y2 = gm_w (g_law (M 2) (M 1 1)).2 := dt_w hdo2
      rw [a]
      have := b1 hg
      exact gm_w_id (by omega) (by omega)
    · exact Or.inr ⟨hg, e0 1 hv ⟨by decide, by decide⟩⟩
  have m245 : M2 245 0 = M' 245 0 := by
    rw [hM2 245 0 (by decide), hfr9.2.2.1 245 0 (by decide) (fun w hw hh => by
      have := List.all_eq_true.mp (show lw_S.2.2.2.2.1.1.all (fun w => decide (¬ w.1 = 245)) = true by decide +kernel) w hw
      exact absurd hh.1 (of_decide_eq_true this)), f9 245 0 (by decide), hM1 245 0 (by decide)]
  have r11 : M2 1 1 = 0 := by
    rw [hM2 1 1 (by decide), bc_keep_s (S := lw_S) (by decide +kernel) (by decide) hfr9, f9 1 1 (by decide), hM1 1 1 (by decide)]
    exact h11
  have r68 : M2 226 8 = 0 := (hM2 226 8 (by decide)).trans z9
  have rby : ∀ j, 0 ≤ j → j < 400 → M2 2 j = M2 231 j := fun j j1 j2 => by
    have kp : ∀ k, (k = 2 ∨ k = 231) → M2 k j = M1 k j := fun k hk => by
      rw [hM2 k j (by omega), bc_kp_s (S := lw_S) (by decide +kernel) hk (by omega) hfr9, f9 k j (by omega)]
    rw [kp 2 (Or.inl rfl), kp 231 (Or.inr rfl), hM1 2 j (by decide), hM1 231 j (by decide), (hkb j).1, (hkb j).2, e9 2 j (by decide), e9 231 j (by decide)]
    exact hMb j j1 j2
  have k2226 := (md_mo hb2.2.1)
  have k2245 : K2 245 = (2, 1) := (hb2.2.1.1 245 (2, 1) (by decide +kernel)).2.2
  show gm_Wp X LX 280 _ _ 370 369 L5 [gm_vi y2] (245 + 4 * g2) K2 R2 M2 Q
  refine gm_sz (gm_p_stor (pc := 369) (i := .istore 6) (sr := 0) (j := 6) (by decide +kernel) rfl (by show 6 + 0 < L5.length; have := hL5.1; omega) rfl) ?_
  have hL6 := mn_L_s (y := y2) hL5 (j := 6) (Or.inr rfl)
  have l66 : (gm_lst L5 6 (gm_vi y2))[6]? = some (some (gm_vi y2)) := by
    show ((gm_lc L5 6).set 6 (some (gm_vi y2)))[6]? = _
    rw [List.getElem?_set, if_pos rfl, if_pos (by rw [gm_lc_len]; have := hL5.1; omega)]
  have l65 : (gm_lst L5 6 (gm_vi y2))[5]? = some (some (gm_vi y)) := by
    show ((gm_lc L5 6).set 6 (some (gm_vi y2)))[5]? = _
    rw [List.getElem?_set, if_neg (by decide)]
    show (match L5[5]? with
      | some (some (.inr (.inl _))) => L5.set 5 none
      | _ => L5)[5]? = _
    rw [l55]
    exact l55
  generalize gm_lst L5 6 (gm_vi y2) = L6 at hL6 l66 l65 ⊢
  have out : gm_Wp X LX 280 (bc - 12) (bs - 1200) 370 1993 L6 [] (245 + 4 * g2) K2 R2 M2 Q := rest g2 la2 K2 R2 M2 L6 hb2 (by omega) ⟨by omega, rby⟩ hL6
  refine gm_sz (gm_p_load (pc := 371) (i := .aload_n 2) (sr := 2) (j := 2) (by decide +kernel) rfl hL6.2.2.2.1 rfl) ?_
  refine gm_c_virt (k := 226) (ci := 11) (mj := 369) (ix := 158) (pc := 372) (as := []) (st := []) (d' := 1) (bc' := 0) (bs' := 0) (by decide +kernel) (by decide +kernel) (by decide +kernel) (by decide +kernel) k2226.1 k2226.2 (by decide) (by decide +kernel) (show 0 = gm_na 369 by decide +kernel) fw_c0 (show 1 ≤ gm_ml 369 by decide +kernel) (Nat.le_of_ble_eq_true rfl) (by decide) (Nat.zero_le _) (Nat.zero_le _) ?_
  refine gm_sz (gm_p_load (pc := 0) (i := .aload_n 0) (sr := 2) (j := 0) (by decide +kernel) rfl rfl rfl) ?_
  refine gm_sz (fw_gi (pc := 1) (ix := 3) (ci := 11) (j := 0) (x := M2 226 0) (by decide +kernel) k2226 (by decide +kernel) (by decide +kernel) rfl) ?_
  refine gm_r_int (pc := 4) (by decide +kernel) (Or.inl (by decide +kernel)) ?_
  show gm_Wp X LX 280 _ _ 370 375 L6 [gm_vi (M2 226 0)] (245 + 4 * g2) K2 R2 M2 Q
  refine gm_sz (gm_p_load (pc := 375) (i := .iload 5) (sr := 0) (j := 5) (by decide +kernel) rfl l65 rfl) ?_
  refine gm_b_ic (cc := .eq) (pc := 377) (off := 5) (by decide +kernel) (by decide) (fun hp => ?_) (fun hp => ?_)
  · refine gm_sz (gm_p_load (pc := 382) (i := .iload 5) (sr := 0) (j := 5) (by decide +kernel) rfl l65 rfl) ?_
    refine gm_b_if (cc := .ne) (pc := 384) (off := 15) (by decide +kernel) (by decide) (fun hp2 => ?_) (fun hp2 => ?_)
    · show gm_Wp X LX 280 _ _ 370 399 L6 [] (245 + 4 * g2) K2 R2 M2 Q
      refine gm_sz (gm_p_goto (pc := 399) (off := 1594) (by decide +kernel) (by decide)) ?_
      exact gm_Wp_wk (Nat.le_refl _) (by omega) (by omega) out
    · have hp2 : gm_w y = gm_w 0 := Classical.not_not.mp hp2
      have hy0 : gm_w y = 0 := hp2
      rcases th with ⟨hg, hy2, ht⟩ | ⟨hg, ht⟩
      · refine gm_sz (gm_p_load (pc := 387) (i := .aload_n 3) (sr := 2) (j := 3) (by decide +kernel) rfl hL6.2.2.2.2.1 rfl) ?_
        refine gm_sz (gm_p_const (pc := 388) (i := .iconst 0) (v := gm_vi 0) (by decide +kernel) (by decide +kernel)) ?_
        refine gm_sz (gm_p_lald (pc := 389) (k := 245) (by decide +kernel) ⟨by decide, by omega⟩ (by rw [k2245]) (by rw [k2245]; decide)) ?_
        refine gm_sz (gm_p_load (pc := 390) (i := .iload 6) (sr := 0) (j := 6) (by decide +kernel) rfl l66 rfl) ?_
        refine gm_sz (gm_p_i2l (pc := 392) (by decide +kernel)) ?_
        refine gm_sz (gm_p_lcmp (pc := 393) (by decide +kernel)) ?_
        have eq0 : gm_lcm (M2 245 (gm_w 0)) (gm_w y2) = 0 := by
          have a : gm_w6 (M2 245 0) = (g_law (M 2) (M 1 1)).2 := by rw [m245]; exact (o245 hg).2
          have b : gm_w6 (gm_w y2) = (g_law (M 2) (M 1 1)).2 := by rw [hy2]; have := b1 hg; unfold gm_w6; omega
          show gm_lcm (M2 245 0) (gm_w y2) = 0
          unfold gm_lcm
          rw [a, b, if_neg (by omega), if_pos rfl]
        rw [eq0]
        refine gm_b_if (cc := .eq) (pc := 394) (off := 5) (by decide +kernel) (by decide) (fun _ => ?_) (fun hp3 => absurd rfl hp3)
        show gm_Wp X LX 280 _ _ 370 399 L6 [] (245 + 4 * g2) K2 R2 M2 Q
        refine gm_sz (gm_p_goto (pc := 399) (off := 1594) (by decide +kernel) (by decide)) ?_
        exact gm_Wp_wk (Nat.le_refl _) (by omega) (by omega) out
      · have := o245b hg
        omega
  · refine absurd ?_ hp
    show gm_w (M2 226 0) = gm_w y
    rcases th with ⟨hg, hy2, ht⟩ | ⟨hg, ht⟩
    · rw [ht, (o245 hg).1]
      decide
    · rw [ht, o245b hg]
      decide
theorem mn_L_i {z : Int} (h : mn_L i L) : mn_L z (gm_lst L 4 (gm_vi z)) := by
  obtain ⟨h0, h1, h2, h3, h4, h5⟩ := h
  show mn_L z ((gm_lc L 4).set 4 (some (gm_vi z)))
  have e3 : (gm_lc L 4)[3]? = some (some (gm_vr 245)) := by
    show (match L[3]? with
      | some (some (.inr (.inl _))) => L.set 3 none
      | _ => L)[3]? = _
    rw [h4]
    exact h4
  have e : ∀ k, k < 3 → ((gm_lc L 4).set 4 (some (gm_vi z)))[k]? = L[k]? := fun k hk => by
    rw [List.getElem?_set, if_neg (by omega), gm_lc_ne (by omega)]
  refine ⟨by rw [List.length_set, gm_lc_len]; exact h0, (e 0 (by decide)).trans h1, (e 1 (by decide)).trans h2, (e 2 (by decide)).trans h3, ?_, ?_⟩
  · rw [List.getElem?_set, if_neg (by decide)]
    exact e3
  · rw [List.getElem?_set, if_pos rfl, if_pos (by rw [gm_lc_len]; omega)]
/-- from the head of the loop on -/
theorem mn_lp (hLX : LX ≤ 3072) (hX : ∀ j, gm_ir (X j)) (hQ : ∀ n K R M, Q (.inl (some (gm_vi 1))) n K R M) : ∀ (t : Nat) (i : Int) (g bc bs : Nat) (la : Nat → Nat) (K : gm_K) (R : gm_R) (M : gm_M) (L : gm_L), (LX : Int) - i ≤ 6 * (t : Int) + 5 → 0 ≤ i → i ≤ (LX : Int) + 6 → g + 2 * t ≤ 9000 → 12 * t ≤ bc → 1200 * t ≤ bs → bg g la K R M → rl M → mn_L i L → gm_Wp X LX 280 bc bs 370 23 L [] (245 + 4 * g) K R M Q := by
  intro t
  induction t with
  | zero =>
    intro i g bc bs la K R M L ht h0 h6 hg hbc hbs hb hM hL
    refine gm_sz (gm_p_load (pc := 23) (i := .iload 4) (sr := 0) (j := 4) (by decide +kernel) rfl hL.2.2.2.2.2 rfl) ?_
    refine gm_sz (gm_p_load (pc := 25) (i := .aload_n 0) (sr := 2) (j := 0) (by decide +kernel) rfl hL.2.1 rfl) ?_
    refine gm_sz (gm_p_slen (pc := 26) (by decide +kernel)) ?_
    refine gm_sz (gm_p_const (pc := 27) (i := .bipush 6) (v := gm_vi 6) (by decide +kernel) (by decide +kernel)) ?_
    refine gm_sz (gm_p_bin (pc := 29) (i := .isub) (f := fun x y => x - y) (by decide +kernel) rfl) ?_
    refine gm_b_ic (cc := .gt) (pc := 30) (off := 1969) (by decide +kernel) (by decide) (fun _ => ?_) (fun hp => ?_)
    · refine gm_sz (gm_p_const (pc := 1999) (i := .iconst 1) (v := gm_vi 1) (by decide +kernel) (by decide +kernel)) ?_
      exact gm_r_int (pc := 2000) (by decide +kernel) (Or.inr ⟨by decide +kernel, Or.inr rfl⟩) (hQ _ _ _ _)
    · rw [gm_cm_w ⟨by omega, by omega⟩ ⟨by omega, by omega⟩] at hp
      have hp : ¬ (LX : Int) - 6 < i := hp
      omega
  | succ t ih =>
    intro i g bc bs la K R M L ht h0 h6 hg hbc hbs hb hM hL
    refine gm_sz (gm_p_load (pc := 23) (i := .iload 4) (sr := 0) (j := 4) (by decide +kernel) rfl hL.2.2.2.2.2 rfl) ?_
    refine gm_sz (gm_p_load (pc := 25) (i := .aload_n 0) (sr := 2) (j := 0) (by decide +kernel) rfl hL.2.1 rfl) ?_
    refine gm_sz (gm_p_slen (pc := 26) (by decide +kernel)) ?_
    refine gm_sz (gm_p_const (pc := 27) (i := .bipush 6) (v := gm_vi 6) (by decide +kernel) (by decide +kernel)) ?_
    refine gm_sz (gm_p_bin (pc := 29) (i := .isub) (f := fun x y => x - y) (by decide +kernel) rfl) ?_
    refine gm_b_ic (cc := .gt) (pc := 30) (off := 1969) (by decide +kernel) (by decide) (fun _ => ?_) (fun hp => ?_)
    · refine gm_sz (gm_p_const (pc := 1999) (i := .iconst 1) (v := gm_vi 1) (by decide +kernel) (by decide +kernel)) ?_
      exact gm_r_int (pc := 2000) (by decide +kernel) (Or.inr ⟨by decide +kernel, Or.inr rfl⟩) (hQ _ _ _ _)
    · rw [gm_cm_w ⟨by omega, by omega⟩ ⟨by omega, by omega⟩] at hp
      have hp : ¬ (LX : Int) - 6 < i := hp
      have hi : 0 ≤ i ∧ i + 6 ≤ (LX : Int) := ⟨h0, by omega⟩
      have w : gm_w i = i := gm_w_id (by omega) (by omega)
      have rest : mn_R X LX bc bs i g Q := by
        intro g' la' K2 R2 M2 L2 hb2 hg2 hM2 hL2
        refine gm_sz (gm_p_iinc (pc := 1993) (j := 4) (z := 6) (by decide +kernel) hL2.2.2.2.2.2) ?_
        refine gm_sz (gm_p_goto (pc := 1996) (off := (-1973)) (by decide +kernel) (by decide)) ?_
        exact ih (i + 6) g' _ _ la' K2 R2 M2 _ (by omega) (by omega) (by omega) (by omega) (by omega) (by omega) hb2 hM2 (mn_L_i hL2)
      have hg9 : g < 9990 := by omega
      have hb12 : 12 ≤ bc := by omega
      have hs12 : 1200 ≤ bs := by omega
      refine gm_sz (gm_p_load (pc := 33) (i := .aload_n 0) (sr := 2) (j := 0) (by decide +kernel) rfl hL.2.1 rfl) ?_
      refine gm_sz (gm_p_load (pc := 34) (i := .iload 4) (sr := 0) (j := 4) (by decide +kernel) rfl hL.2.2.2.2.2 rfl) ?_
      refine gm_sz (gm_p_sald (pc := 36) (by decide +kernel) (by rw [w]; omega)) ?_
      refine gm_sz (gm_p_const (pc := 37) (i := .bipush 63) (v := gm_vi 63) (by decide +kernel) (by decide +kernel)) ?_
      refine gm_sz (gm_p_bin (pc := 39) (i := .iand) (by decide +kernel) rfl) ?_
      refine gm_b_sw (pc := 40) (df := 1953) (lo := 0) (hi := 46) (offs := #[204, 277, 302, 318, 362, 375, 403, 443, 495, 535, 575, 615, 655, 695, 735, 763, 791, 855, 895, 935, 975, 1003, 1016, 1057, 1085, 1137, 1201, 1241, 1293, 1306, 1322, 1390, 1442, 1482, 1538, 1594, 1634, 1662, 1687, 1743, 1783, 1823, 1851, 1891, 1904, 1915, 1928]) (by decide +kernel) (by decide) (by decide) (fun _ => ?_) ?_
      · exact gm_Wp_wk (Nat.le_refl _) (Nat.sub_le _ _) (Nat.sub_le _ _) (rest g la K R M L hb (by omega) hM hL)
      · refine ⟨fun _ => ?_, fun _ => ?_, fun _ => ?_, fun _ => ?_, fun _ => ?_, fun _ => ?_, fun _ => ?_, fun _ => ?_, fun _ => ?_, fun _ => ?_, fun _ => ?_, fun _ => ?_, fun _ => ?_, fun _ => ?_, fun _ => ?_, fun _ => ?_, fun _ => ?_, fun _ => ?_, fun _ => ?_, fun _ => ?_, fun _ => ?_, fun _ => ?_, fun _ => ?_, fun _ => ?_, fun _ => ?_, fun _ => ?_, fun _ => ?_, fun _ => ?_, fun _ => ?_, fun _ => ?_, fun _ => ?_, fun _ => ?_, fun _ => ?_, fun _ => ?_, fun _ => ?_, fun _ => ?_, fun _ => ?_, fun _ => ?_, fun _ => ?_, fun _ => ?_, fun _ => ?_, fun _ => ?_, fun _ => ?_, fun _ => ?_, fun _ => ?_, fun _ => ?_, fun _ => ?_, trivial⟩
        · exact mc_0 hb hg9 hM hL hi hLX hX hb12 hs12 rest
        · exact mc_1 hb hg9 hM hL hi hLX hX rest
        · exact mc_2 hb hg9 hM hL hi hLX hX hb12 hs12 rest
        · exact mc_3 hb hg9 hM hL hb12 hs12 rest
        · exact mc_4 hb hg9 hM hL hi hLX hX hb12 hs12 rest
        · exact mc_5 hb hg9 hM hL hi hLX hX hb12 hs12 rest
        · exact mc_6 hb hg9 hM hL hi hLX hX hb12 hs12 rest
        · exact mc_7 hb hg9 hM hL hi hLX hX hb12 hs12 rest
        · exact mc_8 hb hg9 hM hL hi hLX hX hb12 hs12 rest
        · exact mc_9 hb hg9 hM hL hi hLX hX hb12 hs12 rest
        · exact mc_10 hb hg9 hM hL hi hLX hX hb12 hs12 rest
        · exact mc_11 hb hg9 hM hL hi hLX hX hb12 hs12 rest
        · exact mc_12 hb hg9 hM hL hi hLX hX hb12 hs12 rest
        · exact mc_13 hb hg9 hM hL hi hLX hX hb12 hs12 rest
        · exact mc_14 hb hg9 hM hL hi hLX hX hb12 hs12 rest
        · exact mc_15 hb hg9 hM hL hi hLX hX hb12 hs12 rest
        · exact mc_16 hb hg9 hM hL hi hLX hX hb12 hs12 rest
        · exact mc_17 hb hg9 hM hL hi hLX hX hb12 hs12 rest
        · exact mc_18 hb hg9 hM hL hi hLX hX hb12 hs12 rest
        · exact mc_19 hb hg9 hM hL hi hLX hX hb12 hs12 rest
        · exact mc_20 hb hg9 hM hL hi hLX hX hb12 hs12 rest
        · exact mc_21 hb hg9 hM hL hi hLX hX hb12 hs12 rest
        · exact mc_22 hb hg9 hM hL hi hLX hX hb12 hs12 rest
        · exact mc_23 hb hg9 hM hL hi hLX hX hb12 hs12 rest
        · exact mc_24 hb hg9 hM hL hi hLX hX hb12 hs12 rest
        · exact mc_25 hb hg9 hM hL hi hLX hX hb12 hs12 rest
        · exact mc_26 hb hg9 hM hL hi hLX hX hb12 hs12 rest
        · exact mc_27 hb hg9 hM hL hi hLX hX hb12 hs12 rest
        · exact mc_28 hb hg9 hM hL hi hLX hX hb12 hs12 rest
        · exact mc_29 hb hg9 hM hL hi hLX hX hb12 hs12 rest
        · exact mc_30 hb hg9 hM hL hi hLX hX hb12 hs12 rest
        · exact mc_31 hb hg9 hM hL hi hLX hX hb12 hs12 rest
        · exact mc_32 hb hg9 hM hL hi hLX hX hb12 hs12 rest
        · exact mc_33 hb hg9 hM hL hi hLX hX hb12 hs12 rest
        · exact mc_34 hb hg9 hM hL hi hLX hX hb12 hs12 rest
        · exact mc_35 hb hg9 hM hL hi hLX hX hb12 hs12 rest
        · exact mc_36 hb hg9 hM hL hi hLX hX hb12 hs12 rest
        · exact mc_37 hb hg9 hM hL hi hLX hX hb12 hs12 rest
        · exact mc_38 hb hg9 hM hL hi hLX hX hb12 hs12 rest
        · exact mc_39 hb hg9 hM hL hi hLX hX hb12 hs12 rest
        · exact mc_40 hb hg9 hM hL hi hLX hX hb12 hs12 rest
        · exact mc_41 hb hg9 hM hL hi hLX hX hb12 hs12 rest
        · exact mc_42 hb hg9 hM hL hi hLX hX hb12 hs12 rest
        · exact mc_43 hb hg9 hM hL hi hLX hX hb12 hs12 rest
        · exact mc_44 hb hg9 hM hL hi hLX hX hb12 hs12 rest
        · exact mc_45 hb hg9 hM hL hi hLX hX hb12 hs12 rest
        · exact mc_46 hb hg9 hM hL hi hLX hX hb12 hs12 rest
end LPF
