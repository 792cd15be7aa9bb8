/-! THE CLASS'S READER OF A LAW: the whole text (laid by wip/pp/p5c.py). -/
section CY
variable {X : Int → Int} {LX d bc bs n : Nat} {K : gm_K} {R : gm_R} {M : gm_M} {Q : gm_Q} {e e0 b w us lc x p k v : Int} {D C : Int → Int}
theorem cm_len : gm_uM (cm M p b w k v us lc D C) 216 ((2 : Nat) : Int) x = cm (gm_uM M 216 2 x) p b w k v us lc D C := by
  show gm_uM (cm M p b w k v us lc D C) 216 2 x = _
  funext a j
  by_cases ha : a = 216 <;> by_cases hj : j = 2 <;> simp [gm_uM, cm, ha, hj]
theorem tx_E2 (h : tx_E n K R M e) (h0 : 0 ≤ e0 ∧ e0 ≤ 400) : tx_E n K R (gm_uM M 216 2 e0) e0 := by
  have f2 : ∀ j, gm_uM M 216 2 e0 2 j = M 2 j := fun j => uM_ne (by omega)
  refine ⟨h.1, ⟨h.2.1.1, (uM_ne (by omega)).trans h.2.1.2.1, (uM_ne (by omega)).trans h.2.1.2.2.1, (uM_ne (by omega)).trans h.2.1.2.2.2.1, (uM_ne (by omega)).trans h.2.1.2.2.2.2⟩, ⟨uM_at, h0⟩, fun j h1 h2 => ?_⟩
  rw [f2]
  exact h.2.2.2 j h1 h2
theorem tx_c75 (hd : 2 ≤ d) (hE : tx_E n K R M e) (h0 : 0 ≤ e0 ∧ e0 ≤ 400) (hq : Q (.inl none) n K R (ct (gm_uM M 216 2 e0) e0 (tx_g (M 2) e0 0) (-1) us lc D C)) : gm_Wp X LX d bc bs 75 0 (gm_ent 75 [gm_vr 216, gm_vi e0]) [] n K R (cm M p b w k v us lc D C) Q := by
  have hE2 := tx_E2 hE h0
  refine gm_sz (gm_p_load (pc := 0) (i := .aload_n 0) (sr := 2) (j := 0) (by decide +kernel) rfl rfl rfl) ?_
  refine gm_sz (gm_p_load (pc := 1) (i := .iload_n 1) (sr := 0) (j := 1) (by decide +kernel) rfl rfl rfl) ?_
  refine gm_sz (gm_p_load (pc := 2) (i := .aload_n 0) (sr := 2) (j := 0) (by decide +kernel) rfl rfl rfl) ?_
  refine gm_sz (fw_gr (pc := 3) (ix := 30) (ci := 8) (j := 0) (r := 2) (by decide +kernel) (tE216c hE) (by decide +kernel) (by decide +kernel) (tEr hE).1) ?_
  refine gm_sz (fw_al (pc := 6) (k := 2) (len := 400) (by decide +kernel) (tE2 hE).1 (tE2 hE).2 (by decide)) ?_
  refine gm_sz (gm_p_min (pc := 7) (ix := 37) (x := e0) (y := 400) (by decide +kernel) (by decide +kernel) (gm_w_id (by omega) (by omega)) (gm_w_id (by omega) (by omega)) (Nat.le_of_ble_eq_true rfl) (by omega)) ?_
  rw [show min e0 400 = e0 by omega]
  refine gm_sz (fw_pi (pc := 10) (ix := 9) (ci := 8) (j := 2) (M' := cm (gm_uM M 216 2 e0) p b w k v us lc D C) (by decide +kernel) (tE216c hE) (by decide +kernel) (by decide +kernel) (by decide +kernel) cm_len) ?_
  refine gm_sz (gm_p_load (pc := 13) (i := .aload_n 0) (sr := 2) (j := 0) (by decide +kernel) rfl rfl rfl) ?_
  refine gm_sz (gm_p_const (pc := 14) (i := .iconst 0) (v := gm_vi 0) (by decide +kernel) (by decide +kernel)) ?_
  refine gm_sz (fw_pi (pc := 15) (ix := 15) (ci := 8) (j := 3) (M' := cm (gm_uM M 216 2 e0) 0 b w k v us lc D C) (by decide +kernel) (tE216c hE) (by decide +kernel) (by decide +kernel) (by decide +kernel) cm_p) ?_
  refine gm_sz (gm_p_load (pc := 18) (i := .aload_n 0) (sr := 2) (j := 0) (by decide +kernel) rfl rfl rfl) ?_
  refine gm_sz (gm_p_const (pc := 19) (i := .iconst (-1)) (v := gm_vi (-1)) (by decide +kernel) (by decide +kernel)) ?_
  refine gm_sz (fw_pi (pc := 20) (ix := 21) (ci := 8) (j := 5) (M' := cm (gm_uM M 216 2 e0) 0 b (-1) k v us lc D C) (by decide +kernel) (tE216c hE) (by decide +kernel) (by decide +kernel) (by decide +kernel) cm_w) ?_
  refine gm_sz (gm_p_load (pc := 23) (i := .aload_n 0) (sr := 2) (j := 0) (by decide +kernel) rfl rfl rfl) ?_
  refine gm_c_virt (k := 216) (ci := 8) (mj := 76) (ix := 43) (pc := 24) (as := []) (st := []) (d' := d - 1) (bc' := 0) (bs' := 0) (by decide +kernel) (by decide +kernel) (by decide +kernel) (by decide +kernel) (tE216c hE).1 (tE216c hE).2 (by decide) (by decide +kernel) (show 0 = gm_na 76 by decide +kernel) fw_c0 (show 1 ≤ gm_ml 76 by decide +kernel) (Nat.le_of_ble_eq_true rfl) (by omega) (Nat.zero_le _) (Nat.zero_le _) ?_
  refine tx_nx (by omega) hE2 ⟨Int.le_refl _, h0.1⟩ ?_
  show gm_Wp X LX d _ _ 75 27 _ [] n K R _ Q
  exact gm_r_void (pc := 27) (by decide +kernel) (by decide +kernel) (by rw [show (gm_uM M 216 2 e0) 2 = M 2 from funext fun j => uM_ne (by omega)]; exact hq)
section GT
variable {f : Int → Int} {t : Nat}
theorem g_t0 (h : ¬ (g_line f e b).1 = true) : g_txt f e (t + 1) b = (false, (g_line f e b).2) := tif_f h
theorem g_t1 (h : (g_line f e b).1 = true) (h2 : tx_k f e (g_line f e b).2 = 256) : g_txt f e (t + 1) b = (true, 12 - (t : Int)) := by unfold g_txt; rw [tif_t h, tif_t h2]
theorem g_t2 (h : (g_line f e b).1 = true) (h2 : ¬ tx_k f e (g_line f e b).2 = 256) (h3 : ¬ tx_k f e (g_line f e b).2 = 59) : g_txt f e (t + 1) b = (false, (g_line f e b).2) := by unfold g_txt; rw [tif_t h, tif_f h2, tif_f h3]
theorem g_t3 (h : (g_line f e b).1 = true) (h2 : ¬ tx_k f e (g_line f e b).2 = 256) (h3 : tx_k f e (g_line f e b).2 = 59) : g_txt f e (t + 1) b = g_txt f e t (tx_n f e (g_line f e b).2) := by
  show tif ((g_line f e b).1 = true) _ _ = _
  rw [tif_t h, tif_f h2, tif_t h3]
end GT
theorem tx_l72 (hd : 24 ≤ d) (hE : tx_E n K R M e) (z : Int) : ∀ (t : Nat) (i b us : Int) (D C : Int → Int), i + t = 12 → 0 ≤ i → 0 ≤ b ∧ b ≤ e → ctk us i D C → (∀ us2 D2 C2 b2, (g_txt (M 2) e t b).1 = true → Q (.inl (some (gm_vi (-1)))) n K R (ct M e b2 (-1) us2 (g_txt (M 2) e t b).2 D2 C2)) → (∀ us2 lc2 D2 C2 b2, ¬ (g_txt (M 2) e t b).1 = true → Q (.inl (some (gm_vi (g_txt (M 2) e t b).2))) n K R (ct M e b2 (g_txt (M 2) e t b).2 us2 lc2 D2 C2)) → gm_Wp X LX d bc bs 72 29 [some (gm_vr 215), some (gm_vi z), some (gm_vi i)] [] n K R (ct M e b (-1) us i D C) Q := by
  obtain ⟨-, he0, he4⟩ := tEe hE
  intro t
  induction t with
  | zero =>
    intro i b us D C hit hi0 hb hok h1 h0
    refine gm_sz (gm_p_load (pc := 29) (i := .iload_n 2) (sr := 0) (j := 2) (by decide +kernel) rfl rfl rfl) ?_
    refine gm_sz (gm_p_load (pc := 30) (i := .aload_n 0) (sr := 2) (j := 0) (by decide +kernel) rfl rfl rfl) ?_
    refine gm_sz (fw_gi (pc := 31) (ix := 20) (ci := 9) (j := 1) (x := 12) (by decide +kernel) (tE215c hE) (by decide +kernel) (by decide +kernel) (tEm hE).2.2.2) ?_
    refine fw_ict (cc := .ge) (pc := 34) (off := 49) (by decide +kernel) (by decide) ⟨by omega, by omega⟩ ⟨by decide, by decide⟩ (show 12 ≤ i by omega) ?_
    refine gm_sz (gm_p_load (pc := 83) (i := .aload_n 0) (sr := 2) (j := 0) (by decide +kernel) rfl rfl rfl) ?_
    refine gm_sz (fw_gr (pc := 84) (ix := 14) (ci := 9) (j := 0) (r := 216) (by decide +kernel) (tE215c hE) (by decide +kernel) (by decide +kernel) (tEr hE).2.1) ?_
    refine gm_c_virt (k := 216) (ci := 8) (mj := 93) (ix := 46) (pc := 87) (as := []) (st := []) (d' := d - 1) (bc' := 0) (bs' := 0) (by decide +kernel) (by decide +kernel) (by decide +kernel) (by decide +kernel) (tE216c hE).1 (tE216c hE).2 (by decide) (by decide +kernel) (show 0 = gm_na 93 by decide +kernel) fw_c0 (show 1 ≤ gm_ml 93 by decide +kernel) (Nat.le_of_ble_eq_true rfl) (by omega) (Nat.zero_le _) (Nat.zero_le _) ?_
    refine tx_c93 hE hb ?_
    show gm_Wp X LX d _ _ 72 90 _ [gm_vi 0] n K R _ Q
    refine gm_sz (gm_p_pop (pc := 90) (by decide +kernel) fw_si) ?_
    refine gm_sz (gm_p_load (pc := 91) (i := .aload_n 0) (sr := 2) (j := 0) (by decide +kernel) rfl rfl rfl) ?_
    refine gm_sz (fw_gr (pc := 92) (ix := 14) (ci := 9) (j := 0) (r := 216) (by decide +kernel) (tE215c hE) (by decide +kernel) (by decide +kernel) (tEr hE).2.1) ?_
    refine gm_c_virt (k := 216) (ci := 8) (mj := 121) (ix := 42) (pc := 95) (as := []) (st := []) (d' := d - 1) (bc' := 0) (bs' := 0) (by decide +kernel) (by decide +kernel) (by decide +kernel) (by decide +kernel) (tE216c hE).1 (tE216c hE).2 (by decide) (by decide +kernel) (show 0 = gm_na 121 by decide +kernel) fw_c0 (show 1 ≤ gm_ml 121 by decide +kernel) (Nat.le_of_ble_eq_true rfl) (by omega) (Nat.zero_le _) (Nat.zero_le _) ?_
    refine tx_c121 hE ?_
    show gm_Wp X LX d _ _ 72 98 _ [gm_vi b] n K R _ Q
    exact gm_r_int (pc := 98) (by decide +kernel) (Or.inl (by decide +kernel)) (h0 _ _ _ _ _ (fun h => by cases h))
  | succ t ih =>
    intro i b us D C hit hi0 hb hok h1 h0
    have hkk := tx_kc (f := M 2) (e := e) (b := (g_line (M 2) e b).2) (fun h => tEb hE (by have := (g_line_in (f := M 2) hb.1 hb.2).1; omega) (by omega))
    refine gm_sz (gm_p_load (pc := 29) (i := .iload_n 2) (sr := 0) (j := 2) (by decide +kernel) rfl rfl rfl) ?_
    refine gm_sz (gm_p_load (pc := 30) (i := .aload_n 0) (sr := 2) (j := 0) (by decide +kernel) rfl rfl rfl) ?_
    refine gm_sz (fw_gi (pc := 31) (ix := 20) (ci := 9) (j := 1) (x := 12) (by decide +kernel) (tE215c hE) (by decide +kernel) (by decide +kernel) (tEm hE).2.2.2) ?_
    refine fw_icf (cc := .ge) (pc := 34) (off := 49) (by decide +kernel) (by decide) ⟨by omega, by omega⟩ ⟨by decide, by decide⟩ (show ¬ 12 ≤ i by omega) ?_
    refine gm_sz (gm_p_load (pc := 37) (i := .aload_n 0) (sr := 2) (j := 0) (by decide +kernel) rfl rfl rfl) ?_
    refine gm_c_up (k := 215) (ci := 9) (mj := 79) (ix := 34) (pc := 38) (as := []) (st := []) (d' := d - 1) (bc' := 0) (bs' := 0) (by decide +kernel) (by decide +kernel) (by decide +kernel) (tE215c hE).1 (tE215c hE).2 (show 0 = gm_na 79 by decide +kernel) fw_c0 (show 1 ≤ gm_ml 79 by decide +kernel) (Nat.le_of_ble_eq_true rfl) (by omega) (Nat.zero_le _) (Nat.zero_le _) ?_
    refine tx_c79 hE _ _ _ _ _ _ _ _ _ (by omega) hb (by omega) hok (fun u1 D2 C3 k4 j5 => ?_) (fun u1 D2 C3 k4 j5 => ?_)
    · show gm_Wp X LX d _ _ 72 41 _ [gm_vi 1] n K R _ Q
      have j5 : (g_line (M 2) e b).1 = true := j5
      have g6 : 0 ≤ (g_line (M 2) e b).2 ∧ (g_line (M 2) e b).2 ≤ e := by have := g_line_in (f := M 2) hb.1 hb.2; have := hb.1; omega
      refine fw_iffd (cc := .eq) (pc := 41) (off := 28) (by decide +kernel) (by decide) ⟨by decide, by decide⟩ (by decide) ?_
      refine gm_sz (gm_p_load (pc := 44) (i := .aload_n 0) (sr := 2) (j := 0) (by decide +kernel) rfl rfl rfl) ?_
      refine gm_sz (fw_gr (pc := 45) (ix := 14) (ci := 9) (j := 0) (r := 216) (by decide +kernel) (tE215c hE) (by decide +kernel) (by decide +kernel) (tEr hE).2.1) ?_
      refine gm_sz (fw_gi (pc := 48) (ix := 31) (ci := 8) (j := 6) (x := tx_k (M 2) e ((g_line (M 2) e b).2)) (by decide +kernel) (tE216c hE) (by decide +kernel) (by decide +kernel) rfl) ?_
      refine gm_sz (gm_p_const (pc := 51) (i := .sipush 256) (v := gm_vi 256) (by decide +kernel) (by decide +kernel)) ?_
      refine fw_ic (cc := .eq) (pc := 54) (off := 15) (by decide +kernel) (by decide) ⟨by omega, by omega⟩ ⟨by decide, by decide⟩ (fun j7 => ?_) (fun j7 => ?_)
      · have j7 : (tx_k (M 2) e ((g_line (M 2) e b).2)) = 256 := j7
        refine gm_sz (gm_p_load (pc := 69) (i := .aload_n 0) (sr := 2) (j := 0) (by decide +kernel) rfl rfl rfl) ?_
        refine gm_sz (fw_gr (pc := 70) (ix := 14) (ci := 9) (j := 0) (r := 216) (by decide +kernel) (tE215c hE) (by decide +kernel) (by decide +kernel) (tEr hE).2.1) ?_
        refine gm_c_virt (k := 216) (ci := 8) (mj := 121) (ix := 42) (pc := 73) (as := []) (st := []) (d' := d - 1) (bc' := 0) (bs' := 0) (by decide +kernel) (by decide +kernel) (by decide +kernel) (by decide +kernel) (tE216c hE).1 (tE216c hE).2 (by decide) (by decide +kernel) (show 0 = gm_na 121 by decide +kernel) fw_c0 (show 1 ≤ gm_ml 121 by decide +kernel) (Nat.le_of_ble_eq_true rfl) (by omega) (Nat.zero_le _) (Nat.zero_le _) ?_
        refine tx_c121 hE ?_
        show gm_Wp X LX d _ _ 72 76 _ [gm_vi (-1)] n K R _ Q
        rw [g_t1 j5 j7] at h1
        have h1 := fun a2 b2 c2 d2 => h1 a2 b2 c2 d2 rfl
        rw [show ((true, 12 - (t : Int)) : Bool × Int).2 = i + 1 by show 12 - (t : Int) = i + 1; omega] at h1
        exact gm_r_int (pc := 76) (by decide +kernel) (Or.inl (by decide +kernel)) (h1 _ _ _ _)
      · have j7 : ¬ (tx_k (M 2) e ((g_line (M 2) e b).2)) = 256 := j7
        refine gm_sz (gm_p_load (pc := 57) (i := .aload_n 0) (sr := 2) (j := 0) (by decide +kernel) rfl rfl rfl) ?_
        refine gm_sz (fw_gr (pc := 58) (ix := 14) (ci := 9) (j := 0) (r := 216) (by decide +kernel) (tE215c hE) (by decide +kernel) (by decide +kernel) (tEr hE).2.1) ?_
        refine gm_sz (gm_p_const (pc := 61) (i := .bipush 59) (v := gm_vi 59) (by decide +kernel) (by decide +kernel)) ?_
        refine gm_c_virt (k := 216) (ci := 8) (mj := 98) (ix := 38) (pc := 63) (as := [gm_vi 59]) (st := []) (d' := d - 1) (bc' := 0) (bs' := 0) (by decide +kernel) (by decide +kernel) (by decide +kernel) (by decide +kernel) (tE216c hE).1 (tE216c hE).2 (by decide) (by decide +kernel) (show 1 = gm_na 98 by decide +kernel) (fw_c1 fw_si) (show 2 ≤ gm_ml 98 by decide +kernel) (Nat.le_of_ble_eq_true rfl) (by omega) (Nat.zero_le _) (Nat.zero_le _) ?_
        refine tx_c98 (by omega) hE ⟨by decide, by decide⟩ g6 (fun j8 => ?_) (fun j8 => ?_)
        · show gm_Wp X LX d _ _ 72 66 _ [gm_vi 1] n K R _ Q
          have j8 : tx_k (M 2) e ((g_line (M 2) e b).2) = 59 := j8
          have g9 : 0 ≤ tx_n (M 2) e ((g_line (M 2) e b).2) ∧ tx_n (M 2) e ((g_line (M 2) e b).2) ≤ e := by have := tx_nb (f := M 2) (b := (g_line (M 2) e b).2) g6.2; omega
          refine fw_iftd (cc := .ne) (pc := 66) (off := 11) (by decide +kernel) (by decide) ⟨by decide, by decide⟩ (by decide) ?_
          refine gm_sz (gm_p_iinc (pc := 77) (j := 2) (z := 1) (by decide +kernel) rfl) ?_
          refine gm_sz (gm_p_goto (pc := 80) (off := (-51)) (by decide +kernel) (by decide)) ?_
          rw [g_t3 j5 j7 j8] at h1 h0
          exact gm_Wp_wk (d' := d) (bc' := bc) (bs' := bs) (Nat.le_refl _) (by omega) (by omega) (ih (i + 1) _ _ _ _ (by omega) (by omega) g9 k4 h1 h0)
        · show gm_Wp X LX d _ _ 72 66 _ [gm_vi 0] n K R _ Q
          have j8 : ¬ tx_k (M 2) e ((g_line (M 2) e b).2) = 59 := j8
          refine fw_iffd (cc := .ne) (pc := 66) (off := 11) (by decide +kernel) (by decide) ⟨by decide, by decide⟩ (by decide) ?_
          refine gm_sz (gm_p_load (pc := 69) (i := .aload_n 0) (sr := 2) (j := 0) (by decide +kernel) rfl rfl rfl) ?_
          refine gm_sz (fw_gr (pc := 70) (ix := 14) (ci := 9) (j := 0) (r := 216) (by decide +kernel) (tE215c hE) (by decide +kernel) (by decide +kernel) (tEr hE).2.1) ?_
          refine gm_c_virt (k := 216) (ci := 8) (mj := 121) (ix := 42) (pc := 73) (as := []) (st := []) (d' := d - 1) (bc' := 0) (bs' := 0) (by decide +kernel) (by decide +kernel) (by decide +kernel) (by decide +kernel) (tE216c hE).1 (tE216c hE).2 (by decide) (by decide +kernel) (show 0 = gm_na 121 by decide +kernel) fw_c0 (show 1 ≤ gm_ml 121 by decide +kernel) (Nat.le_of_ble_eq_true rfl) (by omega) (Nat.zero_le _) (Nat.zero_le _) ?_
          refine tx_c121 hE ?_
          show gm_Wp X LX d _ _ 72 76 _ [gm_vi ((g_line (M 2) e b).2)] n K R _ Q
          rw [g_t2 j5 j7 j8] at h0
          exact gm_r_int (pc := 76) (by decide +kernel) (Or.inl (by decide +kernel)) (h0 _ _ _ _ _ (fun h => by cases h))
    · show gm_Wp X LX d _ _ 72 41 _ [gm_vi 0] n K R _ Q
      have j5 : ¬ (g_line (M 2) e b).1 = true := j5
      have g6 : 0 ≤ (g_line (M 2) e b).2 ∧ (g_line (M 2) e b).2 ≤ e := by have := g_line_in (f := M 2) hb.1 hb.2; have := hb.1; omega
      refine fw_iftd (cc := .eq) (pc := 41) (off := 28) (by decide +kernel) (by decide) ⟨by decide, by decide⟩ (by decide) ?_
      refine gm_sz (gm_p_load (pc := 69) (i := .aload_n 0) (sr := 2) (j := 0) (by decide +kernel) rfl rfl rfl) ?_
      refine gm_sz (fw_gr (pc := 70) (ix := 14) (ci := 9) (j := 0) (r := 216) (by decide +kernel) (tE215c hE) (by decide +kernel) (by decide +kernel) (tEr hE).2.1) ?_
      refine gm_c_virt (k := 216) (ci := 8) (mj := 121) (ix := 42) (pc := 73) (as := []) (st := []) (d' := d - 1) (bc' := 0) (bs' := 0) (by decide +kernel) (by decide +kernel) (by decide +kernel) (by decide +kernel) (tE216c hE).1 (tE216c hE).2 (by decide) (by decide +kernel) (show 0 = gm_na 121 by decide +kernel) fw_c0 (show 1 ≤ gm_ml 121 by decide +kernel) (Nat.le_of_ble_eq_true rfl) (by omega) (Nat.zero_le _) (Nat.zero_le _) ?_
      refine tx_c121 hE ?_
      show gm_Wp X LX d _ _ 72 76 _ [gm_vi ((g_line (M 2) e b).2)] n K R _ Q
      rw [g_t0 j5] at h0
      exact gm_r_int (pc := 76) (by decide +kernel) (Or.inl (by decide +kernel)) (h0 _ _ _ _ _ (fun h => by cases h))
theorem tx_EF (hF : gm_Fx p2_O 245 K R M) : tx_E 245 K R M (M 216 2) := by
  have kd : ∀ k e, p2_O.1 k = some e → (1 ≤ k ∧ k ≤ 245) ∧ K k = e := fun k e h => ⟨⟨(hF.1 k e h).1, (hF.1 k e h).2.1⟩, (hF.1 k e h).2.2⟩
  have rf : ∀ k j r, p2_O.2.1 k j = some r → R k j = r := fun k j r h => (hF.2.1 k j r h).2
  have ty : ∀ k j a b, gm_tyr p2_O k j j = some (a, b) → a ≤ M k j ∧ M k j ≤ b := fun k j a b h => ((gm_tyr_s hF h).2 j (Int.le_refl _) (Int.le_refl _)).2
  have t1 := ty 216 1 3 3 (by decide +kernel)
  have t2 := ty 217 0 12 12 (by decide +kernel)
  have t3 := ty 217 1 4 4 (by decide +kernel)
  have t4 := ty 215 1 12 12 (by decide +kernel)
  have t5 := ty 216 2 0 400 (by decide +kernel)
  exact ⟨⟨⟨kd 2 _ (by decide +kernel), kd 215 _ (by decide +kernel), kd 216 _ (by decide +kernel)⟩, kd 217 _ (by decide +kernel), kd 218 _ (by decide +kernel), kd 219 _ (by decide +kernel)⟩, ⟨⟨rf 216 0 _ (by decide +kernel), rf 215 0 _ (by decide +kernel), rf 215 2 _ (by decide +kernel), rf 215 3 _ (by decide +kernel), rf 217 2 _ (by decide +kernel)⟩, by omega, by omega, by omega, by omega⟩, ⟨rfl, t5⟩, fun j h1 h2 => ((gm_tyr_s hF (show gm_tyr p2_O 2 0 399 = some (-128, 127) by decide +kernel)).2 j h1 (by omega)).2⟩
theorem g_w0 {f : Int → Int} (h : tx_k f e (tx_g f e 0) = 256) : g_law f e = (true, 0) := tif_t h
theorem g_w1 {f : Int → Int} (h : ¬ tx_k f e (tx_g f e 0) = 256) : g_law f e = g_txt f e 12 (tx_g f e 0) := tif_f h
/-- readText of a law -/
theorem tx_c72 (hd : 25 ≤ d) (hF : gm_Fx p2_O 245 K R M) (h0 : 0 ≤ e0 ∧ e0 ≤ 400) (h1 : ∀ (K2 : gm_K) R2 M2, (∀ k, k ≤ 245 → K2 k = K k) → (g_law (M 2) e0).1 = true → M2 217 3 = (g_law (M 2) e0).2 → Q (.inl (some (gm_vi (-1)))) 245 K2 R2 M2) (hq0 : ∀ K2 R2 M2, ¬ (g_law (M 2) e0).1 = true → Q (.inl (some (gm_vi (g_law (M 2) e0).2))) 245 K2 R2 M2) : gm_Wp X LX d bc bs 72 0 (gm_ent 72 [gm_vr 215, gm_vi e0]) [] 245 K R M Q := by
  have hE0 := tx_EF hF
  refine gm_sz (gm_p_load (pc := 0) (i := .aload_n 0) (sr := 2) (j := 0) (by decide +kernel) rfl rfl rfl) ?_
  refine gm_c_up (k := 215) (ci := 9) (mj := 73) (ix := 24) (pc := 1) (as := []) (st := []) (d' := d - 1) (bc' := 0) (bs' := 0) (by decide +kernel) (by decide +kernel) (by decide +kernel) (tE215c hE0).1 (tE215c hE0).2 (show 0 = gm_na 73 by decide +kernel) fw_c0 (show 1 ≤ gm_ml 73 by decide +kernel) (Nat.le_of_ble_eq_true rfl) (by omega) (Nat.zero_le _) (Nat.zero_le _) ?_
  refine gm_Wp_mono (fun o n9 K1 R1 M1 h => ?_) (pm_s2_s (d - 1) (ck_sn p2_O (fun _ => 0) M) [gm_vr 215] 245 K R M (show 2 ≤ d - 1 by omega) rfl ⟨_, _, rfl, rfl, rfl⟩ (ck_sn_s p2_nmu) hF ⟨(fun _ h => nomatch h), (fun _ h => nomatch h), (fun _ h => nomatch h)⟩)
  obtain ⟨f1, f2, oc, f3, f4, f5, f6⟩ := h
  rw [List.mem_singleton.mp f3] at f4 f5 f6
  have f5 : n9 = 245 := f5
  subst f5
  rcases o with (_ | v9) | x9
  case inl.some => exact absurd f4 id
  case inr => exact absurd f4 id
  have u0 := ((f6.2.2 (215, 4, 4, ck_one 0) List.mem_cons_self).2 4 (Int.le_refl _) (Int.le_refl _)).2
  have u1 := ((f6.2.2 (217, 3, 3, ck_one 0) (List.mem_cons_of_mem _ List.mem_cons_self)).2 3 (Int.le_refl _) (Int.le_refl _)).2
  have v0 : M1 215 4 = 0 := Int.le_antisymm u0.2.1 u0.1
  have v1 : M1 217 3 = 0 := Int.le_antisymm u1.2.1 u1.1
  have hf : M1 2 = M 2 := funext fun j => f2.2.2.1 2 j (by decide) (fun w hw hh => by
    have := List.all_eq_true.mp (show pm_s2.2.2.2.2.1.1.all (fun w => decide (¬ w.1 = 2)) = true by decide) w hw
    exact absurd hh.1 (of_decide_eq_true this))
  have hE := tx_EF f1
  have hok : ctk 0 0 (M1 218) (M1 219) := ⟨⟨⟨by decide, by decide⟩, by decide, by decide⟩, fun j g1 g2 => ((gm_tyr_s f1 (show gm_tyr p2_O 218 0 47 = some (0, 400) by decide +kernel)).2 j g1 (by omega)).2, fun j g1 g2 => ((gm_tyr_s f1 (show gm_tyr p2_O 219 0 399 = some (-2147483648, 2147483647) by decide +kernel)).2 j g1 (by omega)).1⟩
  show gm_Wp X LX d _ _ 72 4 (gm_ent 72 [gm_vr 215, gm_vi e0]) [] 245 K1 R1 M1 Q
  rw [← cm_id (M := M1), v0, v1]
  rw [← hf] at h1 hq0
  have hE2 := tx_E2 hE h0
  have hf2 : (gm_uM M1 216 2 e0) 2 = M1 2 := funext fun j => uM_ne (by omega)
  obtain ⟨gb1, gb2, -⟩ := tx_gb (f := M1 2) h0.1
  have hkb := tx_kc (f := M1 2) (e := e0) (b := tx_g (M1 2) e0 0) (fun h => tEb hE gb1 (by omega))
  generalize hD : M1 218 = D9 at *
  generalize hC : M1 219 = C9 at *
  refine gm_sz (gm_p_load (pc := 4) (i := .aload_n 0) (sr := 2) (j := 0) (by decide +kernel) rfl rfl rfl) ?_
  refine gm_sz (fw_gr (pc := 5) (ix := 14) (ci := 9) (j := 0) (r := 216) (by decide +kernel) (tE215c hE) (by decide +kernel) (by decide +kernel) (tEr hE).2.1) ?_
  refine gm_sz (gm_p_load (pc := 8) (i := .iload_n 1) (sr := 0) (j := 1) (by decide +kernel) rfl rfl rfl) ?_
  refine gm_c_virt (k := 216) (ci := 8) (mj := 75) (ix := 27) (pc := 9) (as := [gm_vi e0]) (st := []) (d' := d - 1) (bc' := 0) (bs' := 0) (by decide +kernel) (by decide +kernel) (by decide +kernel) (by decide +kernel) (tE216c hE).1 (tE216c hE).2 (by decide) (by decide +kernel) (show 1 = gm_na 75 by decide +kernel) (fw_c1 fw_si) (show 2 ≤ gm_ml 75 by decide +kernel) (Nat.le_of_ble_eq_true rfl) (by omega) (Nat.zero_le _) (Nat.zero_le _) ?_
  refine tx_c75 (by omega) hE h0 ?_
  show gm_Wp X LX d _ _ 72 12 (gm_ent 72 [gm_vr 215, gm_vi e0]) [] 245 K1 R1 (ct (gm_uM M1 216 2 e0) e0 (tx_g (M1 2) e0 0) (-1) 0 0 D9 C9) Q
  refine gm_sz (gm_p_load (pc := 12) (i := .aload_n 0) (sr := 2) (j := 0) (by decide +kernel) rfl rfl rfl) ?_
  refine gm_sz (fw_gr (pc := 13) (ix := 14) (ci := 9) (j := 0) (r := 216) (by decide +kernel) (tE215c hE2) (by decide +kernel) (by decide +kernel) (tEr hE2).2.1) ?_
  refine gm_sz (fw_gi (pc := 16) (ix := 31) (ci := 8) (j := 6) (x := tx_k (M1 2) e0 (tx_g (M1 2) e0 0)) (by decide +kernel) (tE216c hE2) (by decide +kernel) (by decide +kernel) (show tx_k ((gm_uM M1 216 2 e0) 2) e0 (tx_g (M1 2) e0 0) = tx_k (M1 2) e0 (tx_g (M1 2) e0 0) by rw [hf2])) ?_
  refine gm_sz (gm_p_const (pc := 19) (i := .sipush 256) (v := gm_vi 256) (by decide +kernel) (by decide +kernel)) ?_
  refine fw_ic (cc := .ne) (pc := 22) (off := 5) (by decide +kernel) (by decide) ⟨by omega, by omega⟩ ⟨by decide, by decide⟩ (fun j1 => ?_) (fun j1 => ?_)
  · have j1 : ¬ (tx_k (M1 2) e0 (tx_g (M1 2) e0 0)) = 256 := j1
    refine gm_sz (gm_p_const (pc := 27) (i := .iconst 0) (v := gm_vi 0) (by decide +kernel) (by decide +kernel)) ?_
    refine gm_sz (gm_p_stor (pc := 28) (i := .istore_n 2) (sr := 0) (j := 2) (by decide +kernel) rfl (show 3 ≤ _ from Nat.le_of_ble_eq_true rfl) rfl) ?_
    rw [g_w1 j1, ← hf2] at h1 hq0
    have hb9 : 0 ≤ tx_g ((gm_uM M1 216 2 e0) 2) e0 0 ∧ tx_g ((gm_uM M1 216 2 e0) 2) e0 0 ≤ e0 := by rw [hf2]; exact ⟨by omega, gb2⟩
    rw [show tx_g (M1 2) e0 0 = tx_g ((gm_uM M1 216 2 e0) 2) e0 0 by rw [hf2]]
    exact tx_l72 (by omega) hE2 _ 12 0 _ 0 D9 C9 rfl (Int.le_refl _) hb9 hok (fun us2 D2 C2 b2 g => h1 _ _ _ f2.2.1 g rfl) (fun us2 lc2 D2 C2 b2 g => hq0 _ _ _ g)
  · have j1 : (tx_k (M1 2) e0 (tx_g (M1 2) e0 0)) = 256 := Classical.not_not.mp j1
    refine gm_sz (gm_p_const (pc := 25) (i := .iconst (-1)) (v := gm_vi (-1)) (by decide +kernel) (by decide +kernel)) ?_
    rw [g_w0 j1] at h1
    exact gm_r_int (pc := 26) (by decide +kernel) (Or.inl (by decide +kernel)) (h1 _ _ _ f2.2.1 rfl rfl)
end CY
