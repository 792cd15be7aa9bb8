/-! THE CLASS'S readText OF A VALLEY, whole; a State copied to the draft and back (laid by wip/core/v4.py). -/
section V4A
variable {X : Int → Int} {LX d bc bs n : Nat} {K : gm_K} {R : gm_R} {M : gm_M} {Q : gm_Q} {e e0 p b w k v x : Int} {N : Int → Int}
theorem vm_len : gm_uM (vm M p b w k v) 214 ((2 : Nat) : Int) x = vm (gm_uM M 214 2 x) p b w k v := by
  show gm_uM (vm M p b w k v) 214 2 x = _
  funext a j
  by_cases ha : a = 214 <;> by_cases hj : j = 2 <;> simp [gm_uM, vm, ha, hj]
theorem vx_c75 (hd : 2 ≤ d) (hE : vE n K R (gm_uM M 214 2 e0) e0) (h0 : 0 ≤ e0 ∧ e0 ≤ 400) (hq : Q (.inl none) n K R (vt (gm_uM M 214 2 e0) e0 (tx_g (M 2) e0 0) (-1))) : gm_Wp X LX d bc bs 75 0 (gm_ent 75 [gm_vr 214, gm_vi e0]) [] n K R (vm M p b w k v) Q := by
  refine gm_sz (gm_p_load (pc := 0) (i := .aload_n 0) (sr := 2) (j := 0) (by decide +kernel) rfl rfl rfl) ?_
  refine gm_sz (gm_p_load (pc := 1) (i := .iload_n 1) (sr := 0) (j := 1) (by decide +kernel) rfl rfl rfl) ?_
  refine gm_sz (gm_p_load (pc := 2) (i := .aload_n 0) (sr := 2) (j := 0) (by decide +kernel) rfl rfl rfl) ?_
  refine gm_sz (fw_gr (pc := 3) (ix := 30) (ci := 8) (j := 0) (r := 2) (by decide +kernel) (vE214 hE) (by decide +kernel) (by decide +kernel) hE.2.1.1) ?_
  refine gm_sz (fw_al (pc := 6) (k := 2) (len := 400) (by decide +kernel) (vE2 hE).1 (vE2 hE).2 (by decide)) ?_
  refine gm_sz (gm_p_min (pc := 7) (ix := 37) (x := e0) (y := 400) (by decide +kernel) (by decide +kernel) (gm_w_id (by omega) (by omega)) (gm_w_id (by omega) (by omega)) (Nat.le_of_ble_eq_true rfl) (by omega)) ?_
  rw [show min e0 400 = e0 by omega]
  refine gm_sz (fw_pi (pc := 10) (ix := 9) (ci := 8) (j := 2) (M' := vm (gm_uM M 214 2 e0) p b w k v) (by decide +kernel) (vE214 hE) (by decide +kernel) (by decide +kernel) (by decide +kernel) vm_len) ?_
  refine gm_sz (gm_p_load (pc := 13) (i := .aload_n 0) (sr := 2) (j := 0) (by decide +kernel) rfl rfl rfl) ?_
  refine gm_sz (gm_p_const (pc := 14) (i := .iconst 0) (v := gm_vi 0) (by decide +kernel) (by decide +kernel)) ?_
  refine gm_sz (fw_pi (pc := 15) (ix := 15) (ci := 8) (j := 3) (M' := vm (gm_uM M 214 2 e0) 0 b w k v) (by decide +kernel) (vE214 hE) (by decide +kernel) (by decide +kernel) (by decide +kernel) vm_p) ?_
  refine gm_sz (gm_p_load (pc := 18) (i := .aload_n 0) (sr := 2) (j := 0) (by decide +kernel) rfl rfl rfl) ?_
  refine gm_sz (gm_p_const (pc := 19) (i := .iconst (-1)) (v := gm_vi (-1)) (by decide +kernel) (by decide +kernel)) ?_
  refine gm_sz (fw_pi (pc := 20) (ix := 21) (ci := 8) (j := 5) (M' := vm (gm_uM M 214 2 e0) 0 b (-1) k v) (by decide +kernel) (vE214 hE) (by decide +kernel) (by decide +kernel) (by decide +kernel) vm_w) ?_
  refine gm_sz (gm_p_load (pc := 23) (i := .aload_n 0) (sr := 2) (j := 0) (by decide +kernel) rfl rfl rfl) ?_
  refine gm_c_virt (k := 214) (ci := 8) (mj := 76) (ix := 43) (pc := 24) (as := []) (st := []) (d' := d - 1) (bc' := 0) (bs' := 0) (by decide +kernel) (by decide +kernel) (by decide +kernel) (by decide +kernel) (vE214 hE).1 (vE214 hE).2 (by decide) (by decide +kernel) (show 0 = gm_na 76 by decide +kernel) fw_c0 (show 1 ≤ gm_ml 76 by decide +kernel) (Nat.le_of_ble_eq_true rfl) (by omega) (Nat.zero_le _) (Nat.zero_le _) ?_
  refine vx_nx (by omega) hE ⟨Int.le_refl _, h0.1⟩ ?_
  show gm_Wp X LX d _ _ 75 27 _ [] n K R _ Q
  exact gm_r_void (pc := 27) (by decide +kernel) (by decide +kernel) (by rw [show (gm_uM M 214 2 e0) 2 = M 2 from funext fun j => uM_ne (by omega)]; exact hq)

theorem vw_75 (hd : 2 ≤ d) (hE : E0 n K R) (hF : VF (M 2) e0) (h4 : M 214 1 = 4) (h13 : M 213 1 = 14) (hq : ∀ M2, fr [(214, some 2), (214, some 3), (214, some 4), (214, some 5), (214, some 6), (214, some 7)] M M2 → VW (M 2) e0 (tx_g (M 2) e0 0) (-1) M2 → Q (.inl none) n K R M2) : gm_Wp X LX d bc bs 75 0 (gm_ent 75 [gm_vr 214, gm_vi e0]) [] n K R M Q := by
  have e2 : (gm_uM M 214 2 e0) 2 = M 2 := funext fun j => uM_ne (by omega)
  have f4 : (gm_uM M 214 2 e0) 214 1 = 4 := (uM_ne (by omega)).trans h4
  have f3 : (gm_uM M 214 2 e0) 213 1 = 14 := (uM_ne (by omega)).trans h13
  have f2 : (gm_uM M 214 2 e0) 214 2 = e0 := uM_at
  have hE2 : vE n K R (gm_uM M 214 2 e0) e0 := ⟨⟨e0a hE (k := 2) (q := (1, 400)) (by decide +kernel), e0a hE (k := 214) (q := (12, 0)) (by decide +kernel)⟩, ⟨e0r hE (k := 214) (j := 0) (r := 2) (by decide +kernel), f4⟩, ⟨f2, hF.1⟩, fun j h1 h2 => by rw [e2]; exact hF.2 j h1 h2⟩
  have f1 : fr [(214, some 2), (214, some 3), (214, some 4), (214, some 5), (214, some 6), (214, some 7)] M (gm_uM M 214 2 e0) := fr_p fr_0 (Or.inr (by decide))
  have g := vx_c75 (X := X) (LX := LX) (bc := bc) (bs := bs) (Q := Q) (M := M) (p := M 214 3) (b := M 214 4) (w := M 214 5) (k := M 214 6) (v := M 214 7) hd hE2 hF.1 (hq _ (fr_t f1 vt_fr (by decide)) (by
    have r : ∀ b9 w9, vt (gm_uM M 214 2 e0) e0 b9 w9 = vm (gm_uM M 214 2 e0) (tx_s (M 2) e0 b9) b9 w9 (tx_k (M 2) e0 b9) (tx_v (M 2) e0 4 b9) := fun b9 w9 => by unfold vt; rw [e2]
    rw [r]
    generalize gm_uM M 214 2 e0 = G at e2 f2 f3 f4
    exact ⟨e2, ⟨f4, f3, f2⟩, rfl, rfl, rfl, rfl, rfl⟩))
  rw [vm_id] at g
  exact g
theorem ks_16 (hE : E0 n K R) : KS n K R 16 := ⟨e0k hE (k := 16) (c := 1) (by decide +kernel), ⟨⟨e0k hE (k := 17) (c := 2) (by decide +kernel), e0a hE (k := 18) (q := (0, 56)) (by decide +kernel)⟩, e0r hE (k := 16) (j := 9) (r := 17) (by decide +kernel), e0r hE (k := 17) (j := 2) (r := 18) (by decide +kernel)⟩, ⟨⟨e0k hE (k := 19) (c := 2) (by decide +kernel), e0a hE (k := 20) (q := (0, 24)) (by decide +kernel)⟩, e0r hE (k := 16) (j := 10) (r := 19) (by decide +kernel), e0r hE (k := 19) (j := 2) (r := 20) (by decide +kernel)⟩, ⟨⟨e0k hE (k := 21) (c := 2) (by decide +kernel), e0a hE (k := 22) (q := (0, 24)) (by decide +kernel)⟩, e0r hE (k := 16) (j := 11) (r := 21) (by decide +kernel), e0r hE (k := 21) (j := 2) (r := 22) (by decide +kernel)⟩, ⟨⟨e0k hE (k := 23) (c := 2) (by decide +kernel), e0a hE (k := 24) (q := (0, 168)) (by decide +kernel)⟩, e0r hE (k := 16) (j := 12) (r := 23) (by decide +kernel), e0r hE (k := 23) (j := 2) (r := 24) (by decide +kernel)⟩, ⟨⟨e0k hE (k := 25) (c := 2) (by decide +kernel), e0a hE (k := 26) (q := (0, 36)) (by decide +kernel)⟩, e0r hE (k := 16) (j := 13) (r := 25) (by decide +kernel), e0r hE (k := 25) (j := 2) (r := 26) (by decide +kernel)⟩, ⟨⟨e0k hE (k := 27) (c := 2) (by decide +kernel), e0a hE (k := 28) (q := (0, 72)) (by decide +kernel)⟩, e0r hE (k := 16) (j := 14) (r := 27) (by decide +kernel), e0r hE (k := 27) (j := 2) (r := 28) (by decide +kernel)⟩⟩
theorem mx_16 (hC : CST M) : MX M 16 := ⟨hC (17, 0, 8) (by decide), hC (19, 0, 8) (by decide), hC (21, 0, 8) (by decide), hC (23, 0, 24) (by decide), hC (25, 0, 6) (by decide), hC (27, 0, 24) (by decide)⟩
theorem e0h16 (hE : E0 n K R) {v : Nat} : E0 n K (gm_uR R 16 8 v) := e0u hE (by decide +kernel)
theorem cst_cpd : cstL.all (fun q => decide (q.1 < 16 ∨ 16 + 12 < q.1 ∨ ((q.1 = 16 + 1 ∨ q.1 = 16 + 3 ∨ q.1 = 16 + 5 ∨ q.1 = 16 + 7 ∨ q.1 = 16 + 9 ∨ q.1 = 16 + 11) ∧ 0 ≤ q.2.1 ∧ q.2.1 < 3))) = true := by decide +kernel
theorem vy_74 (hq : Q (.inl none) n K R M) : gm_Wp X LX d bc bs 74 0 (gm_ent 74 [gm_vr 213]) [] n K R M Q := gm_r_void (pc := 0) (by decide +kernel) (by decide +kernel) hq
theorem vy_72 {f : Int → Int} (hd : 11 ≤ d) (hE : E0 n K R) (hC : CST M) (hf9 : M 2 = f) (hF : VF f e0) (h4 : M 214 1 = 4) (h13 : M 213 1 = 14) (hT : cs M 16 = N) (hG : GI N) (q1 : ∀ M2, fr [(214, some 2), (214, some 3), (214, some 4), (214, some 5), (214, some 6), (214, some 7), (16, none), (17, some 3), (18, none), (19, some 3), (20, none), (21, some 3), (22, none), (23, some 3), (24, none), (25, some 3), (26, none)] M M2 → CST M2 → cs M2 16 = (v_val f e0 N).2.2 → (v_val f e0 N).1 = true → Q (.inl (some (gm_vi (-1)))) n K R M2) (q0 : ∀ M2, fr [(214, some 2), (214, some 3), (214, some 4), (214, some 5), (214, some 6), (214, some 7), (16, none), (17, some 3), (18, none), (19, some 3), (20, none), (21, some 3), (22, none), (23, some 3), (24, none), (25, some 3), (26, none)] M M2 → CST M2 → ¬ (v_val f e0 N).1 = true → Q (.inl (some (gm_vi (v_val f e0 N).2.1))) n K R M2) : gm_Wp X LX d bc bs 72 0 (gm_ent 72 [gm_vr 213, gm_vi e0]) [] n K R M Q := by
  subst hf9
  obtain ⟨g1, g2, -⟩ := tx_gb (f := M 2) hF.1.1
  have hb : 0 ≤ tx_g (M 2) e0 0 ∧ tx_g (M 2) e0 0 ≤ e0 := ⟨g1, g2⟩
  have he9 := hF.1
  have hkc := tx_kc (f := M 2) (e := e0) (b := tx_g (M 2) e0 0) (fun h => hF.2 _ (by omega) (by omega))
  refine gm_sz (gm_p_load (pc := 0) (i := .aload_n 0) (sr := 2) (j := 0) (by decide +kernel) rfl rfl rfl) ?_
  refine gm_c_up (k := 213) (ci := 7) (mj := 74) (ix := 24) (pc := 1) (as := []) (st := []) (d' := d - 1) (bc' := 0) (bs' := 0) (by decide +kernel) (by decide +kernel) (by decide +kernel) (e0k hE (k := 213) (c := 7) (by decide +kernel)).1 (e0k hE (k := 213) (c := 7) (by decide +kernel)).2 (show 0 = gm_na 74 by decide +kernel) fw_c0 (show 1 ≤ gm_ml 74 by decide +kernel) (Nat.le_of_ble_eq_true rfl) (by omega) (Nat.zero_le _) (Nat.zero_le _) ?_
  refine vy_74 ?_
  show gm_Wp X LX d _ _ 72 4 _ [] n K _ _ Q
  refine gm_sz (gm_p_load (pc := 4) (i := .aload_n 0) (sr := 2) (j := 0) (by decide +kernel) rfl rfl rfl) ?_
  refine gm_sz (fw_gr (pc := 5) (ix := 14) (ci := 7) (j := 0) (r := 214) (by decide +kernel) (e0k hE (k := 213) (c := 7) (by decide +kernel)) (by decide +kernel) (by decide +kernel) (e0r hE (k := 213) (j := 0) (r := 214) (by decide +kernel))) ?_
  refine gm_sz (gm_p_load (pc := 8) (i := .iload_n 1) (sr := 0) (j := 1) (by decide +kernel) rfl rfl rfl) ?_
  refine gm_c_virt (k := 214) (ci := 8) (mj := 75) (ix := 27) (pc := 9) (as := [gm_vi e0]) (st := []) (d' := d - 1) (bc' := 0) (bs' := 0) (by decide +kernel) (by decide +kernel) (by decide +kernel) (by decide +kernel) (e0k hE (k := 214) (c := 8) (by decide +kernel)).1 (e0k hE (k := 214) (c := 8) (by decide +kernel)).2 (by decide) (by decide +kernel) (show 1 = gm_na 75 by decide +kernel) (fw_c1 fw_si) (show 2 ≤ gm_ml 75 by decide +kernel) (Nat.le_of_ble_eq_true rfl) (by omega) (Nat.zero_le _) (Nat.zero_le _) ?_
  refine vw_75 (by omega) hE hF h4 h13 (fun M9 hf9 hv9 => ?_)
  show gm_Wp X LX d _ _ 72 12 _ [] n K _ _ Q
  refine gm_sz (gm_p_load (pc := 12) (i := .aload_n 0) (sr := 2) (j := 0) (by decide +kernel) rfl rfl rfl) ?_
  refine gm_sz (fw_gr (pc := 13) (ix := 14) (ci := 7) (j := 0) (r := 214) (by decide +kernel) (e0k hE (k := 213) (c := 7) (by decide +kernel)) (by decide +kernel) (by decide +kernel) (e0r hE (k := 213) (j := 0) (r := 214) (by decide +kernel))) ?_
  refine gm_sz (fw_gi (pc := 16) (ix := 31) (ci := 8) (j := 6) (x := (tx_k (M 2) e0 (tx_g (M 2) e0 0))) (by decide +kernel) (e0k hE (k := 214) (c := 8) (by decide +kernel)) (by decide +kernel) (by decide +kernel) hv9.2.2.2.2.2.1) ?_
  refine gm_sz (gm_p_const (pc := 19) (i := .sipush 256) (v := gm_vi 256) (by decide +kernel) (by decide +kernel)) ?_
  refine fw_ic (cc := .ne) (pc := 22) (off := 5) (by decide +kernel) (by decide) ⟨by omega, by omega⟩ ⟨by decide, by decide⟩ (fun h22 => ?_) (fun h22 => ?_)
  · have h22 : ¬ (tx_k (M 2) e0 (tx_g (M 2) e0 0)) = 256 := h22
    refine gm_sz (gm_p_const (pc := 27) (i := .iconst 0) (v := gm_vi 0) (by decide +kernel) (by decide +kernel)) ?_
    refine gm_sz (gm_p_stor (pc := 28) (i := .istore_n 2) (sr := 0) (j := 2) (by decide +kernel) rfl (show 3 ≤ _ from Nat.le_of_ble_eq_true rfl) rfl) ?_
    have ev : v_val (M 2) e0 N = v_txt (M 2) e0 14 N (tx_g (M 2) e0 0) := tif_f h22
    rw [ev] at q1 q0
    exact vy_72l (by omega) hE hF e0 14 0 _ N _ rfl (Int.le_refl _) (cst_fr (W := [(214, some 2), (214, some 3), (214, some 4), (214, some 5), (214, some 6), (214, some 7)]) hC (fr_t fr_0 hf9 (by decide)) (by decide +kernel)) hv9 hb ((cs_frd hf9 (by decide)).trans (hT)) hG (fun M2 k1 k2 k4 k5 => q1 M2 (fr_t (fr_t fr_0 hf9 (by decide)) k1 (by decide)) k2 k4 k5) (fun M2 k1 k2 k5 => q0 M2 (fr_t (fr_t fr_0 hf9 (by decide)) k1 (by decide)) k2 k5)
  · have h22 : (tx_k (M 2) e0 (tx_g (M 2) e0 0)) = 256 := Classical.not_not.mp h22
    refine gm_sz (gm_p_const (pc := 25) (i := .iconst (-1)) (v := gm_vi (-1)) (by decide +kernel) (by decide +kernel)) ?_
    have ev : v_val (M 2) e0 N = (true, tx_g (M 2) e0 0, N) := tif_t h22
    rw [ev] at q1
    exact gm_r_int (pc := 26) (by decide +kernel) (Or.inl (by decide +kernel)) (q1 _ (fr_t fr_0 hf9 (by decide)) (cst_fr (W := [(214, some 2), (214, some 3), (214, some 4), (214, some 5), (214, some 6), (214, some 7)]) hC (fr_t fr_0 hf9 (by decide)) (by decide +kernel)) ((cs_frd hf9 (by decide)).trans (hT)) rfl)
end V4A
