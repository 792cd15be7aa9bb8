/-! THE REFERENCE'S readAll OF A VALLEY and valley(), whole (laid by wip/core/v6.py). -/
section V6A
variable {X : Int → Int} {LX d bc bs n : Nat} {K : gm_K} {R : gm_R} {M : gm_M} {Q : gm_Q} {f : Int → Int} {e y : Int} {N h : Int → Int}
theorem rv_244 (hE : E0 n K R) (he : M 226 8 = e) (hq : Q (.inl none) n K R (gm_uM (gm_uM (gm_uM (gm_uM M 226 0 0) 226 10 e) 226 8 0) 226 9 0)) : gm_Wp X LX d bc bs 244 0 (gm_ent 244 [gm_vr 226]) [] n K R M Q := by
  refine gm_sz (gm_p_load (pc := 0) (i := .aload_n 0) (sr := 2) (j := 0) (by decide +kernel) rfl rfl rfl) ?_
  refine gm_sz (gm_p_const (pc := 1) (i := .iconst 0) (v := gm_vi 0) (by decide +kernel) (by decide +kernel)) ?_
  refine gm_sz (fw_pi (pc := 2) (ix := 3) (ci := 11) (j := 0) (M' := gm_uM M 226 0 0) (by decide +kernel) (e0k hE (k := 226) (c := 11) (by decide +kernel)) (by decide +kernel) (by decide +kernel) (by decide +kernel) rfl) ?_
  refine gm_sz (gm_p_load (pc := 5) (i := .aload_n 0) (sr := 2) (j := 0) (by decide +kernel) rfl rfl rfl) ?_
  refine gm_sz (gm_p_load (pc := 6) (i := .aload_n 0) (sr := 2) (j := 0) (by decide +kernel) rfl rfl rfl) ?_
  refine gm_sz (fw_gi (pc := 7) (ix := 103) (ci := 11) (j := 8) (x := e) (by decide +kernel) (e0k hE (k := 226) (c := 11) (by decide +kernel)) (by decide +kernel) (by decide +kernel) ((uM_ne (by omega)).trans he)) ?_
  refine gm_sz (fw_pi (pc := 10) (ix := 109) (ci := 11) (j := 10) (M' := gm_uM (gm_uM M 226 0 0) 226 10 e) (by decide +kernel) (e0k hE (k := 226) (c := 11) (by decide +kernel)) (by decide +kernel) (by decide +kernel) (by decide +kernel) rfl) ?_
  refine gm_sz (gm_p_load (pc := 13) (i := .aload_n 0) (sr := 2) (j := 0) (by decide +kernel) rfl rfl rfl) ?_
  refine gm_sz (gm_p_const (pc := 14) (i := .iconst 0) (v := gm_vi 0) (by decide +kernel) (by decide +kernel)) ?_
  refine gm_sz (fw_pi (pc := 15) (ix := 103) (ci := 11) (j := 8) (M' := gm_uM (gm_uM (gm_uM M 226 0 0) 226 10 e) 226 8 0) (by decide +kernel) (e0k hE (k := 226) (c := 11) (by decide +kernel)) (by decide +kernel) (by decide +kernel) (by decide +kernel) rfl) ?_
  refine gm_sz (gm_p_load (pc := 18) (i := .aload_n 0) (sr := 2) (j := 0) (by decide +kernel) rfl rfl rfl) ?_
  refine gm_sz (gm_p_const (pc := 19) (i := .iconst 0) (v := gm_vi 0) (by decide +kernel) (by decide +kernel)) ?_
  refine gm_sz (fw_pi (pc := 20) (ix := 106) (ci := 11) (j := 9) (M' := gm_uM (gm_uM (gm_uM (gm_uM M 226 0 0) 226 10 e) 226 8 0) 226 9 0) (by decide +kernel) (e0k hE (k := 226) (c := 11) (by decide +kernel)) (by decide +kernel) (by decide +kernel) (by decide +kernel) rfl) ?_
  exact gm_r_void (pc := 23) (by decide +kernel) (by decide +kernel) hq
theorem rv_243 (hd : 12 ≤ d) (hE : E0 n K R) (hF : VF f e) (hf : M 231 = f) (he : M 226 8 = e) (hT : TR N h M) (hG : GI N) (q1 : ∀ (k : Int) M2, 0 ≤ k → k ≤ 14 → fr [(226, some 0), (226, some 10), (226, some 8), (226, some 15), (226, some 9), (226, some 11), (227, none)] M M2 → TR (v_val f e N).2.2 h M2 → BW M M2 → (v_val f e N).1 = true → M2 226 8 = 0 → M2 226 0 = 0 → Q (.inl (some (gm_vi k))) n K R M2) (q0 : ∀ M2, fr [(226, some 0), (226, some 10), (226, some 8), (226, some 15), (226, some 9), (226, some 11), (227, none)] M M2 → M2 226 11 = (v_val f e N).2.1 → ¬ (v_val f e N).1 = true → M2 226 8 = 0 → M2 226 0 = 0 → Q (.inl (some (gm_vi (-1)))) n K R M2) : gm_Wp X LX d bc bs 243 0 (gm_ent 243 [gm_vr 226, gm_vi 1]) [] n K R M Q := by
  have he9 := hF.1
  obtain ⟨g1, g2, -⟩ := tx_gb (f := f) hF.1.1
  have hp0 : (0 : Int) ≤ 0 ∧ 0 ≤ e := ⟨Int.le_refl _, hF.1.1⟩
  have hb : 0 ≤ (tx_g f e 0) ∧ (tx_g f e 0) ≤ e := ⟨g1, g2⟩
  have hgg : tx_g f e (tx_g f e 0) = (tx_g f e 0) := tx_gi hF.1.1
  refine gm_sz (gm_p_load (pc := 0) (i := .aload_n 0) (sr := 2) (j := 0) (by decide +kernel) rfl rfl rfl) ?_
  refine gm_c_virt (k := 226) (ci := 11) (mj := 244) (ix := 289) (pc := 1) (as := []) (st := []) (d' := d - 1) (bc' := 0) (bs' := 0) (by decide +kernel) (by decide +kernel) (by decide +kernel) (by decide +kernel) (e0k hE (k := 226) (c := 11) (by decide +kernel)).1 (e0k hE (k := 226) (c := 11) (by decide +kernel)).2 (by decide) (by decide +kernel) (show 0 = gm_na 244 by decide +kernel) fw_c0 (show 1 ≤ gm_ml 244 by decide +kernel) (Nat.le_of_ble_eq_true rfl) (by omega) (Nat.zero_le _) (Nat.zero_le _) ?_
  refine rv_244 hE he ?_
  show gm_Wp X LX d _ _ 243 4 _ [] n K _ _ Q
  refine gm_sz (gm_p_load (pc := 4) (i := .aload_n 0) (sr := 2) (j := 0) (by decide +kernel) rfl rfl rfl) ?_
  refine gm_sz (gm_p_const (pc := 5) (i := .iconst 0) (v := gm_vi 0) (by decide +kernel) (by decide +kernel)) ?_
  refine gm_sz (fw_pi (pc := 6) (ix := 224) (ci := 11) (j := 15) (M' := gm_uM (gm_uM (gm_uM (gm_uM (gm_uM M 226 0 0) 226 10 e) 226 8 0) 226 9 0) 226 15 0) (by decide +kernel) (e0k hE (k := 226) (c := 11) (by decide +kernel)) (by decide +kernel) (by decide +kernel) (by decide +kernel) rfl) ?_
  have hR0 : RW f e 0 (gm_uM (gm_uM (gm_uM (gm_uM (gm_uM M 226 0 0) 226 10 e) 226 8 0) 226 9 0) 226 15 0) := ⟨(funext fun j => (uM_ne (by omega)).trans ((uM_ne (by omega)).trans ((uM_ne (by omega)).trans ((uM_ne (by omega)).trans (uM_ne (by omega)))))).trans hf, (uM_ne (by omega)).trans ((uM_ne (by omega)).trans ((uM_ne (by omega)).trans (uM_at))), (uM_ne (by omega)).trans (uM_at)⟩
  refine gm_sz (gm_p_load (pc := 9) (i := .aload_n 0) (sr := 2) (j := 0) (by decide +kernel) rfl rfl rfl) ?_
  refine gm_c_virt (k := 226) (ci := 11) (mj := 245) (ix := 119) (pc := 10) (as := []) (st := []) (d' := d - 1) (bc' := 0) (bs' := 0) (by decide +kernel) (by decide +kernel) (by decide +kernel) (by decide +kernel) (e0k hE (k := 226) (c := 11) (by decide +kernel)).1 (e0k hE (k := 226) (c := 11) (by decide +kernel)).2 (by decide) (by decide +kernel) (show 0 = gm_na 245 by decide +kernel) fw_c0 (show 1 ≤ gm_ml 245 by decide +kernel) (Nat.le_of_ble_eq_true rfl) (by omega) (Nat.zero_le _) (Nat.zero_le _) ?_
  refine rv_245 (by omega) hE hF hR0 hp0 rfl hb (fun M10 hf10 hr10 h11 => ?_)
  show gm_Wp X LX d _ _ 243 13 _ [] n K _ _ Q
  refine gm_sz (gm_p_load (pc := 13) (i := .aload_n 0) (sr := 2) (j := 0) (by decide +kernel) rfl rfl rfl) ?_
  refine gm_sz (fw_gi (pc := 14) (ix := 106) (ci := 11) (j := 9) (x := (tx_g f e 0)) (by decide +kernel) (e0k hE (k := 226) (c := 11) (by decide +kernel)) (by decide +kernel) (by decide +kernel) hr10.2.2) ?_
  refine gm_sz (gm_p_load (pc := 17) (i := .aload_n 0) (sr := 2) (j := 0) (by decide +kernel) rfl rfl rfl) ?_
  refine gm_sz (fw_gi (pc := 18) (ix := 109) (ci := 11) (j := 10) (x := e) (by decide +kernel) (e0k hE (k := 226) (c := 11) (by decide +kernel)) (by decide +kernel) (by decide +kernel) hr10.2.1) ?_
  refine fw_ic (cc := .ne) (pc := 21) (off := 5) (by decide +kernel) (by decide) ⟨by omega, by omega⟩ ⟨by omega, by omega⟩ (fun h21 => ?_) (fun h21 => ?_)
  · have h21 : ¬ (tx_g f e 0) = e := h21
    refine gm_sz (gm_p_const (pc := 26) (i := .iconst 0) (v := gm_vi 0) (by decide +kernel) (by decide +kernel)) ?_
    refine gm_sz (gm_p_stor (pc := 27) (i := .istore_n 2) (sr := 0) (j := 2) (by decide +kernel) rfl (show 3 ≤ _ from Nat.le_of_ble_eq_true rfl) rfl) ?_
    have z8 : M10 226 8 = 0 := ((fr_j hf10 (by decide)).trans ((uM_ne (by omega)).trans ((uM_ne (by omega)).trans uM_at)))
    have z0 : M10 226 0 = 0 := ((fr_j hf10 (by decide)).trans ((uM_ne (by omega)).trans ((uM_ne (by omega)).trans ((uM_ne (by omega)).trans ((uM_ne (by omega)).trans uM_at)))))
    have n9 : ¬ tx_k f e (tx_g f e 0) = 256 := fun hh => by have := tx_kne2 (f := f) hh; omega
    have ev : v_val f e N = v_txt f e 14 N (tx_g f e 0) := tif_f n9
    rw [ev] at q1 q0
    have bw : BW M M10 := ⟨fun j hj => ((fr_c hf10 (by decide)).trans ((uM_ne (by omega)).trans ((uM_ne (by omega)).trans ((uM_ne (by omega)).trans ((uM_ne (by omega)).trans (uM_ne (by omega))))))), ((fr_c hf10 (by decide)).trans ((uM_ne (by omega)).trans ((uM_ne (by omega)).trans ((uM_ne (by omega)).trans ((uM_ne (by omega)).trans (uM_ne (by omega)))))))⟩
    exact rv_243l (by omega) hE hF 14 0 (tx_g f e 0) (tx_g f e 0) N _ rfl (Int.le_refl _) hr10 hb hgg hb (tr_fr (W := [(226, some 0), (226, some 10), (226, some 8), (226, some 9), (226, some 15), (226, some 11)]) hT (fr_t (fr_p (fr_p (fr_p (fr_p (fr_p fr_0 (Or.inr (by decide))) (Or.inr (by decide))) (Or.inr (by decide))) (Or.inr (by decide))) (Or.inr (by decide))) hf10 (by decide)) (by decide)) hG (fun k M2 a1 a2 a3 a4 a5 a6 => q1 k M2 a1 a2 (fr_t (fr_t (fr_p (fr_p (fr_p (fr_p (fr_p fr_0 (Or.inr (by decide))) (Or.inr (by decide))) (Or.inr (by decide))) (Or.inr (by decide))) (Or.inr (by decide))) hf10 (by decide)) a3 (by decide)) a4 (bw_t bw a5) a6 ((fr_j a3 (by decide)).trans z8) ((fr_j a3 (by decide)).trans z0)) (fun M2 a1 a2 a3 => q0 M2 (fr_t (fr_t (fr_p (fr_p (fr_p (fr_p (fr_p fr_0 (Or.inr (by decide))) (Or.inr (by decide))) (Or.inr (by decide))) (Or.inr (by decide))) (Or.inr (by decide))) hf10 (by decide)) a1 (by decide)) a2 a3 ((fr_j a1 (by decide)).trans z8) ((fr_j a1 (by decide)).trans z0))
  · have h21 : (tx_g f e 0) = e := Classical.not_not.mp h21
    refine gm_sz (gm_p_const (pc := 24) (i := .iconst 0) (v := gm_vi 0) (by decide +kernel) (by decide +kernel)) ?_
    have z8 : M10 226 8 = 0 := ((fr_j hf10 (by decide)).trans ((uM_ne (by omega)).trans ((uM_ne (by omega)).trans uM_at)))
    have z0 : M10 226 0 = 0 := ((fr_j hf10 (by decide)).trans ((uM_ne (by omega)).trans ((uM_ne (by omega)).trans ((uM_ne (by omega)).trans ((uM_ne (by omega)).trans uM_at)))))
    have n9 : tx_k f e (tx_g f e 0) = 256 := (tx_k0 (f := f) (m := 0) (by omega)).1
    have ev : v_val f e N = (true, (tx_g f e 0), N) := tif_t n9
    rw [ev] at q1
    exact gm_r_int (pc := 25) (by decide +kernel) (Or.inl (by decide +kernel)) (q1 0 _ (Int.le_refl _) (by decide) (fr_t (fr_p (fr_p (fr_p (fr_p (fr_p fr_0 (Or.inr (by decide))) (Or.inr (by decide))) (Or.inr (by decide))) (Or.inr (by decide))) (Or.inr (by decide))) hf10 (by decide)) (tr_fr (W := [(226, some 0), (226, some 10), (226, some 8), (226, some 9), (226, some 15), (226, some 11)]) hT (fr_t (fr_p (fr_p (fr_p (fr_p (fr_p fr_0 (Or.inr (by decide))) (Or.inr (by decide))) (Or.inr (by decide))) (Or.inr (by decide))) (Or.inr (by decide))) hf10 (by decide)) (by decide)) ⟨fun j hj => ((fr_c hf10 (by decide)).trans ((uM_ne (by omega)).trans ((uM_ne (by omega)).trans ((uM_ne (by omega)).trans ((uM_ne (by omega)).trans (uM_ne (by omega))))))), ((fr_c hf10 (by decide)).trans ((uM_ne (by omega)).trans ((uM_ne (by omega)).trans ((uM_ne (by omega)).trans ((uM_ne (by omega)).trans (uM_ne (by omega)))))))⟩ rfl z8 z0)
theorem cp_242a (hE : E0 n K R) (hq : gm_Wp X LX d bc bs 242 27 [some (gm_vr 226), some (gm_vi 1244), none] [] n K R (cpk M 227 229 0 0 1244) Q) : ∀ (u : Nat) (k : Int), k + (u : Int) = 1244 → 0 ≤ k → gm_Wp X LX d bc bs 242 2 [some (gm_vr 226), some (gm_vi k), none] [] n K R (cpk M 227 229 0 0 k) Q := by
  intro u
  induction u with
  | zero =>
    intro k hk k0
    have ek : k = 1244 := by omega
    subst ek
    refine gm_sz (gm_p_load (pc := 2) (i := .iload_n 1) (sr := 0) (j := 1) (by decide +kernel) rfl rfl rfl) ?_
    refine gm_sz (gm_p_const (pc := 3) (i := .sipush 1244) (v := gm_vi 1244) (by decide +kernel) (by decide +kernel)) ?_
    refine fw_ictd (cc := .ge) (pc := 6) (off := 21) (by decide +kernel) (by decide) ⟨by decide, by decide⟩ ⟨by decide, by decide⟩ (by decide) ?_
    exact hq
  | succ u ih =>
    intro k hk k0
    refine gm_sz (gm_p_load (pc := 2) (i := .iload_n 1) (sr := 0) (j := 1) (by decide +kernel) rfl rfl rfl) ?_
    refine gm_sz (gm_p_const (pc := 3) (i := .sipush 1244) (v := gm_vi 1244) (by decide +kernel) (by decide +kernel)) ?_
    refine fw_icf (cc := .ge) (pc := 6) (off := 21) (by decide +kernel) (by decide) ⟨by omega, by omega⟩ ⟨by decide, by decide⟩ (show ¬ 1244 ≤ k by omega) ?_
    refine gm_sz (gm_p_load (pc := 9) (i := .aload_n 0) (sr := 2) (j := 0) (by decide +kernel) rfl rfl rfl) ?_
    refine gm_sz (fw_gr (pc := 10) (ix := 20) (ci := 11) (j := 3) (r := 229) (by decide +kernel) (e0k hE (k := 226) (c := 11) (by decide +kernel)) (by decide +kernel) (by decide +kernel) (e0r hE (k := 226) (j := 3) (r := 229) (by decide +kernel))) ?_
    refine gm_sz (gm_p_load (pc := 13) (i := .iload_n 1) (sr := 0) (j := 1) (by decide +kernel) rfl rfl rfl) ?_
    refine gm_sz (gm_p_load (pc := 14) (i := .aload_n 0) (sr := 2) (j := 0) (by decide +kernel) rfl rfl rfl) ?_
    refine gm_sz (fw_gr (pc := 15) (ix := 13) (ci := 11) (j := 1) (r := 227) (by decide +kernel) (e0k hE (k := 226) (c := 11) (by decide +kernel)) (by decide +kernel) (by decide +kernel) (e0r hE (k := 226) (j := 1) (r := 227) (by decide +kernel))) ?_
    refine gm_sz (gm_p_load (pc := 18) (i := .iload_n 1) (sr := 0) (j := 1) (by decide +kernel) rfl rfl rfl) ?_
    refine gm_sz (fw_ia (pc := 19) (k := 227) (len := 2093) (e0 := k) (x := M 227 k) (by decide +kernel) (e0a hE (k := 227) (q := (0, 2093)) (by decide +kernel)).1 (e0a hE (k := 227) (q := (0, 2093)) (by decide +kernel)).2 (by decide) ⟨by omega, by omega⟩ (cpk_o (by omega))) ?_
    refine gm_sz (fw_is (pc := 20) (k := 229) (len := 1244) (e0 := k) (x := M 227 k) (M' := cpk M 227 229 0 0 (k + 1)) (by decide +kernel) (e0a hE (k := 229) (q := (0, 1244)) (by decide +kernel)).1 (e0a hE (k := 229) (q := (0, 1244)) (by decide +kernel)).2 (by decide) ⟨by omega, by omega⟩ (cpk_s k0 (by omega) (congrArg (M 227) (by omega)))) ?_
    refine gm_sz (gm_p_iinc (pc := 21) (j := 1) (z := 1) (by decide +kernel) rfl) ?_
    refine gm_sz (gm_p_goto (pc := 24) (off := (-22)) (by decide +kernel) (by decide)) ?_
    exact ih (k + 1) (by omega) (by omega)
theorem cp_242az (hE : E0 n K R) (hq : gm_Wp X LX d bc bs 242 27 [some (gm_vr 226), some (gm_vi 1244), none] [] n K R (cpk M 227 229 0 0 1244) Q) : gm_Wp X LX d bc bs 242 2 [some (gm_vr 226), some (gm_vi 0), none] [] n K R M Q := by
  have h9 := cp_242a hE  hq 1244 0 (by omega) (Int.le_refl _)
  rw [cpk_0] at h9
  exact h9
theorem cp_242b (hE : E0 n K R) (hq : gm_Wp X LX d bc bs 242 118 [some (gm_vr 226), some (gm_vi y), some (gm_vi 1244)] [] n K R (cpk M 229 227 0 0 1244) Q) : ∀ (u : Nat) (k : Int), k + (u : Int) = 1244 → 0 ≤ k → gm_Wp X LX d bc bs 242 93 [some (gm_vr 226), some (gm_vi y), some (gm_vi k)] [] n K R (cpk M 229 227 0 0 k) Q := by
  intro u
  induction u with
  | zero =>
    intro k hk k0
    have ek : k = 1244 := by omega
    subst ek
    refine gm_sz (gm_p_load (pc := 93) (i := .iload_n 2) (sr := 0) (j := 2) (by decide +kernel) rfl rfl rfl) ?_
    refine gm_sz (gm_p_const (pc := 94) (i := .sipush 1244) (v := gm_vi 1244) (by decide +kernel) (by decide +kernel)) ?_
    refine fw_ictd (cc := .ge) (pc := 97) (off := 21) (by decide +kernel) (by decide) ⟨by decide, by decide⟩ ⟨by decide, by decide⟩ (by decide) ?_
    exact hq
  | succ u ih =>
    intro k hk k0
    refine gm_sz (gm_p_load (pc := 93) (i := .iload_n 2) (sr := 0) (j := 2) (by decide +kernel) rfl rfl rfl) ?_
    refine gm_sz (gm_p_const (pc := 94) (i := .sipush 1244) (v := gm_vi 1244) (by decide +kernel) (by decide +kernel)) ?_
    refine fw_icf (cc := .ge) (pc := 97) (off := 21) (by decide +kernel) (by decide) ⟨by omega, by omega⟩ ⟨by decide, by decide⟩ (show ¬ 1244 ≤ k by omega) ?_
    refine gm_sz (gm_p_load (pc := 100) (i := .aload_n 0) (sr := 2) (j := 0) (by decide +kernel) rfl rfl rfl) ?_
    refine gm_sz (fw_gr (pc := 101) (ix := 13) (ci := 11) (j := 1) (r := 227) (by decide +kernel) (e0k hE (k := 226) (c := 11) (by decide +kernel)) (by decide +kernel) (by decide +kernel) (e0r hE (k := 226) (j := 1) (r := 227) (by decide +kernel))) ?_
    refine gm_sz (gm_p_load (pc := 104) (i := .iload_n 2) (sr := 0) (j := 2) (by decide +kernel) rfl rfl rfl) ?_
    refine gm_sz (gm_p_load (pc := 105) (i := .aload_n 0) (sr := 2) (j := 0) (by decide +kernel) rfl rfl rfl) ?_
    refine gm_sz (fw_gr (pc := 106) (ix := 20) (ci := 11) (j := 3) (r := 229) (by decide +kernel) (e0k hE (k := 226) (c := 11) (by decide +kernel)) (by decide +kernel) (by decide +kernel) (e0r hE (k := 226) (j := 3) (r := 229) (by decide +kernel))) ?_
    refine gm_sz (gm_p_load (pc := 109) (i := .iload_n 2) (sr := 0) (j := 2) (by decide +kernel) rfl rfl rfl) ?_
    refine gm_sz (fw_ia (pc := 110) (k := 229) (len := 1244) (e0 := k) (x := M 229 k) (by decide +kernel) (e0a hE (k := 229) (q := (0, 1244)) (by decide +kernel)).1 (e0a hE (k := 229) (q := (0, 1244)) (by decide +kernel)).2 (by decide) ⟨by omega, by omega⟩ (cpk_o (by omega))) ?_
    refine gm_sz (fw_is (pc := 111) (k := 227) (len := 2093) (e0 := k) (x := M 229 k) (M' := cpk M 229 227 0 0 (k + 1)) (by decide +kernel) (e0a hE (k := 227) (q := (0, 2093)) (by decide +kernel)).1 (e0a hE (k := 227) (q := (0, 2093)) (by decide +kernel)).2 (by decide) ⟨by omega, by omega⟩ (cpk_s k0 (by omega) (congrArg (M 229) (by omega)))) ?_
    refine gm_sz (gm_p_iinc (pc := 112) (j := 2) (z := 1) (by decide +kernel) rfl) ?_
    refine gm_sz (gm_p_goto (pc := 115) (off := (-22)) (by decide +kernel) (by decide)) ?_
    exact ih (k + 1) (by omega) (by omega)
theorem cp_242bz (hE : E0 n K R) (hq : gm_Wp X LX d bc bs 242 118 [some (gm_vr 226), some (gm_vi y), some (gm_vi 1244)] [] n K R (cpk M 229 227 0 0 1244) Q) : gm_Wp X LX d bc bs 242 93 [some (gm_vr 226), some (gm_vi y), some (gm_vi 0)] [] n K R M Q := by
  have h9 := cp_242b hE  hq 1244 0 (by omega) (Int.le_refl _)
  rw [cpk_0] at h9
  exact h9
theorem rv_242 (hd : 14 ≤ d) (hE : E0 n K R) (hF : VF f e) (hf : M 231 = f) (he : M 226 8 = e) (hT : TR N h M) (hG : GI N) (q0 : ∀ M2, fr [(229, none), (226, some 13), (226, some 0), (226, some 10), (226, some 8), (226, some 15), (226, some 9), (226, some 11), (227, none)] M M2 → (∀ j, 0 ≤ j → j < 1244 → M2 227 j = M 227 j) → ¬ (v_val f e N).1 = true → M2 226 13 = (v_val f e N).2.1 → M2 226 8 = 0 → M2 226 0 = 1 → Q (.inl (some (gm_vi 0))) n K R M2) (q1 : ∀ M2, fr [(229, none), (226, some 13), (226, some 0), (226, some 10), (226, some 8), (226, some 15), (226, some 9), (226, some 11), (227, none)] M M2 → (∀ j, 0 ≤ j → j < 1244 → M2 227 j = M 227 j) → (v_val f e N).1 = true → N 7 = 12 → M2 226 13 = -1 → M2 226 8 = 0 → M2 226 0 = 2 → Q (.inl (some (gm_vi 0))) n K R M2) (hq : ∀ M2, fr [(234, none), (226, some 26), (226, some 6), (229, none), (226, some 13), (226, some 0), (226, some 10), (226, some 8), (226, some 15), (226, some 9), (226, some 11), (227, none)] M M2 → (v_val f e N).1 = true → N 7 < 12 → GI (nup (v_val f e N).2.2 7 (N 7 + 1)) → TR (nup (v_val f e N).2.2 7 (N 7 + 1)) (hts ((nup (v_val f e N).2.2 7 (N 7 + 1)) 13)) M2 → BW M M2 → M2 226 13 = -1 → M2 226 8 = 0 → M2 226 0 = 0 → M2 226 6 = 0 → M2 226 26 = -1 → Q (.inl (some (gm_vi (N 7 + 1)))) n K R M2) : gm_Wp X LX d bc bs 242 0 (gm_ent 242 [gm_vr 226]) [] n K R M Q := by
  have he9 := hF.1
  have b7 := hG.1.2.1.2.2.2.2.2.2.1
  have hvb := v_val_b (f := f) (e := e) (N := N) hF.1.1
  have v7 : (v_val f e N).2.2 7 = N 7 := v_val_o hG hF.1.1 (Or.inl rfl)
  have hVG : (v_val f e N).1 = true → GI (v_val f e N).2.2 := fun h => v_val_g hG hF.1.1 h
  have hT1 : TR N h (cpk M 227 229 0 0 1244) := tr_fr (W := [(229, none)]) hT cpk_fr (by decide)
  have hf1 : cpk M 227 229 0 0 1244 231 = f := (funext fun j => cpk_o (by omega)).trans hf
  have he1 : cpk M 227 229 0 0 1244 226 8 = e := (cpk_o (by omega)).trans he
  refine gm_sz (gm_p_const (pc := 0) (i := .iconst 0) (v := gm_vi 0) (by decide +kernel) (by decide +kernel)) ?_
  refine gm_sz (gm_p_stor (pc := 1) (i := .istore_n 1) (sr := 0) (j := 1) (by decide +kernel) rfl (show 2 ≤ _ from Nat.le_of_ble_eq_true rfl) rfl) ?_
  refine cp_242az (M := M) (Q := Q) hE ?_
  refine gm_sz (gm_p_load (pc := 27) (i := .aload_n 0) (sr := 2) (j := 0) (by decide +kernel) rfl rfl rfl) ?_
  refine gm_sz (gm_p_const (pc := 28) (i := .iconst 1) (v := gm_vi 1) (by decide +kernel) (by decide +kernel)) ?_
  refine gm_c_virt (k := 226) (ci := 11) (mj := 243) (ix := 296) (pc := 29) (as := [gm_vi 1]) (st := []) (d' := d - 1) (bc' := 0) (bs' := 0) (by decide +kernel) (by decide +kernel) (by decide +kernel) (by decide +kernel) (e0k hE (k := 226) (c := 11) (by decide +kernel)).1 (e0k hE (k := 226) (c := 11) (by decide +kernel)).2 (by decide) (by decide +kernel) (show 1 = gm_na 243 by decide +kernel) (fw_c1 fw_si) (show 2 ≤ gm_ml 243 by decide +kernel) (Nat.le_of_ble_eq_true rfl) (by omega) (Nat.zero_le _) (Nat.zero_le _) ?_
  refine rv_243 (by omega) hE hF hf1 he1 hT1 hG (fun k9 M29 a1 a2 hf29 ht29 bw29 hv29 z8 z0 => ?_) (fun M29 hf29 z11 hv29 z8 z0 => ?_)
  · show gm_Wp X LX d _ _ 242 32 _ [gm_vi k9] n K _ _ Q
    refine gm_sz (gm_p_stor (pc := 32) (i := .istore_n 1) (sr := 0) (j := 1) (by decide +kernel) rfl (show 2 ≤ _ from Nat.le_of_ble_eq_true rfl) rfl) ?_
    refine gm_sz (gm_p_load (pc := 33) (i := .aload_n 0) (sr := 2) (j := 0) (by decide +kernel) rfl rfl rfl) ?_
    refine gm_sz (gm_p_load (pc := 34) (i := .iload_n 1) (sr := 0) (j := 1) (by decide +kernel) rfl rfl rfl) ?_
    refine fw_if (cc := .ge) (pc := 35) (off := 10) (by decide +kernel) (by decide) ⟨by omega, by omega⟩ (fun h35 => ?_) (fun h35 => ?_)
    · have h35 : 0 ≤ k9 := h35
      refine gm_sz (gm_p_const (pc := 45) (i := .iconst (-1)) (v := gm_vi (-1)) (by decide +kernel) (by decide +kernel)) ?_
      refine gm_sz (fw_pi (pc := 46) (ix := 30) (ci := 11) (j := 13) (M' := gm_uM M29 226 13 (-1)) (by decide +kernel) (e0k hE (k := 226) (c := 11) (by decide +kernel)) (by decide +kernel) (by decide +kernel) (by decide +kernel) rfl) ?_
      refine gm_sz (gm_p_load (pc := 49) (i := .aload_n 0) (sr := 2) (j := 0) (by decide +kernel) rfl rfl rfl) ?_
      refine gm_sz (gm_p_load (pc := 50) (i := .iload_n 1) (sr := 0) (j := 1) (by decide +kernel) rfl rfl rfl) ?_
      refine fw_if (cc := .ge) (pc := 51) (off := 7) (by decide +kernel) (by decide) ⟨by omega, by omega⟩ (fun h51 => ?_) (fun h51 => ?_)
      · have h51 : 0 ≤ k9 := h51
        refine gm_sz (gm_p_const (pc := 58) (i := .iconst 0) (v := gm_vi 0) (by decide +kernel) (by decide +kernel)) ?_
        refine gm_sz (gm_p_const (pc := 59) (i := .iconst 1) (v := gm_vi 1) (by decide +kernel) (by decide +kernel)) ?_
        refine gm_c_virt (k := 226) (ci := 11) (mj := 282) (ix := 300) (pc := 60) (as := [gm_vi 0, gm_vi 1]) (st := []) (d' := d - 1) (bc' := 0) (bs' := 0) (by decide +kernel) (by decide +kernel) (by decide +kernel) (by decide +kernel) (e0k hE (k := 226) (c := 11) (by decide +kernel)).1 (e0k hE (k := 226) (c := 11) (by decide +kernel)).2 (by decide) (by decide +kernel) (show 2 = gm_na 282 by decide +kernel) (fw_c2 fw_si fw_si) (show 3 ≤ gm_ml 282 by decide +kernel) (Nat.le_of_ble_eq_true rfl) (by omega) (Nat.zero_le _) (Nat.zero_le _) ?_
        refine tf_0 hE ?_
        show gm_Wp X LX d _ _ 242 63 _ [gm_vi 0] n K _ _ Q
        refine fw_iffd (cc := .ne) (pc := 63) (off := 28) (by decide +kernel) (by decide) ⟨by decide, by decide⟩ (by decide) ?_
        refine gm_sz (gm_p_load (pc := 66) (i := .aload_n 0) (sr := 2) (j := 0) (by decide +kernel) rfl rfl rfl) ?_
        refine gm_sz (gm_p_load (pc := 67) (i := .aload_n 0) (sr := 2) (j := 0) (by decide +kernel) rfl rfl rfl) ?_
        refine gm_sz (fw_gr (pc := 68) (ix := 13) (ci := 11) (j := 1) (r := 227) (by decide +kernel) (e0k hE (k := 226) (c := 11) (by decide +kernel)) (by decide +kernel) (by decide +kernel) (e0r hE (k := 226) (j := 1) (r := 227) (by decide +kernel))) ?_
        refine gm_sz (gm_p_const (pc := 71) (i := .bipush 7) (v := gm_vi 7) (by decide +kernel) (by decide +kernel)) ?_
        refine gm_sz (fw_ia (pc := 73) (k := 227) (len := 2093) (e0 := 7) (x := N 7) (by decide +kernel) (e0a hE (k := 227) (q := (0, 2093)) (by decide +kernel)).1 (e0a hE (k := 227) (q := (0, 2093)) (by decide +kernel)).2 (by decide) ⟨by omega, by omega⟩ ((uM_ne (by omega)).trans ((tr_w ht29 (by decide) (by decide) (by decide)).trans v7))) ?_
        refine gm_sz (gm_p_const (pc := 74) (i := .bipush 12) (v := gm_vi 12) (by decide +kernel) (by decide +kernel)) ?_
        refine fw_ic (cc := .ne) (pc := 76) (off := 7) (by decide +kernel) (by decide) ⟨by omega, by omega⟩ ⟨by decide, by decide⟩ (fun h76 => ?_) (fun h76 => ?_)
        · have h76 : ¬ (N 7) = 12 := h76
          refine gm_sz (gm_p_const (pc := 83) (i := .iconst 0) (v := gm_vi 0) (by decide +kernel) (by decide +kernel)) ?_
          refine gm_sz (gm_p_const (pc := 84) (i := .iconst 2) (v := gm_vi 2) (by decide +kernel) (by decide +kernel)) ?_
          refine gm_c_virt (k := 226) (ci := 11) (mj := 282) (ix := 300) (pc := 85) (as := [gm_vi 0, gm_vi 2]) (st := []) (d' := d - 1) (bc' := 0) (bs' := 0) (by decide +kernel) (by decide +kernel) (by decide +kernel) (by decide +kernel) (e0k hE (k := 226) (c := 11) (by decide +kernel)).1 (e0k hE (k := 226) (c := 11) (by decide +kernel)).2 (by decide) (by decide +kernel) (show 2 = gm_na 282 by decide +kernel) (fw_c2 fw_si fw_si) (show 3 ≤ gm_ml 282 by decide +kernel) (Nat.le_of_ble_eq_true rfl) (by omega) (Nat.zero_le _) (Nat.zero_le _) ?_
          refine tf_0 hE ?_
          show gm_Wp X LX d _ _ 242 88 _ [gm_vi 0] n K _ _ Q
          refine fw_iftd (cc := .eq) (pc := 88) (off := 32) (by decide +kernel) (by decide) ⟨by decide, by decide⟩ (by decide) ?_
          refine gm_sz (gm_p_load (pc := 120) (i := .aload_n 0) (sr := 2) (j := 0) (by decide +kernel) rfl rfl rfl) ?_
          refine gm_sz (fw_gr (pc := 121) (ix := 13) (ci := 11) (j := 1) (r := 227) (by decide +kernel) (e0k hE (k := 226) (c := 11) (by decide +kernel)) (by decide +kernel) (by decide +kernel) (e0r hE (k := 226) (j := 1) (r := 227) (by decide +kernel))) ?_
          refine gm_sz (gm_p_const (pc := 124) (i := .bipush 7) (v := gm_vi 7) (by decide +kernel) (by decide +kernel)) ?_
          refine gm_sz (gm_p_dup2 (pc := 126) (by decide +kernel) fw_si fw_sr) ?_
          refine gm_sz (fw_ia (pc := 127) (k := 227) (len := 2093) (e0 := 7) (x := N 7) (by decide +kernel) (e0a hE (k := 227) (q := (0, 2093)) (by decide +kernel)).1 (e0a hE (k := 227) (q := (0, 2093)) (by decide +kernel)).2 (by decide) ⟨by omega, by omega⟩ ((uM_ne (by omega)).trans ((tr_w ht29 (by decide) (by decide) (by decide)).trans v7))) ?_
          refine gm_sz (gm_p_const (pc := 128) (i := .iconst 1) (v := gm_vi 1) (by decide +kernel) (by decide +kernel)) ?_
          refine gm_sz (gm_p_bin (pc := 129) (i := .iadd) (f := fun x y => x + y) (by decide +kernel) rfl) ?_
          refine gm_sz (fw_is (pc := 130) (k := 227) (len := 2093) (e0 := 7) (x := (N 7) + 1) (M' := gm_uM (gm_uM M29 226 13 (-1)) 227 7 ((N 7) + 1)) (by decide +kernel) (e0a hE (k := 227) (q := (0, 2093)) (by decide +kernel)).1 (e0a hE (k := 227) (q := (0, 2093)) (by decide +kernel)).2 (by decide) ⟨by omega, by omega⟩ rfl) ?_
          refine gm_sz (gm_p_load (pc := 131) (i := .aload_n 0) (sr := 2) (j := 0) (by decide +kernel) rfl rfl rfl) ?_
          refine gm_sz (gm_p_const (pc := 132) (i := .iconst 0) (v := gm_vi 0) (by decide +kernel) (by decide +kernel)) ?_
          refine gm_sz (fw_pi (pc := 133) (ix := 79) (ci := 11) (j := 6) (M' := gm_uM (gm_uM (gm_uM M29 226 13 (-1)) 227 7 ((N 7) + 1)) 226 6 0) (by decide +kernel) (e0k hE (k := 226) (c := 11) (by decide +kernel)) (by decide +kernel) (by decide +kernel) (by decide +kernel) rfl) ?_
          have h136 : ws (gm_uM (gm_uM (gm_uM M29 226 13 (-1)) 227 7 ((N 7) + 1)) 226 6 0 227) = (nup (v_val f e N).2.2 7 (N 7 + 1)) := (congrArg ws (funext fun j => uM_ne (by omega))).trans ((ws_um ((congrArg ws (funext fun j => uM_ne (by omega))).trans ht29.1) ⟨by decide, by decide, by decide⟩))
          have g92 : GI (nup (v_val f e N).2.2 7 (N 7 + 1)) := gi_7 (hVG hv29) ⟨by omega, by omega⟩
          refine gm_sz (gm_p_load (pc := 136) (i := .aload_n 0) (sr := 2) (j := 0) (by decide +kernel) rfl rfl rfl) ?_
          refine gm_c_virt (k := 226) (ci := 11) (mj := 235) (ix := 72) (pc := 137) (as := []) (st := []) (d' := d - 1) (bc' := 0) (bs' := 0) (by decide +kernel) (by decide +kernel) (by decide +kernel) (by decide +kernel) (e0k hE (k := 226) (c := 11) (by decide +kernel)).1 (e0k hE (k := 226) (c := 11) (by decide +kernel)).2 (by decide) (by decide +kernel) (show 0 = gm_na 235 by decide +kernel) fw_c0 (show 1 ≤ gm_ml 235 by decide +kernel) (Nat.le_of_ble_eq_true rfl) (by omega) (Nat.zero_le _) (Nat.zero_le _) ?_
          refine wa_c235 hE h136 (fun M137 hf137 hh137 h26 => ?_)
          show gm_Wp X LX d _ _ 242 140 _ [] n K _ _ Q
          refine gm_sz (gm_p_load (pc := 140) (i := .aload_n 0) (sr := 2) (j := 0) (by decide +kernel) rfl rfl rfl) ?_
          refine gm_sz (fw_gr (pc := 141) (ix := 13) (ci := 11) (j := 1) (r := 227) (by decide +kernel) (e0k hE (k := 226) (c := 11) (by decide +kernel)) (by decide +kernel) (by decide +kernel) (e0r hE (k := 226) (j := 1) (r := 227) (by decide +kernel))) ?_
          refine gm_sz (gm_p_const (pc := 144) (i := .bipush 7) (v := gm_vi 7) (by decide +kernel) (by decide +kernel)) ?_
          refine gm_sz (fw_ia (pc := 146) (k := 227) (len := 2093) (e0 := 7) (x := (N 7 + 1)) (by decide +kernel) (e0a hE (k := 227) (q := (0, 2093)) (by decide +kernel)).1 (e0a hE (k := 227) (q := (0, 2093)) (by decide +kernel)).2 (by decide) ⟨by omega, by omega⟩ ((fr_c hf137 (by decide)).trans ((uM_ne (by omega)).trans uM_at))) ?_
          have f9 : fr [(234, none), (226, some 26), (226, some 6), (229, none), (226, some 13), (226, some 0), (226, some 10), (226, some 8), (226, some 15), (226, some 9), (226, some 11), (227, none)] (cpk M 227 229 0 0 1244) M137 := (fr_t (fr_p (fr_p (fr_p (fr_t fr_0 hf29 (by decide)) (Or.inr (by decide))) (Or.inl (by decide))) (Or.inr (by decide))) hf137 (by decide))
          have t9 : TR (nup (v_val f e N).2.2 7 (N 7 + 1)) (hts ((nup (v_val f e N).2.2 7 (N 7 + 1)) 13)) M137 := ⟨(congrArg ws (funext fun j => fr_c hf137 (by decide))).trans h136, fun y y0 y1 => ⟨hh137 y y0 y1, hts_b⟩⟩
          have bw9 : BW M M137 := ⟨fun j hj => (fr_c hf137 (by decide)).trans ((uM_ne (by omega)).trans ((uM_ne (by omega)).trans ((uM_ne (by omega)).trans ((bw29.1 j hj).trans (cpk_o (by omega)))))), (fr_c hf137 (by decide)).trans ((uM_ne (by omega)).trans ((uM_ne (by omega)).trans ((uM_ne (by omega)).trans (bw29.2.trans (cpk_o (by omega))))))⟩
          exact gm_r_int (pc := 147) (by decide +kernel) (Or.inl (by decide +kernel)) (hq _ (fr_t (fr_t fr_0 cpk_fr (by decide)) f9 (by decide)) hv29 (by omega) g92 t9 bw9 ((fr_j hf137 (by decide)).trans ((uM_ne (by omega)).trans ((uM_ne (by omega)).trans uM_at))) ((fr_j hf137 (by decide)).trans ((uM_ne (by omega)).trans ((uM_ne (by omega)).trans ((uM_ne (by omega)).trans z8)))) ((fr_j hf137 (by decide)).trans ((uM_ne (by omega)).trans ((uM_ne (by omega)).trans ((uM_ne (by omega)).trans z0)))) ((fr_j hf137 (by decide)).trans uM_at) h26)
        · have h76 : (N 7) = 12 := Classical.not_not.mp h76
          refine gm_sz (gm_p_const (pc := 79) (i := .iconst 1) (v := gm_vi 1) (by decide +kernel) (by decide +kernel)) ?_
          refine gm_sz (gm_p_goto (pc := 80) (off := 4) (by decide +kernel) (by decide)) ?_
          refine gm_sz (gm_p_const (pc := 84) (i := .iconst 2) (v := gm_vi 2) (by decide +kernel) (by decide +kernel)) ?_
          refine gm_c_virt (k := 226) (ci := 11) (mj := 282) (ix := 300) (pc := 85) (as := [gm_vi 1, gm_vi 2]) (st := []) (d' := d - 1) (bc' := 0) (bs' := 0) (by decide +kernel) (by decide +kernel) (by decide +kernel) (by decide +kernel) (e0k hE (k := 226) (c := 11) (by decide +kernel)).1 (e0k hE (k := 226) (c := 11) (by decide +kernel)).2 (by decide) (by decide +kernel) (show 2 = gm_na 282 by decide +kernel) (fw_c2 fw_si fw_si) (show 3 ≤ gm_ml 282 by decide +kernel) (Nat.le_of_ble_eq_true rfl) (by omega) (Nat.zero_le _) (Nat.zero_le _) ?_
          refine tf_1 hE ?_
          show gm_Wp X LX d _ _ 242 88 _ [gm_vi 1] n K _ _ Q
          refine fw_iffd (cc := .eq) (pc := 88) (off := 32) (by decide +kernel) (by decide) ⟨by decide, by decide⟩ (by decide) ?_
          refine gm_sz (gm_p_const (pc := 91) (i := .iconst 0) (v := gm_vi 0) (by decide +kernel) (by decide +kernel)) ?_
          refine gm_sz (gm_p_stor (pc := 92) (i := .istore_n 2) (sr := 0) (j := 2) (by decide +kernel) rfl (show 3 ≤ _ from Nat.le_of_ble_eq_true rfl) rfl) ?_
          have f9 : fr [(226, some 13), (226, some 0), (226, some 10), (226, some 8), (226, some 15), (226, some 9), (226, some 11), (227, none)] (cpk M 227 229 0 0 1244) (gm_uM (gm_uM M29 226 13 (-1)) 226 0 2) := (fr_p (fr_p (fr_t fr_0 hf29 (by decide)) (Or.inr (by decide))) (Or.inr (by decide)))
          refine cp_242bz (M := (gm_uM (gm_uM M29 226 13 (-1)) 226 0 2)) (Q := Q) hE ?_
          refine gm_sz (gm_p_const (pc := 118) (i := .iconst 0) (v := gm_vi 0) (by decide +kernel) (by decide +kernel)) ?_
          refine gm_r_int (pc := 119) (by decide +kernel) (Or.inl (by decide +kernel)) (q1 _ (fr_t (fr_t (fr_t fr_0 cpk_fr (by decide)) f9 (by decide)) cpk_fr (by decide)) (fun j j0 j1 => ?_) hv29 (by omega) ((cpk_o (by omega)).trans ?_) ((cpk_o (by omega)).trans ?_) ((cpk_o (by omega)).trans ?_))
          · exact (cpk_i (by omega) (by omega)).trans ((fr_c f9 (by decide)).trans ((cpk_i (by omega) (by omega)).trans (congrArg (M 227) (by omega))))
          · exact ((uM_ne (by omega)).trans uM_at)
          · exact ((uM_ne (by omega)).trans ((uM_ne (by omega)).trans z8))
          · exact uM_at
      · have h51 : ¬ 0 ≤ k9 := h51
        exact absurd a1 (by omega)
    · have h35 : ¬ 0 ≤ k9 := h35
      exact absurd a1 (by omega)
  · show gm_Wp X LX d _ _ 242 32 _ [gm_vi (-1)] n K _ _ Q
    refine gm_sz (gm_p_stor (pc := 32) (i := .istore_n 1) (sr := 0) (j := 1) (by decide +kernel) rfl (show 2 ≤ _ from Nat.le_of_ble_eq_true rfl) rfl) ?_
    refine gm_sz (gm_p_load (pc := 33) (i := .aload_n 0) (sr := 2) (j := 0) (by decide +kernel) rfl rfl rfl) ?_
    refine gm_sz (gm_p_load (pc := 34) (i := .iload_n 1) (sr := 0) (j := 1) (by decide +kernel) rfl rfl rfl) ?_
    refine fw_iffd (cc := .ge) (pc := 35) (off := 10) (by decide +kernel) (by decide) ⟨by decide, by decide⟩ (by decide) ?_
    refine gm_sz (gm_p_load (pc := 38) (i := .aload_n 0) (sr := 2) (j := 0) (by decide +kernel) rfl rfl rfl) ?_
    refine gm_sz (fw_gi (pc := 39) (ix := 116) (ci := 11) (j := 11) (x := (v_val f e N).2.1) (by decide +kernel) (e0k hE (k := 226) (c := 11) (by decide +kernel)) (by decide +kernel) (by decide +kernel) z11) ?_
    refine gm_sz (gm_p_goto (pc := 42) (off := 4) (by decide +kernel) (by decide)) ?_
    refine gm_sz (fw_pi (pc := 46) (ix := 30) (ci := 11) (j := 13) (M' := gm_uM M29 226 13 ((v_val f e N).2.1)) (by decide +kernel) (e0k hE (k := 226) (c := 11) (by decide +kernel)) (by decide +kernel) (by decide +kernel) (by decide +kernel) rfl) ?_
    refine gm_sz (gm_p_load (pc := 49) (i := .aload_n 0) (sr := 2) (j := 0) (by decide +kernel) rfl rfl rfl) ?_
    refine gm_sz (gm_p_load (pc := 50) (i := .iload_n 1) (sr := 0) (j := 1) (by decide +kernel) rfl rfl rfl) ?_
    refine fw_iffd (cc := .ge) (pc := 51) (off := 7) (by decide +kernel) (by decide) ⟨by decide, by decide⟩ (by decide) ?_
    refine gm_sz (gm_p_const (pc := 54) (i := .iconst 1) (v := gm_vi 1) (by decide +kernel) (by decide +kernel)) ?_
    refine gm_sz (gm_p_goto (pc := 55) (off := 4) (by decide +kernel) (by decide)) ?_
    refine gm_sz (gm_p_const (pc := 59) (i := .iconst 1) (v := gm_vi 1) (by decide +kernel) (by decide +kernel)) ?_
    refine gm_c_virt (k := 226) (ci := 11) (mj := 282) (ix := 300) (pc := 60) (as := [gm_vi 1, gm_vi 1]) (st := []) (d' := d - 1) (bc' := 0) (bs' := 0) (by decide +kernel) (by decide +kernel) (by decide +kernel) (by decide +kernel) (e0k hE (k := 226) (c := 11) (by decide +kernel)).1 (e0k hE (k := 226) (c := 11) (by decide +kernel)).2 (by decide) (by decide +kernel) (show 2 = gm_na 282 by decide +kernel) (fw_c2 fw_si fw_si) (show 3 ≤ gm_ml 282 by decide +kernel) (Nat.le_of_ble_eq_true rfl) (by omega) (Nat.zero_le _) (Nat.zero_le _) ?_
    refine tf_1 hE ?_
    show gm_Wp X LX d _ _ 242 63 _ [gm_vi 1] n K _ _ Q
    refine fw_iftd (cc := .ne) (pc := 63) (off := 28) (by decide +kernel) (by decide) ⟨by decide, by decide⟩ (by decide) ?_
    refine gm_sz (gm_p_const (pc := 91) (i := .iconst 0) (v := gm_vi 0) (by decide +kernel) (by decide +kernel)) ?_
    refine gm_sz (gm_p_stor (pc := 92) (i := .istore_n 2) (sr := 0) (j := 2) (by decide +kernel) rfl (show 3 ≤ _ from Nat.le_of_ble_eq_true rfl) rfl) ?_
    have f9 : fr [(226, some 13), (226, some 0), (226, some 10), (226, some 8), (226, some 15), (226, some 9), (226, some 11), (227, none)] (cpk M 227 229 0 0 1244) (gm_uM (gm_uM M29 226 13 ((v_val f e N).2.1)) 226 0 1) := (fr_p (fr_p (fr_t fr_0 hf29 (by decide)) (Or.inr (by decide))) (Or.inr (by decide)))
    refine cp_242bz (M := (gm_uM (gm_uM M29 226 13 ((v_val f e N).2.1)) 226 0 1)) (Q := Q) hE ?_
    refine gm_sz (gm_p_const (pc := 118) (i := .iconst 0) (v := gm_vi 0) (by decide +kernel) (by decide +kernel)) ?_
    refine gm_r_int (pc := 119) (by decide +kernel) (Or.inl (by decide +kernel)) (q0 _ (fr_t (fr_t (fr_t fr_0 cpk_fr (by decide)) f9 (by decide)) cpk_fr (by decide)) (fun j j0 j1 => ?_) hv29 ((cpk_o (by omega)).trans ?_) ((cpk_o (by omega)).trans ?_) ((cpk_o (by omega)).trans ?_))
    · exact (cpk_i (by omega) (by omega)).trans ((fr_c f9 (by decide)).trans ((cpk_i (by omega) (by omega)).trans (congrArg (M 227) (by omega))))
    · exact ((uM_ne (by omega)).trans uM_at)
    · exact ((uM_ne (by omega)).trans ((uM_ne (by omega)).trans z8))
    · exact uM_at
end V6A
