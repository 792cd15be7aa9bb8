/-! 7a42.v6rz -/
section
/-! THE REFERENCE'S readAll OF A VALLEY and valley(), whole (laid by wip/core/v6.py). -/
section V6A
variable {X : Int → Int} {LX d bc bs n : Nat} {K : gm_K} {R : gm_R} {M : gm_M} {Q : gm_Q} {f : Int → Int} {e y : Int} {N h : Int → Int}
theorem rv_244 (hE : E0 n K R) (he : M 226 8 = e) (hq : Q (.inl none) n K R (gm_uM (gm_uM (gm_uM (gm_uM M 226 0 0) 226 10 e) 226 8 0) 226 9 0)) : gm_Wp X LX d bc bs 244 0 (gm_ent 244 [gm_vr 226]) [] n K R M Q := by
  refine gm_sz (gm_p_load (pc := 0) (i := .aload_n 0) (sr := 2) (j := 0) (by decide +kernel) rfl rfl rfl) ?_
  refine gm_sz (gm_p_const (pc := 1) (i := .iconst 0) (v := gm_vi 0) (by decide +kernel) (by decide +kernel)) ?_
  refine gm_sz (fw_pi (pc := 2) (ix := 3) (ci := 11) (j := 0) (M' := gm_uM M 226 0 0) (by decide +kernel) (e0k hE (k := 226) (c := 11) (by decide +kernel)) (by decide +kernel) (by decide +kernel) (by decide +kernel) rfl) ?_
  refine gm_sz (gm_p_load (pc := 5) (i := .aload_n 0) (sr := 2) (j := 0) (by decide +kernel) rfl rfl rfl) ?_
  refine gm_sz (gm_p_load (pc := 6) (i := .aload_n 0) (sr := 2) (j := 0) (by decide +kernel) rfl rfl rfl) ?_
  refine gm_sz (fw_gi (pc := 7) (ix := 103) (ci := 11) (j := 8) (x := e) (by decide +kernel) (e0k hE (k := 226) (c := 11) (by decide +kernel)) (by decide +kernel) (by decide +kernel) ((uM_ne (by omega)).trans he)) ?_
  refine gm_sz (fw_pi (pc := 10) (ix := 109) (ci := 11) (j := 10) (M' := gm_uM (gm_uM M 226 0 0) 226 10 e) (by decide +kernel) (e0k hE (k := 226) (c := 11) (by decide +kernel)) (by decide +kernel) (by decide +kernel) (by decide +kernel) rfl) ?_
  refine gm_sz (gm_p_load (pc := 13) (i := .aload_n 0) (sr := 2) (j := 0) (by decide +kernel) rfl rfl rfl) ?_
  refine gm_sz (gm_p_const (pc := 14) (i := .iconst 0) (v := gm_vi 0) (by decide +kernel) (by decide +kernel)) ?_
  refine gm_sz (fw_pi (pc := 15) (ix := 103) (ci := 11) (j := 8) (M' := gm_uM (gm_uM (gm_uM M 226 0 0) 226 10 e) 226 8 0) (by decide +kernel) (e0k hE (k := 226) (c := 11) (by decide +kernel)) (by decide +kernel) (by decide +kernel) (by decide +kernel) rfl) ?_
  refine gm_sz (gm_p_load (pc := 18) (i := .aload_n 0) (sr := 2) (j := 0) (by decide +kernel) rfl rfl rfl) ?_
  refine gm_sz (gm_p_const (pc := 19) (i := .iconst 0) (v := gm_vi 0) (by decide +kernel) (by decide +kernel)) ?_
  refine gm_sz (fw_pi (pc := 20) (ix := 106) (ci := 11) (j := 9) (M' := gm_uM (gm_uM (gm_uM (gm_uM M 226 0 0) 226 10 e) 226 8 0) 226 9 0) (by decide +kernel) (e0k hE (k := 226) (c := 11) (by decide +kernel)) (by decide +kernel) (by decide +kernel) (by decide +kernel) rfl) ?_
  exact gm_r_void (pc := 23) (by decide +kernel) (by decide +kernel) hq
theorem rv_243 (hd : 12 ≤ d) (hE : E0 n K R) (hF : VF f e) (hf : M 231 = f) (he : M 226 8 = e) (hT : TR N h M) (hG : GI N) (q1 : ∀ (k : Int) M2, 0 ≤ k → k ≤ 14 → fr [((226 : Nat), some (0 : Int)), ((226 : Nat), some (10 : Int)), ((226 : Nat), some (8 : Int)), ((226 : Nat), some (15 : Int)), ((226 : Nat), some (9 : Int)), ((226 : Nat), some (11 : Int)), ((227 : Nat), none)] M M2 → TR (v_val f e N).2.2 h M2 → BW M M2 → (v_val f e N).1 = true → M2 226 8 = 0 → M2 226 0 = 0 → Q (.inl (some (gm_vi k))) n K R M2) (q0 : ∀ M2, fr [((226 : Nat), some (0 : Int)), ((226 : Nat), some (10 : Int)), ((226 : Nat), some (8 : Int)), ((226 : Nat), some (15 : Int)), ((226 : Nat), some (9 : Int)), ((226 : Nat), some (11 : Int)), ((227 : Nat), none)] M M2 → M2 226 11 = (v_val f e N).2.1 → ¬ (v_val f e N).1 = true → M2 226 8 = 0 → M2 226 0 = 0 → Q (.inl (some (gm_vi (-1)))) n K R M2) : gm_Wp X LX d bc bs 243 0 (gm_ent 243 [gm_vr 226, gm_vi 1]) [] n K R M Q := by
  have he9 := hF.1
  obtain ⟨g1, g2, -⟩ := tx_gb (f := f) hF.1.1
  have hp0 : (0 : Int) ≤ 0 ∧ 0 ≤ e := ⟨Int.le_refl _, hF.1.1⟩
  have hb : 0 ≤ (tx_g f e 0) ∧ (tx_g f e 0) ≤ e := ⟨g1, g2⟩
  have hgg : tx_g f e (tx_g f e 0) = (tx_g f e 0) := tx_gi hF.1.1
  refine gm_sz (gm_p_load (pc := 0) (i := .aload_n 0) (sr := 2) (j := 0) (by decide +kernel) rfl rfl rfl) ?_
  refine gm_c_virt (k := 226) (ci := 11) (mj := 244) (ix := 289) (pc := 1) (as := []) (st := []) (d' := d - 1) (bc' := 0) (bs' := 0) (by decide +kernel) (by decide +kernel) (by decide +kernel) (by decide +kernel) (e0k hE (k := 226) (c := 11) (by decide +kernel)).1 (e0k hE (k := 226) (c := 11) (by decide +kernel)).2 (by decide) (by decide +kernel) (show 0 = gm_na 244 by decide +kernel) fw_c0 (show 1 ≤ gm_ml 244 by decide +kernel) (Nat.le_of_ble_eq_true rfl) (by omega) (Nat.zero_le _) (Nat.zero_le _) ?_
  refine rv_244 hE he ?_
  show gm_Wp X LX d _ _ 243 4 _ [] n K _ _ Q
  refine gm_sz (gm_p_load (pc := 4) (i := .aload_n 0) (sr := 2) (j := 0) (by decide +kernel) rfl rfl rfl) ?_
  refine gm_sz (gm_p_const (pc := 5) (i := .iconst 0) (v := gm_vi 0) (by decide +kernel) (by decide +kernel)) ?_
  refine gm_sz (fw_pi (pc := 6) (ix := 224) (ci := 11) (j := 15) (M' := gm_uM (gm_uM (gm_uM (gm_uM (gm_uM M 226 0 0) 226 10 e) 226 8 0) 226 9 0) 226 15 0) (by decide +kernel) (e0k hE (k := 226) (c := 11) (by decide +kernel)) (by decide +kernel) (by decide +kernel) (by decide +kernel) rfl) ?_
  have hR0 : RW f e 0 (gm_uM (gm_uM (gm_uM (gm_uM (gm_uM M 226 0 0) 226 10 e) 226 8 0) 226 9 0) 226 15 0) := ⟨(funext fun j => (uM_ne (by omega)).trans ((uM_ne (by omega)).trans ((uM_ne (by omega)).trans ((uM_ne (by omega)).trans (uM_ne (by omega)))))).trans hf, (uM_ne (by omega)).trans ((uM_ne (by omega)).trans ((uM_ne (by omega)).trans (uM_at))), (uM_ne (by omega)).trans (uM_at)⟩
  refine gm_sz (gm_p_load (pc := 9) (i := .aload_n 0) (sr := 2) (j := 0) (by decide +kernel) rfl rfl rfl) ?_
  refine gm_c_virt (k := 226) (ci := 11) (mj := 245) (ix := 119) (pc := 10) (as := []) (st := []) (d' := d - 1) (bc' := 0) (bs' := 0) (by decide +kernel) (by decide +kernel) (by decide +kernel) (by decide +kernel) (e0k hE (k := 226) (c := 11) (by decide +kernel)).1 (e0k hE (k := 226) (c := 11) (by decide +kernel)).2 (by decide) (by decide +kernel) (show 0 = gm_na 245 by decide +kernel) fw_c0 (show 1 ≤ gm_ml 245 by decide +kernel) (Nat.le_of_ble_eq_true rfl) (by omega) (Nat.zero_le _) (Nat.zero_le _) ?_
  refine rv_245 (by omega) hE hF hR0 hp0 rfl hb (fun M10 hf10 hr10 h11 => ?_)
  show gm_Wp X LX d _ _ 243 13 _ [] n K _ _ Q
  refine gm_sz (gm_p_load (pc := 13) (i := .aload_n 0) (sr := 2) (j := 0) (by decide +kernel) rfl rfl rfl) ?_
  refine gm_sz (fw_gi (pc := 14) (ix := 106) (ci := 11) (j := 9) (x := (tx_g f e 0)) (by decide +kernel) (e0k hE (k := 226) (c := 11) (by decide +kernel)) (by decide +kernel) (by decide +kernel) hr10.2.2) ?_
  refine gm_sz (gm_p_load (pc := 17) (i := .aload_n 0) (sr := 2) (j := 0) (by decide +kernel) rfl rfl rfl) ?_
  refine gm_sz (fw_gi (pc := 18) (ix := 109) (ci := 11) (j := 10) (x := e) (by decide +kernel) (e0k hE (k := 226) (c := 11) (by decide +kernel)) (by decide +kernel) (by decide +kernel) hr10.2.1) ?_
  refine fw_ic (cc := .ne) (pc := 21) (off := 5) (by decide +kernel) (by decide) ⟨by omega, by omega⟩ ⟨by omega, by omega⟩ (fun h21 => ?_) (fun h21 => ?_)
  · have h21 : ¬ (tx_g f e 0) = e := h21
    refine gm_sz (gm_p_const (pc := 26) (i := .iconst 0) (v := gm_vi 0) (by decide +kernel) (by decide +kernel)) ?_
    refine gm_sz (gm_p_stor (pc := 27) (i := .istore_n 2) (sr := 0) (j := 2) (by decide +kernel) rfl (show 3 ≤ _ from Nat.le_of_ble_eq_true rfl) rfl) ?_
    have z8 : M10 226 8 = 0 := ((fr_j hf10 (by decide)).trans ((uM_ne (by omega)).trans ((uM_ne (by omega)).trans uM_at)))
    have z0 : M10 226 0 = 0 := ((fr_j hf10 (by decide)).trans ((uM_ne (by omega)).trans ((uM_ne (by omega)).trans ((uM_ne (by omega)).trans ((uM_ne (by omega)).trans uM_at)))))
    have n9 : ¬ tx_k f e (tx_g f e 0) = 256 := fun hh => by have := tx_kne2 (f := f) hh; omega
    have ev : v_val f e N = v_txt f e 14 N (tx_g f e 0) := tif_f n9
    rw [ev] at q1 q0
    have bw : BW M M10 := ⟨fun j hj => ((fr_c hf10 (by decide)).trans ((uM_ne (by omega)).trans ((uM_ne (by omega)).trans ((uM_ne (by omega)).trans ((uM_ne (by omega)).trans (uM_ne (by omega))))))), ((fr_c hf10 (by decide)).trans ((uM_ne (by omega)).trans ((uM_ne (by omega)).trans ((uM_ne (by omega)).trans ((uM_ne (by omega)).trans (uM_ne (by omega)))))))⟩
    exact rv_243l (by omega) hE hF 14 0 (tx_g f e 0) (tx_g f e 0) N _ rfl (Int.le_refl _) hr10 hb hgg hb (tr_fr (W := [((226 : Nat), some (0 : Int)), ((226 : Nat), some (10 : Int)), ((226 : Nat), some (8 : Int)), ((226 : Nat), some (9 : Int)), ((226 : Nat), some (15 : Int)), ((226 : Nat), some (11 : Int))]) hT (fr_t (fr_p (fr_p (fr_p (fr_p (fr_p fr_0 (Or.inr (by decide))) (Or.inr (by decide))) (Or.inr (by decide))) (Or.inr (by decide))) (Or.inr (by decide))) hf10 (by decide)) (by decide)) hG (fun k M2 a1 a2 a3 a4 a5 a6 => q1 k M2 a1 a2 (fr_t (fr_t (fr_p (fr_p (fr_p (fr_p (fr_p fr_0 (Or.inr (by decide))) (Or.inr (by decide))) (Or.inr (by decide))) (Or.inr (by decide))) (Or.inr (by decide))) hf10 (by decide)) a3 (by decide)) a4 (bw_t bw a5) a6 ((fr_j a3 (by decide)).trans z8) ((fr_j a3 (by decide)).trans z0)) (fun M2 a1 a2 a3 => q0 M2 (fr_t (fr_t (fr_p (fr_p (fr_p (fr_p (fr_p fr_0 (Or.inr (by decide))) (Or.inr (by decide))) (Or.inr (by decide))) (Or.inr (by decide))) (Or.inr (by decide))) hf10 (by decide)) a1 (by decide)) a2 a3 ((fr_j a1 (by decide)).trans z8) ((fr_j a1 (by decide)).trans z0))
  · have h21 : (tx_g f e 0) = e := Classical.not_not.mp h21
    refine gm_sz (gm_p_const (pc := 24) (i := .iconst 0) (v := gm_vi 0) (by decide +kernel) (by decide +kernel)) ?_
    have z8 : M10 226 8 = 0 := ((fr_j hf10 (by decide)).trans ((uM_ne (by omega)).trans ((uM_ne (by omega)).trans uM_at)))
    have z0 : M10 226 0 = 0 := ((fr_j hf10 (by decide)).trans ((uM_ne (by omega)).trans ((uM_ne (by omega)).trans ((uM_ne (by omega)).trans ((uM_ne (by omega)).trans uM_at)))))
    have n9 : tx_k f e (tx_g f e 0) = 256 := (tx_k0 (f := f) (m := 0) (by omega)).1
    have ev : v_val f e N = (true, (tx_g f e 0), N) := tif_t n9
    rw [ev] at q1
    exact gm_r_int (pc := 25) (by decide +kernel) (Or.inl (by decide +kernel)) (q1 0 _ (Int.le_refl _) (by decide) (fr_t (fr_p (fr_p (fr_p (fr_p (fr_p fr_0 (Or.inr (by decide))) (Or.inr (by decide))) (Or.inr (by decide))) (Or.inr (by decide))) (Or.inr (by decide))) hf10 (by decide)) (tr_fr (W := [((226 : Nat), some (0 : Int)), ((226 : Nat), some (10 : Int)), ((226 : Nat), some (8 : Int)), ((226 : Nat), some (9 : Int)), ((226 : Nat), some (15 : Int)), ((226 : Nat), some (11 : Int))]) hT (fr_t (fr_p (fr_p (fr_p (fr_p (fr_p fr_0 (Or.inr (by decide))) (Or.inr (by decide))) (Or.inr (by decide))) (Or.inr (by decide))) (Or.inr (by decide))) hf10 (by decide)) (by decide)) ⟨fun j hj => ((fr_c hf10 (by decide)).trans ((uM_ne (by omega)).trans ((uM_ne (by omega)).trans ((uM_ne (by omega)).trans ((uM_ne (by omega)).trans (uM_ne (by omega))))))), ((fr_c hf10 (by decide)).trans ((uM_ne (by omega)).trans ((uM_ne (by omega)).trans ((uM_ne (by omega)).trans ((uM_ne (by omega)).trans (uM_ne (by omega)))))))⟩ rfl z8 z0)
theorem cp_242a (hE : E0 n K R) (hq : gm_Wp X LX d bc bs 242 27 [some (gm_vr 226), some (gm_vi 1244), none] [] n K R (cpk M 227 229 0 0 1244) Q) : ∀ (u : Nat) (k : Int), k + (u : Int) = 1244 → 0 ≤ k → gm_Wp X LX d bc bs 242 2 [some (gm_vr 226), some (gm_vi k), none] [] n K R (cpk M 227 229 0 0 k) Q := by
  intro u
  induction u with
  | zero =>
    intro k hk k0
    have ek : k = 1244 := by omega
    subst ek
    refine gm_sz (gm_p_load (pc := 2) (i := .iload_n 1) (sr := 0) (j := 1) (by decide +kernel) rfl rfl rfl) ?_
    refine gm_sz (gm_p_const (pc := 3) (i := .sipush 1244) (v := gm_vi 1244) (by decide +kernel) (by decide +kernel)) ?_
    refine fw_ictd (cc := .ge) (pc := 6) (off := 21) (by decide +kernel) (by decide) ⟨by decide, by decide⟩ ⟨by decide, by decide⟩ (by decide) ?_
    exact hq
  | succ u ih =>
    intro k hk k0
    refine gm_sz (gm_p_load (pc := 2) (i := .iload_n 1) (sr := 0) (j := 1) (by decide +kernel) rfl rfl rfl) ?_
    refine gm_sz (gm_p_const (pc := 3) (i := .sipush 1244) (v := gm_vi 1244) (by decide +kernel) (by decide +kernel)) ?_
    refine fw_icf (cc := .ge) (pc := 6) (off := 21) (by decide +kernel) (by decide) ⟨by omega, by omega⟩ ⟨by decide, by decide⟩ (show ¬ 1244 ≤ k by omega) ?_
    refine gm_sz (gm_p_load (pc := 9) (i := .aload_n 0) (sr := 2) (j := 0) (by decide +kernel) rfl rfl rfl) ?_
    refine gm_sz (fw_gr (pc := 10) (ix := 20) (ci := 11) (j := 3) (r := 229) (by decide +kernel) (e0k hE (k := 226) (c := 11) (by decide +kernel)) (by decide +kernel) (by decide +kernel) (e0r hE (k := 226) (j := 3) (r := 229) (by decide +kernel))) ?_
    refine gm_sz (gm_p_load (pc := 13) (i := .iload_n 1) (sr := 0) (j := 1) (by decide +kernel) rfl rfl rfl) ?_
    refine gm_sz (gm_p_load (pc := 14) (i := .aload_n 0) (sr := 2) (j := 0) (by decide +kernel) rfl rfl rfl) ?_
    refine gm_sz (fw_gr (pc := 15) (ix := 13) (ci := 11) (j := 1) (r := 227) (by decide +kernel) (e0k hE (k := 226) (c := 11) (by decide +kernel)) (by decide +kernel) (by decide +kernel) (e0r hE (k := 226) (j := 1) (r := 227) (by decide +kernel))) ?_
    refine gm_sz (gm_p_load (pc := 18) (i := .iload_n 1) (sr := 0) (j := 1) (by decide +kernel) rfl rfl rfl) ?_
    refine gm_sz (fw_ia (pc := 19) (k := 227) (len := 2093) (e0 := k) (x := M 227 k) (by decide +kernel) (e0a hE (k := 227) (q := ((0 : Nat), (2093 : Nat))) (by decide +kernel)).1 (e0a hE (k := 227) (q := ((0 : Nat), (2093 : Nat))) (by decide +kernel)).2 (by decide) ⟨by omega, by omega⟩ (cpk_o (by omega))) ?_
    refine gm_sz (fw_is (pc := 20) (k := 229) (len := 1244) (e0 := k) (x := M 227 k) (M' := cpk M 227 229 0 0 (k + 1)) (by decide +kernel) (e0a hE (k := 229) (q := ((0 : Nat), (1244 : Nat))) (by decide +kernel)).1 (e0a hE (k := 229) (q := ((0 : Nat), (1244 : Nat))) (by decide +kernel)).2 (by decide) ⟨by omega, by omega⟩ (cpk_s k0 (by omega) (congrArg (M 227) (by omega)))) ?_
    refine gm_sz (gm_p_iinc (pc := 21) (j := 1) (z := 1) (by decide +kernel) rfl) ?_
    refine gm_sz (gm_p_goto (pc := 24) (off := (-22)) (by decide +kernel) (by decide)) ?_
    exact ih (k + 1) (by omega) (by omega)
theorem cp_242az (hE : E0 n K R) (hq : gm_Wp X LX d bc bs 242 27 [some (gm_vr 226), some (gm_vi 1244), none] [] n K R (cpk M 227 229 0 0 1244) Q) : gm_Wp X LX d bc bs 242 2 [some (gm_vr 226), some (gm_vi 0), none] [] n K R M Q := by
  have h9 := cp_242a hE  hq 1244 0 (by omega) (Int.le_refl _)
  rw [cpk_0] at h9
  exact h9
theorem cp_242b (hE : E0 n K R) (hq : gm_Wp X LX d bc bs 242 118 [some (gm_vr 226), some (gm_vi y), some (gm_vi 1244)] [] n K R (cpk M 229 227 0 0 1244) Q) : ∀ (u : Nat) (k : Int), k + (u : Int) = 1244 → 0 ≤ k → gm_Wp X LX d bc bs 242 93 [some (gm_vr 226), some (gm_vi y), some (gm_vi k)] [] n K R (cpk M 229 227 0 0 k) Q := by
  intro u
  induction u with
  | zero =>
    intro k hk k0
    have ek : k = 1244 := by omega
    subst ek
    refine gm_sz (gm_p_load (pc := 93) (i := .iload_n 2) (sr := 0) (j := 2) (by decide +kernel) rfl rfl rfl) ?_
    refine gm_sz (gm_p_const (pc := 94) (i := .sipush 1244) (v := gm_vi 1244) (by decide +kernel) (by decide +kernel)) ?_
    refine fw_ictd (cc := .ge) (pc := 97) (off := 21) (by decide +kernel) (by decide) ⟨by decide, by decide⟩ ⟨by decide, by decide⟩ (by decide) ?_
    exact hq
  | succ u ih =>
    intro k hk k0
    refine gm_sz (gm_p_load (pc := 93) (i := .iload_n 2) (sr := 0) (j := 2) (by decide +kernel) rfl rfl rfl) ?_
    refine gm_sz (gm_p_const (pc := 94) (i := .sipush 1244) (v := gm_vi 1244) (by decide +kernel) (by decide +kernel)) ?_
    refine fw_icf (cc := .ge) (pc := 97) (off := 21) (by decide +kernel) (by decide) ⟨by omega, by omega⟩ ⟨by decide, by decide⟩ (show ¬ 1244 ≤ k by omega) ?_
    refine gm_sz (gm_p_load (pc := 100) (i := .aload_n 0) (sr := 2) (j := 0) (by decide +kernel) rfl rfl rfl) ?_
    refine gm_sz (fw_gr (pc := 101) (ix := 13) (ci := 11) (j := 1) (r := 227) (by decide +kernel) (e0k hE (k := 226) (c := 11) (by decide +kernel)) (by decide +kernel) (by decide +kernel) (e0r hE (k := 226) (j := 1) (r := 227) (by decide +kernel))) ?_
    refine gm_sz (gm_p_load (pc := 104) (i := .iload_n 2) (sr := 0) (j := 2) (by decide +kernel) rfl rfl rfl) ?_
    refine gm_sz (gm_p_load (pc := 105) (i := .aload_n 0) (sr := 2) (j := 0) (by decide +kernel) rfl rfl rfl) ?_
    refine gm_sz (fw_gr (pc := 106) (ix := 20) (ci := 11) (j := 3) (r := 229) (by decide +kernel) (e0k hE (k := 226) (c := 11) (by decide +kernel)) (by decide +kernel) (by decide +kernel) (e0r hE (k := 226) (j := 3) (r := 229) (by decide +kernel))) ?_
    refine gm_sz (gm_p_load (pc := 109) (i := .iload_n 2) (sr := 0) (j := 2) (by decide +kernel) rfl rfl rfl) ?_
    refine gm_sz (fw_ia (pc := 110) (k := 229) (len := 1244) (e0 := k) (x := M 229 k) (by decide +kernel) (e0a hE (k := 229) (q := ((0 : Nat), (1244 : Nat))) (by decide +kernel)).1 (e0a hE (k := 229) (q := ((0 : Nat), (1244 : Nat))) (by decide +kernel)).2 (by decide) ⟨by omega, by omega⟩ (cpk_o (by omega))) ?_
    refine gm_sz (fw_is (pc := 111) (k := 227) (len := 2093) (e0 := k) (x := M 229 k) (M' := cpk M 229 227 0 0 (k + 1)) (by decide +kernel) (e0a hE (k := 227) (q := ((0 : Nat), (2093 : Nat))) (by decide +kernel)).1 (e0a hE (k := 227) (q := ((0 : Nat), (2093 : Nat))) (by decide +kernel)).2 (by decide) ⟨by omega, by omega⟩ (cpk_s k0 (by omega) (congrArg (M 229) (by omega)))) ?_
    refine gm_sz (gm_p_iinc (pc := 112) (j := 2) (z := 1) (by decide +kernel) rfl) ?_
    refine gm_sz (gm_p_goto (pc := 115) (off := (-22)) (by decide +kernel) (by decide)) ?_
    exact ih (k + 1) (by omega) (by omega)
theorem cp_242bz (hE : E0 n K R) (hq : gm_Wp X LX d bc bs 242 118 [some (gm_vr 226), some (gm_vi y), some (gm_vi 1244)] [] n K R (cpk M 229 227 0 0 1244) Q) : gm_Wp X LX d bc bs 242 93 [some (gm_vr 226), some (gm_vi y), some (gm_vi 0)] [] n K R M Q := by
  have h9 := cp_242b hE  hq 1244 0 (by omega) (Int.le_refl _)
  rw [cpk_0] at h9
  exact h9
theorem rv_242 (hd : 14 ≤ d) (hE : E0 n K R) (hF : VF f e) (hf : M 231 = f) (he : M 226 8 = e) (hT : TR N h M) (hG : GI N) (q0 : ∀ M2, fr [((229 : Nat), none), ((226 : Nat), some (13 : Int)), ((226 : Nat), some (0 : Int)), ((226 : Nat), some (10 : Int)), ((226 : Nat), some (8 : Int)), ((226 : Nat), some (15 : Int)), ((226 : Nat), some (9 : Int)), ((226 : Nat), some (11 : Int)), ((227 : Nat), none)] M M2 → (∀ j, 0 ≤ j → j < 1244 → M2 227 j = M 227 j) → ¬ (v_val f e N).1 = true → M2 226 13 = (v_val f e N).2.1 → M2 226 8 = 0 → M2 226 0 = 1 → Q (.inl (some (gm_vi 0))) n K R M2) (q1 : ∀ M2, fr [((229 : Nat), none), ((226 : Nat), some (13 : Int)), ((226 : Nat), some (0 : Int)), ((226 : Nat), some (10 : Int)), ((226 : Nat), some (8 : Int)), ((226 : Nat), some (15 : Int)), ((226 : Nat), some (9 : Int)), ((226 : Nat), some (11 : Int)), ((227 : Nat), none)] M M2 → (∀ j, 0 ≤ j → j < 1244 → M2 227 j = M 227 j) → (v_val f e N).1 = true → N 7 = 12 → M2 226 13 = -1 → M2 226 8 = 0 → M2 226 0 = 2 → Q (.inl (some (gm_vi 0))) n K R M2) (hq : ∀ M2, fr [((234 : Nat), none), ((226 : Nat), some (26 : Int)), ((226 : Nat), some (6 : Int)), ((229 : Nat), none), ((226 : Nat), some (13 : Int)), ((226 : Nat), some (0 : Int)), ((226 : Nat), some (10 : Int)), ((226 : Nat), some (8 : Int)), ((226 : Nat), some (15 : Int)), ((226 : Nat), some (9 : Int)), ((226 : Nat), some (11 : Int)), ((227 : Nat), none)] M M2 → (v_val f e N).1 = true → N 7 < 12 → GI (nup (v_val f e N).2.2 7 (N 7 + 1)) → TR (nup (v_val f e N).2.2 7 (N 7 + 1)) (hts ((nup (v_val f e N).2.2 7 (N 7 + 1)) 13)) M2 → BW M M2 → M2 226 13 = -1 → M2 226 8 = 0 → M2 226 0 = 0 → M2 226 6 = 0 → M2 226 26 = -1 → Q (.inl (some (gm_vi (N 7 + 1)))) n K R M2) : gm_Wp X LX d bc bs 242 0 (gm_ent 242 [gm_vr 226]) [] n K R M Q := by
  have he9 := hF.1
  have b7 := hG.1.2.1.2.2.2.2.2.2.1
  have hvb := v_val_b (f := f) (e := e) (N := N) hF.1.1
  have v7 : (v_val f e N).2.2 7 = N 7 := v_val_o hG hF.1.1 (Or.inl rfl)
  have hVG : (v_val f e N).1 = true → GI (v_val f e N).2.2 := fun h => v_val_g hG hF.1.1 h
  have hT1 : TR N h (cpk M 227 229 0 0 1244) := tr_fr (W := [((229 : Nat), none)]) hT cpk_fr (by decide)
  have hf1 : cpk M 227 229 0 0 1244 231 = f := (funext fun j => cpk_o (by omega)).trans hf
  have he1 : cpk M 227 229 0 0 1244 226 8 = e := (cpk_o (by omega)).trans he
  refine gm_sz (gm_p_const (pc := 0) (i := .iconst 0) (v := gm_vi 0) (by decide +kernel) (by decide +kernel)) ?_
  refine gm_sz (gm_p_stor (pc := 1) (i := .istore_n 1) (sr := 0) (j := 1) (by decide +kernel) rfl (show 2 ≤ _ from Nat.le_of_ble_eq_true rfl) rfl) ?_
  refine cp_242az (M := M) (Q := Q) hE ?_
  refine gm_sz (gm_p_load (pc := 27) (i := .aload_n 0) (sr := 2) (j := 0) (by decide +kernel) rfl rfl rfl) ?_
  refine gm_sz (gm_p_const (pc := 28) (i := .iconst 1) (v := gm_vi 1) (by decide +kernel) (by decide +kernel)) ?_
  refine gm_c_virt (k := 226) (ci := 11) (mj := 243) (ix := 296) (pc := 29) (as := [gm_vi 1]) (st := []) (d' := d - 1) (bc' := 0) (bs' := 0) (by decide +kernel) (by decide +kernel) (by decide +kernel) (by decide +kernel) (e0k hE (k := 226) (c := 11) (by decide +kernel)).1 (e0k hE (k := 226) (c := 11) (by decide +kernel)).2 (by decide) (by decide +kernel) (show 1 = gm_na 243 by decide +kernel) (fw_c1 fw_si) (show 2 ≤ gm_ml 243 by decide +kernel) (Nat.le_of_ble_eq_true rfl) (by omega) (Nat.zero_le _) (Nat.zero_le _) ?_
  refine rv_243 (by omega) hE hF hf1 he1 hT1 hG (fun k9 M29 a1 a2 hf29 ht29 bw29 hv29 z8 z0 => ?_) (fun M29 hf29 z11 hv29 z8 z0 => ?_)
  · show gm_Wp X LX d _ _ 242 32 _ [gm_vi k9] n K _ _ Q
    refine gm_sz (gm_p_stor (pc := 32) (i := .istore_n 1) (sr := 0) (j := 1) (by decide +kernel) rfl (show 2 ≤ _ from Nat.le_of_ble_eq_true rfl) rfl) ?_
    refine gm_sz (gm_p_load (pc := 33) (i := .aload_n 0) (sr := 2) (j := 0) (by decide +kernel) rfl rfl rfl) ?_
    refine gm_sz (gm_p_load (pc := 34) (i := .iload_n 1) (sr := 0) (j := 1) (by decide +kernel) rfl rfl rfl) ?_
    refine fw_if (cc := .ge) (pc := 35) (off := 10) (by decide +kernel) (by decide) ⟨by omega, by omega⟩ (fun h35 => ?_) (fun h35 => ?_)
    · have h35 : 0 ≤ k9 := h35
      refine gm_sz (gm_p_const (pc := 45) (i := .iconst (-1)) (v := gm_vi (-1)) (by decide +kernel) (by decide +kernel)) ?_
      refine gm_sz (fw_pi (pc := 46) (ix := 30) (ci := 11) (j := 13) (M' := gm_uM M29 226 13 (-1)) (by decide +kernel) (e0k hE (k := 226) (c := 11) (by decide +kernel)) (by decide +kernel) (by decide +kernel) (by decide +kernel) rfl) ?_
      refine gm_sz (gm_p_load (pc := 49) (i := .aload_n 0) (sr := 2) (j := 0) (by decide +kernel) rfl rfl rfl) ?_
      refine gm_sz (gm_p_load (pc := 50) (i := .iload_n 1) (sr := 0) (j := 1) (by decide +kernel) rfl rfl rfl) ?_
      refine fw_if (cc := .ge) (pc := 51) (off := 7) (by decide +kernel) (by decide) ⟨by omega, by omega⟩ (fun h51 => ?_) (fun h51 => ?_)
      · have h51 : 0 ≤ k9 := h51
        refine gm_sz (gm_p_const (pc := 58) (i := .iconst 0) (v := gm_vi 0) (by decide +kernel) (by decide +kernel)) ?_
        refine gm_sz (gm_p_const (pc := 59) (i := .iconst 1) (v := gm_vi 1) (by decide +kernel) (by decide +kernel)) ?_
        refine gm_c_virt (k := 226) (ci := 11) (mj := 282) (ix := 300) (pc := 60) (as := [gm_vi 0, gm_vi 1]) (st := []) (d' := d - 1) (bc' := 0) (bs' := 0) (by decide +kernel) (by decide +kernel) (by decide +kernel) (by decide +kernel) (e0k hE (k := 226) (c := 11) (by decide +kernel)).1 (e0k hE (k := 226) (c := 11) (by decide +kernel)).2 (by decide) (by decide +kernel) (show 2 = gm_na 282 by decide +kernel) (fw_c2 fw_si fw_si) (show 3 ≤ gm_ml 282 by decide +kernel) (Nat.le_of_ble_eq_true rfl) (by omega) (Nat.zero_le _) (Nat.zero_le _) ?_
        refine tf_0 hE ?_
        show gm_Wp X LX d _ _ 242 63 _ [gm_vi 0] n K _ _ Q
        refine fw_iffd (cc := .ne) (pc := 63) (off := 28) (by decide +kernel) (by decide) ⟨by decide, by decide⟩ (by decide) ?_
        refine gm_sz (gm_p_load (pc := 66) (i := .aload_n 0) (sr := 2) (j := 0) (by decide +kernel) rfl rfl rfl) ?_
        refine gm_sz (gm_p_load (pc := 67) (i := .aload_n 0) (sr := 2) (j := 0) (by decide +kernel) rfl rfl rfl) ?_
        refine gm_sz (fw_gr (pc := 68) (ix := 13) (ci := 11) (j := 1) (r := 227) (by decide +kernel) (e0k hE (k := 226) (c := 11) (by decide +kernel)) (by decide +kernel) (by decide +kernel) (e0r hE (k := 226) (j := 1) (r := 227) (by decide +kernel))) ?_
        refine gm_sz (gm_p_const (pc := 71) (i := .bipush 7) (v := gm_vi 7) (by decide +kernel) (by decide +kernel)) ?_
        refine gm_sz (fw_ia (pc := 73) (k := 227) (len := 2093) (e0 := 7) (x := N 7) (by decide +kernel) (e0a hE (k := 227) (q := ((0 : Nat), (2093 : Nat))) (by decide +kernel)).1 (e0a hE (k := 227) (q := ((0 : Nat), (2093 : Nat))) (by decide +kernel)).2 (by decide) ⟨by omega, by omega⟩ ((uM_ne (by omega)).trans ((tr_w ht29 (by decide) (by decide) (by decide)).trans v7))) ?_
        refine gm_sz (gm_p_const (pc := 74) (i := .bipush 12) (v := gm_vi 12) (by decide +kernel) (by decide +kernel)) ?_
        refine fw_ic (cc := .ne) (pc := 76) (off := 7) (by decide +kernel) (by decide) ⟨by omega, by omega⟩ ⟨by decide, by decide⟩ (fun h76 => ?_) (fun h76 => ?_)
        · have h76 : ¬ (N 7) = 12 := h76
          refine gm_sz (gm_p_const (pc := 83) (i := .iconst 0) (v := gm_vi 0) (by decide +kernel) (by decide +kernel)) ?_
          refine gm_sz (gm_p_const (pc := 84) (i := .iconst 2) (v := gm_vi 2) (by decide +kernel) (by decide +kernel)) ?_
          refine gm_c_virt (k := 226) (ci := 11) (mj := 282) (ix := 300) (pc := 85) (as := [gm_vi 0, gm_vi 2]) (st := []) (d' := d - 1) (bc' := 0) (bs' := 0) (by decide +kernel) (by decide +kernel) (by decide +kernel) (by decide +kernel) (e0k hE (k := 226) (c := 11) (by decide +kernel)).1 (e0k hE (k := 226) (c := 11) (by decide +kernel)).2 (by decide) (by decide +kernel) (show 2 = gm_na 282 by decide +kernel) (fw_c2 fw_si fw_si) (show 3 ≤ gm_ml 282 by decide +kernel) (Nat.le_of_ble_eq_true rfl) (by omega) (Nat.zero_le _) (Nat.zero_le _) ?_
          refine tf_0 hE ?_
          show gm_Wp X LX d _ _ 242 88 _ [gm_vi 0] n K _ _ Q
          refine fw_iftd (cc := .eq) (pc := 88) (off := 32) (by decide +kernel) (by decide) ⟨by decide, by decide⟩ (by decide) ?_
          refine gm_sz (gm_p_load (pc := 120) (i := .aload_n 0) (sr := 2) (j := 0) (by decide +kernel) rfl rfl rfl) ?_
          refine gm_sz (fw_gr (pc := 121) (ix := 13) (ci := 11) (j := 1) (r := 227) (by decide +kernel) (e0k hE (k := 226) (c := 11) (by decide +kernel)) (by decide +kernel) (by decide +kernel) (e0r hE (k := 226) (j := 1) (r := 227) (by decide +kernel))) ?_
          refine gm_sz (gm_p_const (pc := 124) (i := .bipush 7) (v := gm_vi 7) (by decide +kernel) (by decide +kernel)) ?_
          refine gm_sz (gm_p_dup2 (pc := 126) (by decide +kernel) fw_si fw_sr) ?_
          refine gm_sz (fw_ia (pc := 127) (k := 227) (len := 2093) (e0 := 7) (x := N 7) (by decide +kernel) (e0a hE (k := 227) (q := ((0 : Nat), (2093 : Nat))) (by decide +kernel)).1 (e0a hE (k := 227) (q := ((0 : Nat), (2093 : Nat))) (by decide +kernel)).2 (by decide) ⟨by omega, by omega⟩ ((uM_ne (by omega)).trans ((tr_w ht29 (by decide) (by decide) (by decide)).trans v7))) ?_
          refine gm_sz (gm_p_const (pc := 128) (i := .iconst 1) (v := gm_vi 1) (by decide +kernel) (by decide +kernel)) ?_
          refine gm_sz (gm_p_bin (pc := 129) (i := .iadd) (f := fun x y => x + y) (by decide +kernel) rfl) ?_
          refine gm_sz (fw_is (pc := 130) (k := 227) (len := 2093) (e0 := 7) (x := (N 7) + 1) (M' := gm_uM (gm_uM M29 226 13 (-1)) 227 7 ((N 7) + 1)) (by decide +kernel) (e0a hE (k := 227) (q := ((0 : Nat), (2093 : Nat))) (by decide +kernel)).1 (e0a hE (k := 227) (q := ((0 : Nat), (2093 : Nat))) (by decide +kernel)).2 (by decide) ⟨by omega, by omega⟩ rfl) ?_
          refine gm_sz (gm_p_load (pc := 131) (i := .aload_n 0) (sr := 2) (j := 0) (by decide +kernel) rfl rfl rfl) ?_
          refine gm_sz (gm_p_const (pc := 132) (i := .iconst 0) (v := gm_vi 0) (by decide +kernel) (by decide +kernel)) ?_
          refine gm_sz (fw_pi (pc := 133) (ix := 79) (ci := 11) (j := 6) (M' := gm_uM (gm_uM (gm_uM M29 226 13 (-1)) 227 7 ((N 7) + 1)) 226 6 0) (by decide +kernel) (e0k hE (k := 226) (c := 11) (by decide +kernel)) (by decide +kernel) (by decide +kernel) (by decide +kernel) rfl) ?_
          have h136 : ws (gm_uM (gm_uM (gm_uM M29 226 13 (-1)) 227 7 ((N 7) + 1)) 226 6 0 227) = (nup (v_val f e N).2.2 7 (N 7 + 1)) := (congrArg ws (funext fun j => uM_ne (by omega))).trans ((ws_um ((congrArg ws (funext fun j => uM_ne (by omega))).trans ht29.1) ⟨by decide, by decide, by decide⟩))
          have g92 : GI (nup (v_val f e N).2.2 7 (N 7 + 1)) := gi_7 (hVG hv29) ⟨by omega, by omega⟩
          refine gm_sz (gm_p_load (pc := 136) (i := .aload_n 0) (sr := 2) (j := 0) (by decide +kernel) rfl rfl rfl) ?_
          refine gm_c_virt (k := 226) (ci := 11) (mj := 235) (ix := 72) (pc := 137) (as := []) (st := []) (d' := d - 1) (bc' := 0) (bs' := 0) (by decide +kernel) (by decide +kernel) (by decide +kernel) (by decide +kernel) (e0k hE (k := 226) (c := 11) (by decide +kernel)).1 (e0k hE (k := 226) (c := 11) (by decide +kernel)).2 (by decide) (by decide +kernel) (show 0 = gm_na 235 by decide +kernel) fw_c0 (show 1 ≤ gm_ml 235 by decide +kernel) (Nat.le_of_ble_eq_true rfl) (by omega) (Nat.zero_le _) (Nat.zero_le _) ?_
          refine wa_c235 hE h136 (fun M137 hf137 hh137 h26 => ?_)
          show gm_Wp X LX d _ _ 242 140 _ [] n K _ _ Q
          refine gm_sz (gm_p_load (pc := 140) (i := .aload_n 0) (sr := 2) (j := 0) (by decide +kernel) rfl rfl rfl) ?_
          refine gm_sz (fw_gr (pc := 141) (ix := 13) (ci := 11) (j := 1) (r := 227) (by decide +kernel) (e0k hE (k := 226) (c := 11) (by decide +kernel)) (by decide +kernel) (by decide +kernel) (e0r hE (k := 226) (j := 1) (r := 227) (by decide +kernel))) ?_
          refine gm_sz (gm_p_const (pc := 144) (i := .bipush 7) (v := gm_vi 7) (by decide +kernel) (by decide +kernel)) ?_
          refine gm_sz (fw_ia (pc := 146) (k := 227) (len := 2093) (e0 := 7) (x := (N 7 + 1)) (by decide +kernel) (e0a hE (k := 227) (q := ((0 : Nat), (2093 : Nat))) (by decide +kernel)).1 (e0a hE (k := 227) (q := ((0 : Nat), (2093 : Nat))) (by decide +kernel)).2 (by decide) ⟨by omega, by omega⟩ ((fr_c hf137 (by decide)).trans ((uM_ne (by omega)).trans uM_at))) ?_
          have f9 : fr [((234 : Nat), none), ((226 : Nat), some (26 : Int)), ((226 : Nat), some (6 : Int)), ((229 : Nat), none), ((226 : Nat), some (13 : Int)), ((226 : Nat), some (0 : Int)), ((226 : Nat), some (10 : Int)), ((226 : Nat), some (8 : Int)), ((226 : Nat), some (15 : Int)), ((226 : Nat), some (9 : Int)), ((226 : Nat), some (11 : Int)), ((227 : Nat), none)] (cpk M 227 229 0 0 1244) M137 := (fr_t (fr_p (fr_p (fr_p (fr_t fr_0 hf29 (by decide)) (Or.inr (by decide))) (Or.inl (by decide))) (Or.inr (by decide))) hf137 (by decide))
          have t9 : TR (nup (v_val f e N).2.2 7 (N 7 + 1)) (hts ((nup (v_val f e N).2.2 7 (N 7 + 1)) 13)) M137 := ⟨(congrArg ws (funext fun j => fr_c hf137 (by decide))).trans h136, fun y y0 y1 => ⟨hh137 y y0 y1, hts_b⟩⟩
          have bw9 : BW M M137 := ⟨fun j hj => (fr_c hf137 (by decide)).trans ((uM_ne (by omega)).trans ((uM_ne (by omega)).trans ((uM_ne (by omega)).trans ((bw29.1 j hj).trans (cpk_o (by omega)))))), (fr_c hf137 (by decide)).trans ((uM_ne (by omega)).trans ((uM_ne (by omega)).trans ((uM_ne (by omega)).trans (bw29.2.trans (cpk_o (by omega))))))⟩
          exact gm_r_int (pc := 147) (by decide +kernel) (Or.inl (by decide +kernel)) (hq _ (fr_t (fr_t fr_0 cpk_fr (by decide)) f9 (by decide)) hv29 (by omega) g92 t9 bw9 ((fr_j hf137 (by decide)).trans ((uM_ne (by omega)).trans ((uM_ne (by omega)).trans uM_at))) ((fr_j hf137 (by decide)).trans ((uM_ne (by omega)).trans ((uM_ne (by omega)).trans ((uM_ne (by omega)).trans z8)))) ((fr_j hf137 (by decide)).trans ((uM_ne (by omega)).trans ((uM_ne (by omega)).trans ((uM_ne (by omega)).trans z0)))) ((fr_j hf137 (by decide)).trans uM_at) h26)
        · have h76 : (N 7) = 12 := Classical.not_not.mp h76
          refine gm_sz (gm_p_const (pc := 79) (i := .iconst 1) (v := gm_vi 1) (by decide +kernel) (by decide +kernel)) ?_
          refine gm_sz (gm_p_goto (pc := 80) (off := 4) (by decide +kernel) (by decide)) ?_
          refine gm_sz (gm_p_const (pc := 84) (i := .iconst 2) (v := gm_vi 2) (by decide +kernel) (by decide +kernel)) ?_
          refine gm_c_virt (k := 226) (ci := 11) (mj := 282) (ix := 300) (pc := 85) (as := [gm_vi 1, gm_vi 2]) (st := []) (d' := d - 1) (bc' := 0) (bs' := 0) (by decide +kernel) (by decide +kernel) (by decide +kernel) (by decide +kernel) (e0k hE (k := 226) (c := 11) (by decide +kernel)).1 (e0k hE (k := 226) (c := 11) (by decide +kernel)).2 (by decide) (by decide +kernel) (show 2 = gm_na 282 by decide +kernel) (fw_c2 fw_si fw_si) (show 3 ≤ gm_ml 282 by decide +kernel) (Nat.le_of_ble_eq_true rfl) (by omega) (Nat.zero_le _) (Nat.zero_le _) ?_
          refine tf_1 hE ?_
          show gm_Wp X LX d _ _ 242 88 _ [gm_vi 1] n K _ _ Q
          refine fw_iffd (cc := .eq) (pc := 88) (off := 32) (by decide +kernel) (by decide) ⟨by decide, by decide⟩ (by decide) ?_
          refine gm_sz (gm_p_const (pc := 91) (i := .iconst 0) (v := gm_vi 0) (by decide +kernel) (by decide +kernel)) ?_
          refine gm_sz (gm_p_stor (pc := 92) (i := .istore_n 2) (sr := 0) (j := 2) (by decide +kernel) rfl (show 3 ≤ _ from Nat.le_of_ble_eq_true rfl) rfl) ?_
          have f9 : fr [((226 : Nat), some (13 : Int)), ((226 : Nat), some (0 : Int)), ((226 : Nat), some (10 : Int)), ((226 : Nat), some (8 : Int)), ((226 : Nat), some (15 : Int)), ((226 : Nat), some (9 : Int)), ((226 : Nat), some (11 : Int)), ((227 : Nat), none)] (cpk M 227 229 0 0 1244) (gm_uM (gm_uM M29 226 13 (-1)) 226 0 2) := (fr_p (fr_p (fr_t fr_0 hf29 (by decide)) (Or.inr (by decide))) (Or.inr (by decide)))
          refine cp_242bz (M := (gm_uM (gm_uM M29 226 13 (-1)) 226 0 2)) (Q := Q) hE ?_
          refine gm_sz (gm_p_const (pc := 118) (i := .iconst 0) (v := gm_vi 0) (by decide +kernel) (by decide +kernel)) ?_
          refine gm_r_int (pc := 119) (by decide +kernel) (Or.inl (by decide +kernel)) (q1 _ (fr_t (fr_t (fr_t fr_0 cpk_fr (by decide)) f9 (by decide)) cpk_fr (by decide)) (fun j j0 j1 => ?_) hv29 (by omega) ((cpk_o (by omega)).trans ?_) ((cpk_o (by omega)).trans ?_) ((cpk_o (by omega)).trans ?_))
          · exact (cpk_i (by omega) (by omega)).trans ((fr_c f9 (by decide)).trans ((cpk_i (by omega) (by omega)).trans (congrArg (M 227) (by omega))))
          · exact ((uM_ne (by omega)).trans uM_at)
          · exact ((uM_ne (by omega)).trans ((uM_ne (by omega)).trans z8))
          · exact uM_at
      · have h51 : ¬ 0 ≤ k9 := h51
        exact absurd a1 (by omega)
    · have h35 : ¬ 0 ≤ k9 := h35
      exact absurd a1 (by omega)
  · show gm_Wp X LX d _ _ 242 32 _ [gm_vi (-1)] n K _ _ Q
    refine gm_sz (gm_p_stor (pc := 32) (i := .istore_n 1) (sr := 0) (j := 1) (by decide +kernel) rfl (show 2 ≤ _ from Nat.le_of_ble_eq_true rfl) rfl) ?_
    refine gm_sz (gm_p_load (pc := 33) (i := .aload_n 0) (sr := 2) (j := 0) (by decide +kernel) rfl rfl rfl) ?_
    refine gm_sz (gm_p_load (pc := 34) (i := .iload_n 1) (sr := 0) (j := 1) (by decide +kernel) rfl rfl rfl) ?_
    refine fw_iffd (cc := .ge) (pc := 35) (off := 10) (by decide +kernel) (by decide) ⟨by decide, by decide⟩ (by decide) ?_
    refine gm_sz (gm_p_load (pc := 38) (i := .aload_n 0) (sr := 2) (j := 0) (by decide +kernel) rfl rfl rfl) ?_
    refine gm_sz (fw_gi (pc := 39) (ix := 116) (ci := 11) (j := 11) (x := (v_val f e N).2.1) (by decide +kernel) (e0k hE (k := 226) (c := 11) (by decide +kernel)) (by decide +kernel) (by decide +kernel) z11) ?_
    refine gm_sz (gm_p_goto (pc := 42) (off := 4) (by decide +kernel) (by decide)) ?_
    refine gm_sz (fw_pi (pc := 46) (ix := 30) (ci := 11) (j := 13) (M' := gm_uM M29 226 13 ((v_val f e N).2.1)) (by decide +kernel) (e0k hE (k := 226) (c := 11) (by decide +kernel)) (by decide +kernel) (by decide +kernel) (by decide +kernel) rfl) ?_
    refine gm_sz (gm_p_load (pc := 49) (i := .aload_n 0) (sr := 2) (j := 0) (by decide +kernel) rfl rfl rfl) ?_
    refine gm_sz (gm_p_load (pc := 50) (i := .iload_n 1) (sr := 0) (j := 1) (by decide +kernel) rfl rfl rfl) ?_
    refine fw_iffd (cc := .ge) (pc := 51) (off := 7) (by decide +kernel) (by decide) ⟨by decide, by decide⟩ (by decide) ?_
    refine gm_sz (gm_p_const (pc := 54) (i := .iconst 1) (v := gm_vi 1) (by decide +kernel) (by decide +kernel)) ?_
    refine gm_sz (gm_p_goto (pc := 55) (off := 4) (by decide +kernel) (by decide)) ?_
    refine gm_sz (gm_p_const (pc := 59) (i := .iconst 1) (v := gm_vi 1) (by decide +kernel) (by decide +kernel)) ?_
    refine gm_c_virt (k := 226) (ci := 11) (mj := 282) (ix := 300) (pc := 60) (as := [gm_vi 1, gm_vi 1]) (st := []) (d' := d - 1) (bc' := 0) (bs' := 0) (by decide +kernel) (by decide +kernel) (by decide +kernel) (by decide +kernel) (e0k hE (k := 226) (c := 11) (by decide +kernel)).1 (e0k hE (k := 226) (c := 11) (by decide +kernel)).2 (by decide) (by decide +kernel) (show 2 = gm_na 282 by decide +kernel) (fw_c2 fw_si fw_si) (show 3 ≤ gm_ml 282 by decide +kernel) (Nat.le_of_ble_eq_true rfl) (by omega) (Nat.zero_le _) (Nat.zero_le _) ?_
    refine tf_1 hE ?_
    show gm_Wp X LX d _ _ 242 63 _ [gm_vi 1] n K _ _ Q
    refine fw_iftd (cc := .ne) (pc := 63) (off := 28) (by decide +kernel) (by decide) ⟨by decide, by decide⟩ (by decide) ?_
    refine gm_sz (gm_p_const (pc := 91) (i := .iconst 0) (v := gm_vi 0) (by decide +kernel) (by decide +kernel)) ?_
    refine gm_sz (gm_p_stor (pc := 92) (i := .istore_n 2) (sr := 0) (j := 2) (by decide +kernel) rfl (show 3 ≤ _ from Nat.le_of_ble_eq_true rfl) rfl) ?_
    have f9 : fr [((226 : Nat), some (13 : Int)), ((226 : Nat), some (0 : Int)), ((226 : Nat), some (10 : Int)), ((226 : Nat), some (8 : Int)), ((226 : Nat), some (15 : Int)), ((226 : Nat), some (9 : Int)), ((226 : Nat), some (11 : Int)), ((227 : Nat), none)] (cpk M 227 229 0 0 1244) (gm_uM (gm_uM M29 226 13 ((v_val f e N).2.1)) 226 0 1) := (fr_p (fr_p (fr_t fr_0 hf29 (by decide)) (Or.inr (by decide))) (Or.inr (by decide)))
    refine cp_242bz (M := (gm_uM (gm_uM M29 226 13 ((v_val f e N).2.1)) 226 0 1)) (Q := Q) hE ?_
    refine gm_sz (gm_p_const (pc := 118) (i := .iconst 0) (v := gm_vi 0) (by decide +kernel) (by decide +kernel)) ?_
    refine gm_r_int (pc := 119) (by decide +kernel) (Or.inl (by decide +kernel)) (q0 _ (fr_t (fr_t (fr_t fr_0 cpk_fr (by decide)) f9 (by decide)) cpk_fr (by decide)) (fun j j0 j1 => ?_) hv29 ((cpk_o (by omega)).trans ?_) ((cpk_o (by omega)).trans ?_) ((cpk_o (by omega)).trans ?_))
    · exact (cpk_i (by omega) (by omega)).trans ((fr_c f9 (by decide)).trans ((cpk_i (by omega) (by omega)).trans (congrArg (M 227) (by omega))))
    · exact ((uM_ne (by omega)).trans uM_at)
    · exact ((uM_ne (by omega)).trans ((uM_ne (by omega)).trans z8))
    · exact uM_at
end V6A
end
/-! 7a43.w1mk -/
section
/-! THE CLASS'S makeLaw: what the new law holds (laid by wip/core/w1.py). -/
section W1A
variable {X : Int → Int} {LX d bc bs n : Nat} {K : gm_K} {R : gm_R} {M : gm_M} {Q : gm_Q}
theorem nM_ne {a : Nat} {j : Int} (h : ¬ a = n + 1) : gm_nM M n a j = M a j := if_neg h
theorem nK_ne {a c l : Nat} (h : ¬ a = n + 1) : gm_nK K n c l a = K a := if_neg h
theorem nK_at {c l : Nat} : gm_nK K n c l (n + 1) = (c, l) := if_pos rfl
theorem nR_ne {a : Nat} {j : Int} (h : ¬ a = n + 1) : gm_nR R n a j = R a j := if_neg h
theorem mk_125 {n N : Nat} {K : gm_K} {R : gm_R} {M : gm_M} (hk : 1 ≤ 219 ∧ 219 ≤ n) (hK : (K 219).1 = 0) (h2 : (K 219).2 = 400) (hN : N ≤ 400) (hn9 : n + 1 < 100000) (hq : ∀ M' : gm_M, (∀ k j, k ≤ n → M' k j = M k j) → (∀ j, 0 ≤ j → j < (N : Int) → M' (n + 1) j = M 219 j) → Q (.inl (some (gm_vr (n + 1)))) (n + 1) (gm_nK K n 0 N) (gm_nR R n) M') : gm_Wp X LX 1 1 400 125 0 (gm_ent 125 [gm_vr 219, gm_vi (N : Int)]) [] n K R M Q := by
  have iN : gm_ir (N : Int) := ⟨by omega, by omega⟩
  have wN : gm_w (N : Int) = N := gm_w_id (by omega) (by omega)
  have tN : (gm_w (N : Int)).toNat = N := by rw [wN]; omega
  refine gm_sz (gm_p_load (pc := 0) (i := .iload_n 1) (sr := 0) (j := 1) (by decide +kernel) rfl rfl rfl) ?_
  refine gm_sz (gm_p_load (pc := 1) (i := .aload_n 0) (sr := 2) (j := 0) (by decide +kernel) rfl rfl rfl) ?_
  refine gm_sz (gm_p_alen (pc := 2) (by decide +kernel) hk (by omega)) ?_
  rw [show ((K 219).2 : Int) = 400 by rw [h2]; rfl]
  refine gm_b_ic (cc := .ne) (pc := 3) (off := 11) (by decide +kernel) (by decide) (fun _ => ?_) (fun hp => ?_)
  · skip
    refine gm_sz (gm_p_load (pc := 14) (i := .iload_n 1) (sr := 0) (j := 1) (by decide +kernel) rfl rfl rfl) ?_
    refine gm_sp (gm_p_newa (pc := 15) (at0 := .int) (kd := 0) (e0 := (N : Int)) hn9 (by decide +kernel) (Or.inl ⟨rfl, rfl⟩) ⟨by omega, by omega⟩) (Nat.le_refl 1) (by omega) ?_
    rw [tN]
    have k9 : gm_nK K n 0 N 219 = K 219 := by unfold gm_nK; rw [if_neg (by omega)]
    have kn : gm_nK K n 0 N (n + 1) = (0, N) := by unfold gm_nK; rw [if_pos rfl]
    refine gm_sz (gm_p_stor (pc := 17) (i := .astore_n 2) (sr := 2) (j := 2) (by decide +kernel) rfl (by show 2 + 0 < 3; decide) rfl) ?_
    refine gm_sz (gm_p_load (pc := 18) (i := .aload_n 0) (sr := 2) (j := 0) (by decide +kernel) rfl rfl rfl) ?_
    refine gm_sz (gm_p_const (pc := 19) (i := .iconst 0) (v := gm_vi 0) (by decide +kernel) (by decide +kernel)) ?_
    refine gm_sz (gm_p_load (pc := 20) (i := .aload_n 2) (sr := 2) (j := 2) (by decide +kernel) rfl rfl rfl) ?_
    refine gm_sz (gm_p_const (pc := 21) (i := .iconst 0) (v := gm_vi 0) (by decide +kernel) (by decide +kernel)) ?_
    refine gm_sz (gm_p_load (pc := 22) (i := .aload_n 0) (sr := 2) (j := 0) (by decide +kernel) rfl rfl rfl) ?_
    refine gm_sz (gm_p_alen (pc := 23) (by decide +kernel) ⟨hk.1, by omega⟩ (by rw [k9]; omega)) ?_
    rw [show ((gm_nK K n 0 N 219).2 : Int) = 400 by rw [k9, h2]; rfl]
    refine gm_sz (gm_p_load (pc := 24) (i := .iload_n 1) (sr := 0) (j := 1) (by decide +kernel) rfl rfl rfl) ?_
    refine gm_sz (gm_p_min (pc := 25) (ix := 304) (x := 400) (y := (N : Int)) (by decide +kernel) (by decide +kernel) (by decide) wN (Nat.le_of_ble_eq_true rfl) (Nat.le_refl 1)) ?_
    rw [show min (400 : Int) (N : Int) = N by omega]
    refine gm_sz (gm_p_acopy (pc := 28) (ix := 150) (k1 := 219) (k2 := n + 1) (sp := 0) (dp := 0) (m := (N : Int)) (by decide +kernel) (by decide +kernel) ⟨hk.1, by omega⟩ (by rw [k9]; exact hK) ⟨by omega, Nat.le_refl _⟩ (by rw [kn]) (by decide) (by decide) wN (by decide) (by decide) (by omega) (by rw [k9, h2]; omega) (by rw [kn]; show 0 + (N : Int) ≤ (N : Int); omega) (by simp) (Nat.le_refl 1)) ?_
    refine gm_sz (gm_p_load (pc := 31) (i := .aload_n 2) (sr := 2) (j := 2) (by decide +kernel) rfl rfl rfl) ?_
    refine gm_r_ref (pc := 32) (by decide +kernel) (Or.inr ⟨.int, by decide +kernel⟩) (hq _ (fun k j hk => ?_) (fun j j0 j1 => ?_))
    · unfold gm_cpM
      rw [if_neg (fun h => by omega)]
      unfold gm_nM
      rw [if_neg (by omega)]
    · exact (cpM_at j0 j1).trans (nM_ne (by omega))
  · have ip : gm_ir (400 : Int) := ⟨by decide, by decide⟩
    rw [gm_cm_w iN ip] at hp
    have hp : ¬ ((N : Int) ≠ 400) := hp
    have e : N = 400 := by omega
    subst e
    refine gm_sz (gm_p_load (pc := 6) (i := .aload_n 0) (sr := 2) (j := 0) (by decide +kernel) rfl rfl rfl) ?_
    refine gm_sp (gm_p_clone (pc := 7) hn9 (by decide +kernel) (by decide +kernel) hk hK (by decide) (Nat.le_refl 1)) (Nat.le_refl 1) (by omega) ?_
    rw [h2]
    refine gm_sz (gm_p_castA (pc := 10) (by decide +kernel) (by decide +kernel) ⟨by omega, Nat.le_refl _⟩ (by unfold gm_nK; rw [if_pos rfl])) ?_
    refine gm_r_ref (pc := 13) (by decide +kernel) (Or.inr ⟨.int, by decide +kernel⟩) (hq _ (fun k j hk => ?_) (fun j j0 j1 => ?_))
    · unfold gm_clM
      rw [if_neg (by omega)]
    · unfold gm_clM
      rw [if_pos rfl]

variable {c a t r len : Nat} {m z : Int}
theorem rw_copy1 (hd : 1 ≤ d) (hk : (1 ≤ c ∧ c ≤ n) ∧ (K c).1 = 2 + 4) (hs : (1 ≤ r ∧ r ≤ n) ∧ (K r).1 = 2 + 4) (ha : (1 ≤ a ∧ a ≤ n) ∧ K a = (0, len)) (ht : (1 ≤ t ∧ t ≤ n) ∧ K t = (0, len)) (hra : R c ((2 : Nat) : Int) = a) (hrt : R r ((2 : Nat) : Int) = t) (hl : len < 2147483648) (hm : M c 0 = m) (hz : M r 3 = z) (hb : 0 ≤ z ∧ z ≤ m ∧ m ≤ 100000) (hq : Q (.inl none) n K R (gm_cpM (gm_uM M c 3 z) t a 0 0 (len : Int))) : gm_Wp X LX d bc bs 58 0 (gm_ent 58 [gm_vr c, gm_vr r]) [] n K R M Q := by
  refine gm_sz (gm_p_load (pc := 0) (i := .aload_n 0) (sr := 2) (j := 0) (by decide +kernel) rfl rfl rfl) ?_
  refine gm_sz (gm_p_load (pc := 1) (i := .aload_n 1) (sr := 2) (j := 1) (by decide +kernel) rfl rfl rfl) ?_
  refine gm_sz (fw_gi (pc := 2) (ix := 9) (ci := 2) (j := 3) (x := z) (by decide +kernel) hs (by decide +kernel) (by decide +kernel) hz) ?_
  refine gm_sz (gm_p_load (pc := 5) (i := .aload_n 0) (sr := 2) (j := 0) (by decide +kernel) rfl rfl rfl) ?_
  refine gm_sz (fw_gi (pc := 6) (ix := 15) (ci := 2) (j := 0) (x := m) (by decide +kernel) hk (by decide +kernel) (by decide +kernel) hm) ?_
  refine gm_sz (gm_p_min (pc := 9) (ix := 25) (x := z) (y := m) (by decide +kernel) (by decide +kernel) (gm_w_id (by omega) (by omega)) (gm_w_id (by omega) (by omega)) (Nat.le_of_ble_eq_true rfl) (by omega)) ?_
  rw [show min z m = z by omega]
  refine gm_sz (fw_pi (pc := 12) (ix := 9) (ci := 2) (j := 3) (M' := gm_uM M c 3 z) (by decide +kernel) hk (by decide +kernel) (by decide +kernel) (by decide +kernel) rfl) ?_
  refine gm_sz (gm_p_load (pc := 15) (i := .aload_n 1) (sr := 2) (j := 1) (by decide +kernel) rfl rfl rfl) ?_
  refine gm_sz (fw_gr (pc := 16) (ix := 21) (ci := 2) (j := 2) (r := t) (by decide +kernel) hs (by decide +kernel) (by decide +kernel) hrt) ?_
  refine gm_sz (gm_p_const (pc := 19) (i := .iconst 0) (v := gm_vi 0) (by decide +kernel) (by decide +kernel)) ?_
  refine gm_sz (gm_p_load (pc := 20) (i := .aload_n 0) (sr := 2) (j := 0) (by decide +kernel) rfl rfl rfl) ?_
  refine gm_sz (fw_gr (pc := 21) (ix := 21) (ci := 2) (j := 2) (r := a) (by decide +kernel) hk (by decide +kernel) (by decide +kernel) hra) ?_
  refine gm_sz (gm_p_const (pc := 24) (i := .iconst 0) (v := gm_vi 0) (by decide +kernel) (by decide +kernel)) ?_
  refine gm_sz (gm_p_load (pc := 25) (i := .aload_n 1) (sr := 2) (j := 1) (by decide +kernel) rfl rfl rfl) ?_
  refine gm_sz (fw_gr (pc := 26) (ix := 21) (ci := 2) (j := 2) (r := t) (by decide +kernel) hs (by decide +kernel) (by decide +kernel) hrt) ?_
  refine gm_sz (fw_al (pc := 29) (k := t) (len := len) (by decide +kernel) ht.1 ht.2 (by decide)) ?_
  refine gm_sz (gm_p_load (pc := 30) (i := .aload_n 0) (sr := 2) (j := 0) (by decide +kernel) rfl rfl rfl) ?_
  refine gm_sz (fw_gr (pc := 31) (ix := 21) (ci := 2) (j := 2) (r := a) (by decide +kernel) hk (by decide +kernel) (by decide +kernel) hra) ?_
  refine gm_sz (fw_al (pc := 34) (k := a) (len := len) (by decide +kernel) ha.1 ha.2 (by decide)) ?_
  refine gm_sz (gm_p_min (pc := 35) (ix := 25) (x := (len : Int)) (y := (len : Int)) (by decide +kernel) (by decide +kernel) (gm_w_id (by omega) (by omega)) (gm_w_id (by omega) (by omega)) (Nat.le_of_ble_eq_true rfl) (by omega)) ?_
  rw [show min (len : Int) (len : Int) = (len : Int) by omega]
  refine gm_sz (gm_p_acopy (pc := 38) (ix := 40) (k1 := t) (k2 := a) (sp := 0) (dp := 0) (m := (len : Int)) (by decide +kernel) (by decide +kernel) ht.1 (by rw [ht.2]) ha.1 (by rw [ha.2]) (by decide) (by decide) (gm_w_id (by omega) (by omega)) (by decide) (by decide) (by omega) (by rw [ht.2]; show 0 + (len : Int) ≤ (len : Int); omega) (by rw [ha.2]; show 0 + (len : Int) ≤ (len : Int); omega) (Nat.le_of_ble_eq_true rfl) (by omega)) ?_
  exact gm_r_void (pc := 41) (by decide +kernel) (by decide +kernel) hq

theorem mk_2 (hd : 1 ≤ d) (hbc : 1 ≤ bc) (hbs : 48 ≤ bs) (hk : (1 ≤ 248 ∧ 248 ≤ 248) ∧ (K 248).1 = 2 + 4) (hq : Q (.inl none) 249 (gm_nK K 248 0 48) (gm_uR (gm_nR R 248) 248 2 249) (gm_nM (gm_uM (gm_uM (gm_uM M 248 3 0) 248 0 12) 248 1 4) 248)) : gm_Wp X LX d bc bs 2 0 (gm_ent 2 [gm_vr 248, gm_vi 12, gm_vi 4]) [] 248 K R M Q := by
  refine gm_sz (gm_p_load (pc := 0) (i := .aload_n 0) (sr := 2) (j := 0) (by decide +kernel) rfl rfl rfl) ?_
  refine gm_sz (gm_p_oinit (pc := 1) (ix := 3) (by decide +kernel) (by decide +kernel) hk.1 (by decide) hd) ?_
  refine gm_sz (gm_p_load (pc := 4) (i := .aload_n 0) (sr := 2) (j := 0) (by decide +kernel) rfl rfl rfl) ?_
  refine gm_sz (gm_p_const (pc := 5) (i := .iconst 0) (v := gm_vi 0) (by decide +kernel) (by decide +kernel)) ?_
  refine gm_sz (fw_pi (pc := 6) (ix := 9) (ci := 2) (j := 3) (M' := gm_uM M 248 3 0) (by decide +kernel) hk (by decide +kernel) (by decide +kernel) (by decide +kernel) rfl) ?_
  refine gm_sz (gm_p_load (pc := 9) (i := .aload_n 0) (sr := 2) (j := 0) (by decide +kernel) rfl rfl rfl) ?_
  refine gm_sz (gm_p_load (pc := 10) (i := .iload_n 1) (sr := 0) (j := 1) (by decide +kernel) rfl rfl rfl) ?_
  refine gm_sz (fw_pi (pc := 11) (ix := 15) (ci := 2) (j := 0) (M' := gm_uM (gm_uM M 248 3 0) 248 0 12) (by decide +kernel) hk (by decide +kernel) (by decide +kernel) (by decide +kernel) rfl) ?_
  refine gm_sz (gm_p_load (pc := 14) (i := .aload_n 0) (sr := 2) (j := 0) (by decide +kernel) rfl rfl rfl) ?_
  refine gm_sz (gm_p_load (pc := 15) (i := .iload_n 2) (sr := 0) (j := 2) (by decide +kernel) rfl rfl rfl) ?_
  refine gm_sz (fw_pi (pc := 16) (ix := 18) (ci := 2) (j := 1) (M' := gm_uM (gm_uM (gm_uM M 248 3 0) 248 0 12) 248 1 4) (by decide +kernel) hk (by decide +kernel) (by decide +kernel) (by decide +kernel) rfl) ?_
  refine gm_sz (gm_p_load (pc := 19) (i := .aload_n 0) (sr := 2) (j := 0) (by decide +kernel) rfl rfl rfl) ?_
  refine gm_sz (gm_p_load (pc := 20) (i := .iload_n 1) (sr := 0) (j := 1) (by decide +kernel) rfl rfl rfl) ?_
  refine gm_sz (gm_p_load (pc := 21) (i := .iload_n 2) (sr := 0) (j := 2) (by decide +kernel) rfl rfl rfl) ?_
  refine gm_sz (gm_p_bin (pc := 22) (i := .imul) (f := fun x y => x * y) (by decide +kernel) rfl) ?_
  refine gm_sp (gm_p_newa (pc := 23) (at0 := .int) (kd := 0) (e0 := 12 * 4) (by decide) (by decide +kernel) (Or.inl ⟨rfl, rfl⟩) (by decide +kernel)) hbc (show (gm_w (12 * 4)).toNat ≤ bs by rw [show (gm_w (12 * 4)).toNat = 48 by decide +kernel]; exact hbs) ?_
  rw [show (gm_w (12 * 4)).toNat = 48 by decide +kernel]
  refine gm_sz (gm_p_putr (pc := 25) (ix := 21) (ci := 2) (j := 2) (by decide +kernel) ⟨by decide, by decide⟩ ((congrArg Prod.fst (nK_ne (by decide))).trans hk.2) (by decide +kernel) (by decide +kernel) (by decide +kernel)) ?_
  exact gm_r_void (pc := 28) (by decide +kernel) (by decide +kernel) hq
theorem mk_126 (hd : 2 ≤ d) (hbc : 2 ≤ bc) (hbs : 52 ≤ bs) (hk : (1 ≤ 246 ∧ 246 ≤ 247) ∧ (K 246).1 = 10 + 4) (k217 : (K 217).1 = 2 + 4) (k218 : K 218 = (0, 48)) (r217 : R 217 2 = 218) (hz : M 217 3 = z) (hz0 : 0 ≤ z ∧ z ≤ 12) (hq : Q (.inl none) 249 (gm_nK (gm_nK K 247 6 0) 248 0 48) (gm_uR (gm_uR (gm_uR (gm_nR (gm_nR R 247) 248) 248 2 249) 246 0 248) 246 1 247) (gm_cpM (gm_uM (gm_nM (gm_uM (gm_uM (gm_uM (gm_nM M 247) 248 3 0) 248 0 12) 248 1 4) 248) 248 3 z) 218 249 0 0 ((48 : Nat) : Int))) : gm_Wp X LX d bc bs 126 0 (gm_ent 126 [gm_vr 246, gm_vr 217, gm_vr 247]) [] 247 K R M Q := by
  refine gm_sz (gm_p_load (pc := 0) (i := .aload_n 0) (sr := 2) (j := 0) (by decide +kernel) rfl rfl rfl) ?_
  refine gm_sz (gm_p_oinit (pc := 1) (ix := 3) (by decide +kernel) (by decide +kernel) hk.1 (by decide) (by omega)) ?_
  refine gm_sz (gm_p_load (pc := 4) (i := .aload_n 0) (sr := 2) (j := 0) (by decide +kernel) rfl rfl rfl) ?_
  refine gm_sp (gm_p_new (pc := 5) (ix := 9) (ci := 2) (by decide) (by decide +kernel) (by decide +kernel)) (show 1 ≤ bc by omega) (show gm_nf 2 ≤ bs by rw [show gm_nf 2 = 4 by decide +kernel]; omega) ?_
  refine gm_sz (gm_p_dup (pc := 8) (by decide +kernel) fw_sr) ?_
  refine gm_sz (gm_p_const (pc := 9) (i := .bipush 12) (v := gm_vi 12) (by decide +kernel) (by decide +kernel)) ?_
  refine gm_sz (gm_p_const (pc := 11) (i := .iconst 4) (v := gm_vi 4) (by decide +kernel) (by decide +kernel)) ?_
  refine gm_c_init (kd := 1) (mj := 2) (ix := 11) (pc := 12) (k := 248) (as := [gm_vi 12, gm_vi 4]) (st := [gm_vr 248, gm_vr 246]) (d' := 1) (bc' := 1) (bs' := 48) (by decide +kernel) (by decide +kernel) (Or.inl rfl) (by decide +kernel) (by decide +kernel) ⟨by decide, by decide⟩ (show 2 = gm_na 2 by decide +kernel) (fun v hv => by simp only [List.mem_cons, List.not_mem_nil, or_false] at hv; rcases hv with rfl | rfl <;> simp [gm_sort]) (show 2 + 1 ≤ gm_ml 2 by decide +kernel) (Nat.le_of_ble_eq_true rfl) (by omega) (by omega) (show 48 ≤ bs - gm_nf 2 by rw [show gm_nf 2 = 4 by decide +kernel]; omega) ?_
  refine mk_2 (Nat.le_refl _) (Nat.le_refl _) (Nat.le_refl _) ⟨⟨by decide, by decide⟩, congrArg Prod.fst nK_at⟩ ?_
  show gm_Wp X LX d _ _ 126 15 _ [gm_vr 248, gm_vr 246] 249 _ _ _ Q
  have k6 : (gm_nK (gm_nK K 247 6 0) 248 0 48 246).1 = 10 + 4 := (congrArg Prod.fst ((nK_ne (by decide)).trans (nK_ne (by decide)))).trans hk.2
  have k8 : (gm_nK (gm_nK K 247 6 0) 248 0 48 248).1 = 2 + 4 := congrArg Prod.fst ((nK_ne (by decide)).trans nK_at)
  refine gm_sz (gm_p_putr (pc := 15) (ix := 14) (ci := 10) (j := 0) (by decide +kernel) ⟨by decide, by decide⟩ k6 (by decide +kernel) (by decide +kernel) (by decide +kernel)) ?_
  refine gm_sz (gm_p_load (pc := 18) (i := .aload_n 0) (sr := 2) (j := 0) (by decide +kernel) rfl rfl rfl) ?_
  refine gm_sz (fw_gr (pc := 19) (ix := 14) (ci := 10) (j := 0) (r := 248) (by decide +kernel) ⟨⟨by decide, by decide⟩, k6⟩ (by decide +kernel) (by decide +kernel) uR_at) ?_
  refine gm_sz (gm_p_load (pc := 22) (i := .aload_n 1) (sr := 2) (j := 1) (by decide +kernel) rfl rfl rfl) ?_
  refine gm_c_virt (k := 248) (ci := 2) (mj := 58) (ix := 18) (pc := 23) (as := [gm_vr 217]) (st := []) (d' := d - 1) (bc' := 0) (bs' := 0) (by decide +kernel) (by decide +kernel) (by decide +kernel) (by decide +kernel) ⟨by decide, by decide⟩ k8 (by decide) (by decide +kernel) (show 1 = gm_na 58 by decide +kernel) (fw_c1 fw_sr) (show 2 ≤ gm_ml 58 by decide +kernel) (Nat.le_of_ble_eq_true rfl) (by omega) (Nat.zero_le _) (Nat.zero_le _) ?_
  refine rw_copy1 (c := 248) (r := 217) (a := 249) (t := 218) (len := 48) (m := 12) (z := z) (by omega) ⟨⟨by decide, by decide⟩, k8⟩ ⟨⟨by decide, by decide⟩, (congrArg Prod.fst ((nK_ne (by decide)).trans (nK_ne (by decide)))).trans k217⟩ ⟨⟨by decide, by decide⟩, nK_at⟩ ⟨⟨by decide, by decide⟩, ((nK_ne (by decide)).trans (nK_ne (by decide))).trans k218⟩ ((uR_ne (by omega)).trans uR_at) ((uR_ne (by omega)).trans ((uR_ne (by omega)).trans ((nR_ne (by decide)).trans ((nR_ne (by decide)).trans r217)))) (by decide) ?_ ?_ ⟨hz0.1, hz0.2, by decide⟩ ?_
  · exact (nM_ne (by decide)).trans ((uM_ne (by omega)).trans uM_at)
  · exact (nM_ne (by decide)).trans ((uM_ne (by omega)).trans ((uM_ne (by omega)).trans ((uM_ne (by omega)).trans ((nM_ne (by decide)).trans hz))))
  show gm_Wp X LX d _ _ 126 26 _ [] 249 _ _ _ Q
  refine gm_sz (gm_p_load (pc := 26) (i := .aload_n 0) (sr := 2) (j := 0) (by decide +kernel) rfl rfl rfl) ?_
  refine gm_sz (gm_p_load (pc := 27) (i := .aload_n 2) (sr := 2) (j := 2) (by decide +kernel) rfl rfl rfl) ?_
  refine gm_sz (gm_p_putr (pc := 28) (ix := 22) (ci := 10) (j := 1) (by decide +kernel) ⟨by decide, by decide⟩ k6 (by decide +kernel) (by decide +kernel) (by decide +kernel)) ?_
  exact gm_r_void (pc := 31) (by decide +kernel) (by decide +kernel) hq
/-- what the new law holds: codes, lines; and what stands as it was -/
noncomputable def mkN (N : Nat) (z : Int) (K0 : gm_K) (R0 : gm_R) (M0 : gm_M) (K : gm_K) (R : gm_R) (M : gm_M) : Prop := ((∀ c, c ≤ 245 → K c = K0 c) ∧ (∀ c j, c ≤ 245 → R c j = R0 c j) ∧ ∀ c j, c ≤ 245 → M c j = M0 c j) ∧ (K 246 = (14, 0) ∧ K 247 = (0, N) ∧ K 248 = (6, 0) ∧ K 249 = (0, 48)) ∧ (R 246 0 = 248 ∧ R 246 1 = 247 ∧ R 248 2 = 249) ∧ (M 248 0 = 12 ∧ M 248 1 = 4 ∧ M 248 3 = z) ∧ (∀ j, 0 ≤ j → j < 48 → M 249 j = M0 218 j) ∧ ∀ j, 0 ≤ j → j < (N : Int) → M 247 j = M0 219 j
theorem mk_124 {N : Nat} (hE : E0 245 K R) (hN : N ≤ 400) (hu : M 215 4 = N) (hz : M 217 3 = z) (hz0 : 0 ≤ z ∧ z ≤ 12) (hq : ∀ K' R' M', mkN N z K R M K' R' M' → Q (.inl (some (gm_vr 246))) 249 K' R' M') : gm_Wp X LX 3 4 454 124 0 (gm_ent 124 [gm_vr 215]) [] 245 K R M Q := by
  have k215 := e0k hE (k := 215) (c := 9) (by decide +kernel)
  have k219 := e0a hE (k := 219) (q := ((0 : Nat), (400 : Nat))) (by decide +kernel)
  have k217 := e0a hE (k := 217) (q := ((6 : Nat), (0 : Nat))) (by decide +kernel)
  have k218 := e0a hE (k := 218) (q := ((0 : Nat), (48 : Nat))) (by decide +kernel)
  have r2152 := e0r hE (k := 215) (j := 2) (r := 217) (by decide +kernel)
  have r2153 := e0r hE (k := 215) (j := 3) (r := 219) (by decide +kernel)
  have r217 := e0r hE (k := 217) (j := 2) (r := 218) (by decide +kernel)
  refine gm_sp (gm_p_new (pc := 0) (ix := 32) (ci := 10) (by decide) (by decide +kernel) (by decide +kernel)) (by decide) (by decide +kernel) ?_
  have k5 : (1 ≤ 215 ∧ 215 ≤ 246) ∧ (gm_nK K 245 14 0 215).1 = 9 + 4 := ⟨⟨by decide, by decide⟩, (congrArg Prod.fst (nK_ne (by decide))).trans k215.2⟩
  refine gm_sz (gm_p_dup (pc := 3) (by decide +kernel) fw_sr) ?_
  refine gm_sz (gm_p_load (pc := 4) (i := .aload_n 0) (sr := 2) (j := 0) (by decide +kernel) rfl rfl rfl) ?_
  refine gm_sz (fw_gr (pc := 5) (ix := 14) (ci := 9) (j := 2) (r := 217) (by decide +kernel) k5 (by decide +kernel) (by decide +kernel) ((nR_ne (by decide)).trans r2152)) ?_
  refine gm_sz (gm_p_load (pc := 8) (i := .aload_n 0) (sr := 2) (j := 0) (by decide +kernel) rfl rfl rfl) ?_
  refine gm_sz (fw_gr (pc := 9) (ix := 20) (ci := 9) (j := 3) (r := 219) (by decide +kernel) k5 (by decide +kernel) (by decide +kernel) ((nR_ne (by decide)).trans r2153)) ?_
  refine gm_sz (gm_p_load (pc := 12) (i := .aload_n 0) (sr := 2) (j := 0) (by decide +kernel) rfl rfl rfl) ?_
  refine gm_sz (fw_gi (pc := 13) (ix := 24) (ci := 9) (j := 4) (x := (N : Int)) (by decide +kernel) k5 (by decide +kernel) (by decide +kernel) ((nM_ne (by decide)).trans hu)) ?_
  refine gm_c_stat (mj := 125) (ix := 34) (pc := 16) (as := [gm_vr 219, gm_vi (N : Int)]) (st := [gm_vr 217, gm_vr 246, gm_vr 246]) (d' := 1) (bc' := 1) (bs' := 400) (by decide +kernel) (by decide +kernel) (by decide +kernel) (by decide +kernel) (show 2 = gm_na 125 by decide +kernel) (fun v hv => by simp only [List.mem_cons, List.not_mem_nil, or_false] at hv; rcases hv with rfl | rfl <;> simp [gm_sort]) (show 2 ≤ gm_ml 125 by decide +kernel) (Nat.le_of_ble_eq_true rfl) (by decide) (by decide) (by decide +kernel) ?_
  have k9 : gm_nK K 245 14 0 219 = (0, 400) := (nK_ne (by decide)).trans k219.2
  refine mk_125 ⟨by decide, by decide⟩ (congrArg Prod.fst k9) (congrArg Prod.snd k9) hN (by decide) (fun M2 hM2 hc2 => ?_)
  show gm_Wp X LX 3 (4 - 1 - 1) _ 124 19 (gm_ent 124 [gm_vr 215]) [gm_vr 247, gm_vr 217, gm_vr 246, gm_vr 246] 247 (gm_nK (gm_nK K 245 14 0) 246 0 N) (gm_nR (gm_nR R 245) 246) M2 Q
  refine gm_c_init (kd := 1) (mj := 126) (ix := 40) (pc := 19) (k := 246) (as := [gm_vr 217, gm_vr 247]) (st := [gm_vr 246]) (d' := 2) (bc' := 2) (bs' := 52) (by decide +kernel) (by decide +kernel) (Or.inl rfl) (by decide +kernel) (by decide +kernel) ⟨by decide, by decide⟩ (show 2 = gm_na 126 by decide +kernel) (fun v hv => by simp only [List.mem_cons, List.not_mem_nil, or_false] at hv; rcases hv with rfl | rfl <;> simp [gm_sort]) (show 2 + 1 ≤ gm_ml 126 by decide +kernel) (Nat.le_of_ble_eq_true rfl) (by decide) (by decide) (by decide +kernel) ?_
  have m2 : ∀ c j, c ≤ 245 → M2 c j = M c j := fun c j hc => (hM2 c j (by omega)).trans (nM_ne (by omega))
  have kk : ∀ c, c ≤ 245 → gm_nK (gm_nK K 245 14 0) 246 0 N c = K c := fun c hc => (nK_ne (by omega)).trans (nK_ne (by omega))
  have rr : ∀ c j, c ≤ 245 → gm_nR (gm_nR R 245) 246 c j = R c j := fun c j hc => (nR_ne (by omega)).trans (nR_ne (by omega))
  refine mk_126 (z := z) (by decide) (by decide) (by decide) ⟨⟨by decide, by decide⟩, congrArg Prod.fst ((nK_ne (by decide)).trans nK_at)⟩ (by rw [kk 217 (by decide), k217.2]) ((kk 218 (by decide)).trans k218.2) ((rr 217 2 (by decide)).trans r217) ((m2 217 3 (by decide)).trans hz) hz0 ?_
  show gm_Wp X LX 3 _ _ 124 22 (gm_ent 124 [gm_vr 215]) [gm_vr 246] 249 _ _ _ Q
  refine gm_r_ref (pc := 22) (by decide +kernel) (Or.inl ⟨"GlacierMail$Law", (by decide +kernel)⟩) (hq _ _ _ ⟨⟨fun c hc => ?_, fun c j hc => ?_, fun c j hc => ?_⟩, ⟨?_, ?_, ?_, nK_at⟩, ⟨?_, uR_at, ?_⟩, ⟨?_, ?_, ?_⟩, fun j j0 j1 => ?_, fun j j0 j1 => ?_⟩)
  · exact (nK_ne (by omega)).trans ((nK_ne (by omega)).trans (kk c hc))
  · exact (uR_ne (by omega)).trans ((uR_ne (by omega)).trans ((uR_ne (by omega)).trans ((nR_ne (by omega)).trans ((nR_ne (by omega)).trans (rr c j hc)))))
  · exact (cpM_ne (by omega)).trans ((uM_ne (by omega)).trans ((nM_ne (by omega)).trans ((uM_ne (by omega)).trans ((uM_ne (by omega)).trans ((uM_ne (by omega)).trans ((nM_ne (by omega)).trans (m2 c j hc)))))))
  · exact (nK_ne (by decide)).trans ((nK_ne (by decide)).trans ((nK_ne (by decide)).trans nK_at))
  · exact (nK_ne (by decide)).trans ((nK_ne (by decide)).trans nK_at)
  · exact (nK_ne (by decide)).trans nK_at
  · exact (uR_ne (by omega)).trans uR_at
  · exact (uR_ne (by omega)).trans ((uR_ne (by omega)).trans uR_at)
  · exact (cpM_ne (by decide)).trans ((uM_ne (by omega)).trans ((nM_ne (by decide)).trans ((uM_ne (by omega)).trans uM_at)))
  · exact (cpM_ne (by decide)).trans ((uM_ne (by omega)).trans ((nM_ne (by decide)).trans uM_at))
  · exact (cpM_ne (by decide)).trans uM_at
  · exact (cpM_at j0 j1).trans ((uM_ne (by omega)).trans ((nM_ne (by decide)).trans ((uM_ne (by omega)).trans ((uM_ne (by omega)).trans ((uM_ne (by omega)).trans ((nM_ne (by decide)).trans (m2 218 j (by decide))))))))
  · exact (cpM_ne (by decide)).trans ((uM_ne (by omega)).trans ((nM_ne (by decide)).trans ((uM_ne (by omega)).trans ((uM_ne (by omega)).trans ((uM_ne (by omega)).trans ((nM_ne (by decide)).trans ((hc2 j j0 j1).trans (nM_ne (by decide)))))))))
end W1A
end
/-! 7a44.w2kf -/
section
/-! THE CLASS'S readText OF A LAW, with what it leaves alone (laid by wip/core/w2.py). -/
section W2A
variable {X : Int → Int} {LX d bc bs n : Nat} {K K2 : gm_K} {R R1 R2 : gm_R} {M M1 : gm_M} {Q : gm_Q} {e e0 b w us lc x p k v : Int} {D C D2 C2 : Int → Int} {ls : List lln}
noncomputable def kxw (c : Nat) (j : Int) : Prop := c = 216 ∨ c = 218 ∨ c = 219 ∨ (c = 215 ∧ j = 4) ∨ (c = 217 ∧ j = 3)
noncomputable def kxf (R : gm_R) (M : gm_M) (R2 : gm_R) (M2 : gm_M) : Prop := (∀ (c : Nat) (j : Int), c ≤ 245 → ¬ kxw c j → M2 c j = M c j) ∧ ∀ (c : Nat) (j : Int), c ≤ 245 → R2 c j = R c j
theorem kxf_ct (h : kxf R M R1 M1) : kxf R M R1 (ct (gm_uM M1 216 2 x) e b w us lc D C) := by
  refine ⟨fun c j hc hn => ?_, h.2⟩
  have h9 := h.1 c j hc hn
  unfold kxw at hn
  have q : gm_uM M1 216 2 x c j = M c j := (uM_ne (by omega)).trans h9
  unfold ct cm
  rw [if_neg (by omega)]
  by_cases a15 : c = 215
  · rw [if_pos a15, if_neg (by omega)]
    exact q
  rw [if_neg a15]
  by_cases a17 : c = 217
  · rw [if_pos a17, if_neg (by omega)]
    exact q
  rw [if_neg a17, if_neg (by omega), if_neg (by omega)]
  exact q
theorem cdl_same (h : cdl ls us D C) (hl : ls.length ≤ 12) (hD : ∀ j, 0 ≤ j → j < 48 → D2 j = D j) (hC : ∀ j, 0 ≤ j → j < us → C2 j = C j) : cdl ls us D2 C2 := by
  refine ⟨fun k x hx => ?_, fun i i0 i1 => by rw [hC i i0 i1]; exact h.2.1 i i0 i1, fun k hk => ?_⟩
  · have hk : k < ls.length := (List.getElem?_eq_some_iff.mp hx).1
    obtain ⟨a1, a2, a3, a4⟩ := h.1 k x hx
    obtain ⟨⟨b1, b2, b3⟩, -⟩ := h.2.2 k hk
    rw [hD ((k : Int) * 4 + 0) (by omega) (by omega), hD ((k : Int) * 4 + 1) (by omega) (by omega), hD ((k : Int) * 4 + 2) (by omega) (by omega), hD ((k : Int) * 4 + 3) (by omega) (by omega)]
    refine ⟨a1, a2, a3, fun t ht => ?_⟩
    obtain ⟨c1, c2⟩ := a4 t ht
    refine ⟨c1, fun j v hv => ?_⟩
    have hj : j < (scds t).length := (List.getElem?_eq_some_iff.mp hv).1
    rw [hC (D ((k : Int) * 4 + 2) + (j : Int)) (by omega) (by omega)]
    exact c2 j v hv
  · rw [hD ((k : Int) * 4 + 0) (by omega) (by omega), hD ((k : Int) * 4 + 1) (by omega) (by omega), hD ((k : Int) * 4 + 2) (by omega) (by omega), hD ((k : Int) * 4 + 3) (by omega) (by omega)]
    exact h.2.2 k hk
theorem e0_x {n2 : Nat} (hF : gm_Fx p2_O 245 K R M) (hn : 245 ≤ n2) (hK : ∀ c, c ≤ 245 → K2 c = K c) (hR : ∀ c j, c ≤ 245 → R2 c j = R c j) : E0 n2 K2 R2 := ⟨fun k q hq => ⟨⟨(hF.1 k q hq).1, Nat.le_trans (hF.1 k q hq).2.1 hn⟩, (hK k (hF.1 k q hq).2.1).trans (hF.1 k q hq).2.2⟩, fun k j r hr => (hR k j (hF.2.1 k j r hr).1).trans (hF.2.1 k j r hr).2⟩
theorem kx_c72f (hd : 25 ≤ d) (hF : gm_Fx p2_O 245 K R M) (h0 : 0 ≤ e0 ∧ e0 ≤ 400) (h1 : ∀ (K2 : gm_K) R2 M2, (∀ k, k ≤ 245 → K2 k = K k) → kxf R M R2 M2 → ctw (s_law (M 2) e0) M2 → (g_law (M 2) e0).1 = true → M2 217 3 = (g_law (M 2) e0).2 → Q (.inl (some (gm_vi (-1)))) 245 K2 R2 M2) (hq0 : ∀ (K2 : gm_K) R2 M2, (∀ k, k ≤ 245 → K2 k = K k) → kxf R M R2 M2 → ¬ (g_law (M 2) e0).1 = true → Q (.inl (some (gm_vi (g_law (M 2) e0).2))) 245 K2 R2 M2) : gm_Wp X LX d bc bs 72 0 (gm_ent 72 [gm_vr 215, gm_vi e0]) [] 245 K R M Q := by
  have hE0 := tx_EF hF
  refine gm_sz (gm_p_load (pc := 0) (i := .aload_n 0) (sr := 2) (j := 0) (by decide +kernel) rfl rfl rfl) ?_
  refine gm_c_up (k := 215) (ci := 9) (mj := 73) (ix := 24) (pc := 1) (as := []) (st := []) (d' := d - 1) (bc' := 0) (bs' := 0) (by decide +kernel) (by decide +kernel) (by decide +kernel) (tE215c hE0).1 (tE215c hE0).2 (show 0 = gm_na 73 by decide +kernel) fw_c0 (show 1 ≤ gm_ml 73 by decide +kernel) (Nat.le_of_ble_eq_true rfl) (by omega) (Nat.zero_le _) (Nat.zero_le _) ?_
  refine gm_Wp_mono (fun o n9 K1 R1 M1 h => ?_) (pm_s2_s (d - 1) (ck_sn p2_O (fun _ => 0) M) [gm_vr 215] 245 K R M (show 2 ≤ d - 1 by omega) rfl ⟨_, _, rfl, rfl, rfl⟩ (ck_sn_s p2_nmu) hF ⟨(fun _ h => nomatch h), (fun _ h => nomatch h), (fun _ h => nomatch h)⟩)
  obtain ⟨f1, f2, oc, f3, f4, f5, f6⟩ := h
  rw [List.mem_singleton.mp f3] at f4 f5 f6
  have f5 : n9 = 245 := f5
  subst f5
  rcases o with (_ | v9) | x9
  case inl.some => exact absurd f4 id
  case inr => exact absurd f4 id
  have u0 := ((f6.2.2 (215, 4, 4, ck_one 0) List.mem_cons_self).2 4 (Int.le_refl _) (Int.le_refl _)).2
  have u1 := ((f6.2.2 (217, 3, 3, ck_one 0) (List.mem_cons_of_mem _ List.mem_cons_self)).2 3 (Int.le_refl _) (Int.le_refl _)).2
  have v0 : M1 215 4 = 0 := Int.le_antisymm u0.2.1 u0.1
  have v1 : M1 217 3 = 0 := Int.le_antisymm u1.2.1 u1.1
  have hf : M1 2 = M 2 := funext fun j => f2.2.2.1 2 j (by decide) (fun w hw hh => by
    have := List.all_eq_true.mp (show pm_s2.2.2.2.2.1.1.all (fun w => decide (¬ w.1 = 2)) = true by decide) w hw
    exact absurd hh.1 (of_decide_eq_true this))
  have hE := tx_EF f1
  have fx0 : kxf R M R1 M1 := ⟨fun c j hc hn => f2.2.2.1 c j hc (fun w hw hh => by
    have := List.all_eq_true.mp (show pm_s2.2.2.2.2.1.1.all (fun w => decide ((w.1 = 215 ∧ w.2.1 = 4 ∧ w.2.2 = 4) ∨ (w.1 = 217 ∧ w.2.1 = 3 ∧ w.2.2 = 3) ∨ w.1 = 218)) = true by decide) w hw
    have := of_decide_eq_true this
    obtain ⟨e1, e2, e3⟩ := hh
    unfold kxw at hn
    omega), fun c j hc => f2.2.2.2 c j hc (fun h => nomatch h)⟩
  have hok0 : ctk 0 0 (M1 218) (M1 219) := ⟨⟨⟨by decide, by decide⟩, by decide, by decide⟩, fun j g1 g2 => ((gm_tyr_s f1 (show gm_tyr p2_O 218 0 47 = some (0, 400) by decide +kernel)).2 j g1 (by omega)).2, fun j g1 g2 => ((gm_tyr_s f1 (show gm_tyr p2_O 219 0 399 = some (-2147483648, 2147483647) by decide +kernel)).2 j g1 (by omega)).1⟩
  have hok : ctl [] 0 0 (M1 218) (M1 219) := ⟨rfl, hok0, fun i v h => by simp at h⟩
  have hdl : cdl [] 0 (M1 218) (M1 219) := cdl_0
  show gm_Wp X LX d _ _ 72 4 (gm_ent 72 [gm_vr 215, gm_vi e0]) [] 245 K1 R1 M1 Q
  rw [← cm_id (M := M1), v0, v1]
  rw [← hf] at h1 hq0
  have hE2 := tx_E2 hE h0
  have hf2 : (gm_uM M1 216 2 e0) 2 = M1 2 := funext fun j => uM_ne (by omega)
  obtain ⟨gb1, gb2, -⟩ := tx_gb (f := M1 2) h0.1
  have hkb := tx_kc (f := M1 2) (e := e0) (b := tx_g (M1 2) e0 0) (fun h => tEb hE gb1 (by omega))
  generalize hD : M1 218 = D9 at *
  generalize hC : M1 219 = C9 at *
  refine gm_sz (gm_p_load (pc := 4) (i := .aload_n 0) (sr := 2) (j := 0) (by decide +kernel) rfl rfl rfl) ?_
  refine gm_sz (fw_gr (pc := 5) (ix := 14) (ci := 9) (j := 0) (r := 216) (by decide +kernel) (tE215c hE) (by decide +kernel) (by decide +kernel) (tEr hE).2.1) ?_
  refine gm_sz (gm_p_load (pc := 8) (i := .iload_n 1) (sr := 0) (j := 1) (by decide +kernel) rfl rfl rfl) ?_
  refine gm_c_virt (k := 216) (ci := 8) (mj := 75) (ix := 27) (pc := 9) (as := [gm_vi e0]) (st := []) (d' := d - 1) (bc' := 0) (bs' := 0) (by decide +kernel) (by decide +kernel) (by decide +kernel) (by decide +kernel) (tE216c hE).1 (tE216c hE).2 (by decide) (by decide +kernel) (show 1 = gm_na 75 by decide +kernel) (fw_c1 fw_si) (show 2 ≤ gm_ml 75 by decide +kernel) (Nat.le_of_ble_eq_true rfl) (by omega) (Nat.zero_le _) (Nat.zero_le _) ?_
  refine tx_c75 (by omega) hE h0 ?_
  show gm_Wp X LX d _ _ 72 12 (gm_ent 72 [gm_vr 215, gm_vi e0]) [] 245 K1 R1 (ct (gm_uM M1 216 2 e0) e0 (tx_g (M1 2) e0 0) (-1) 0 0 D9 C9) Q
  refine gm_sz (gm_p_load (pc := 12) (i := .aload_n 0) (sr := 2) (j := 0) (by decide +kernel) rfl rfl rfl) ?_
  refine gm_sz (fw_gr (pc := 13) (ix := 14) (ci := 9) (j := 0) (r := 216) (by decide +kernel) (tE215c hE2) (by decide +kernel) (by decide +kernel) (tEr hE2).2.1) ?_
  refine gm_sz (fw_gi (pc := 16) (ix := 31) (ci := 8) (j := 6) (x := tx_k (M1 2) e0 (tx_g (M1 2) e0 0)) (by decide +kernel) (tE216c hE2) (by decide +kernel) (by decide +kernel) (show tx_k ((gm_uM M1 216 2 e0) 2) e0 (tx_g (M1 2) e0 0) = tx_k (M1 2) e0 (tx_g (M1 2) e0 0) by rw [hf2])) ?_
  refine gm_sz (gm_p_const (pc := 19) (i := .sipush 256) (v := gm_vi 256) (by decide +kernel) (by decide +kernel)) ?_
  refine fw_ic (cc := .ne) (pc := 22) (off := 5) (by decide +kernel) (by decide) ⟨by omega, by omega⟩ ⟨by decide, by decide⟩ (fun j1 => ?_) (fun j1 => ?_)
  · have j1 : ¬ (tx_k (M1 2) e0 (tx_g (M1 2) e0 0)) = 256 := j1
    refine gm_sz (gm_p_const (pc := 27) (i := .iconst 0) (v := gm_vi 0) (by decide +kernel) (by decide +kernel)) ?_
    refine gm_sz (gm_p_stor (pc := 28) (i := .istore_n 2) (sr := 0) (j := 2) (by decide +kernel) rfl (show 3 ≤ _ from Nat.le_of_ble_eq_true rfl) rfl) ?_
    rw [g_w1 j1, ← hf2] at hq0
    rw [g_w1 j1, show s_law (M1 2) e0 = [] ++ s_txt (M1 2) e0 12 (tx_g (M1 2) e0 0) from tif_f j1, ← hf2] at h1
    have hb9 : 0 ≤ tx_g ((gm_uM M1 216 2 e0) 2) e0 0 ∧ tx_g ((gm_uM M1 216 2 e0) 2) e0 0 ≤ e0 := by rw [hf2]; exact ⟨by omega, gb2⟩
    rw [show tx_g (M1 2) e0 0 = tx_g ((gm_uM M1 216 2 e0) 2) e0 0 by rw [hf2]]
    exact kx_l72 (by omega) hE2 _ 12 0 _ 0 D9 C9 [] [] rfl (Int.le_refl _) hb9 hb9.1 rfl hok hdl (fun us2 D2 C2 b2 Lc2 kc kd g => h1 _ _ _ f2.2.1 (kxf_ct fx0) (ctw_ct kc kd) g rfl) (fun us2 lc2 D2 C2 b2 g => hq0 _ _ _ f2.2.1 (kxf_ct fx0) g)
  · have j1 : (tx_k (M1 2) e0 (tx_g (M1 2) e0 0)) = 256 := Classical.not_not.mp j1
    refine gm_sz (gm_p_const (pc := 25) (i := .iconst (-1)) (v := gm_vi (-1)) (by decide +kernel) (by decide +kernel)) ?_
    rw [g_w0 j1, show s_law (M1 2) e0 = [] from tif_t j1] at h1
    exact gm_r_int (pc := 26) (by decide +kernel) (Or.inl (by decide +kernel)) (h1 _ _ _ f2.2.1 (kxf_ct fx0) (ctw_ct hok hdl) rfl rfl)


end W2A
end
/-! 7a45.w3cl -/
section
/-! THE CLASS'S law(), whole, with its lines (laid by wip/core/w3.py). -/
section W3A
variable {X : Int → Int} {LX d bc bs : Nat} {K : gm_K} {R : gm_R} {M : gm_M} {Q : gm_Q} {N : Int → Int}
theorem cl_64 {x : Int} (hd : 1 ≤ d) (hE : E0 249 K R) (k6 : K 246 = (14, 0)) (k8 : K 248 = (6, 0)) (r8 : R 3 8 = 246) (r6 : R 246 0 = 248) (hx : M 248 3 = x) (hq : Q (.inl (some (gm_vi x))) 249 K R M) : gm_Wp X LX d bc bs 64 0 (gm_ent 64 [gm_vr 1]) [] 249 K R M Q := by
  have k1 := e0k hE (k := 1) (c := 0) (by decide +kernel)
  have k3 := e0k hE (k := 3) (c := 1) (by decide +kernel)
  have h6 : (1 ≤ 246 ∧ 246 ≤ 249) ∧ (K 246).1 = 10 + 4 := ⟨⟨by decide, by decide⟩, by rw [k6]⟩
  have h8 : (1 ≤ 248 ∧ 248 ≤ 249) ∧ (K 248).1 = 2 + 4 := ⟨⟨by decide, by decide⟩, by rw [k8]⟩
  refine gm_sz (gm_p_load (pc := 0) (i := .aload_n 0) (sr := 2) (j := 0) (by decide +kernel) rfl rfl rfl) ?_
  refine gm_sz (fw_gr (pc := 1) (ix := 23) (ci := 0) (j := 3) (r := 3) (by decide +kernel) k1 (by decide +kernel) (by decide +kernel) (e0r hE (k := 1) (j := 3) (r := 3) (by decide +kernel))) ?_
  refine gm_sz (fw_gr (pc := 4) (ix := 146) (ci := 1) (j := 8) (r := 246) (by decide +kernel) k3 (by decide +kernel) (by decide +kernel) r8) ?_
  refine gm_b_nnul (pc := 7) (off := 7) (k0 := 246) (by decide) (by decide +kernel) (by decide) (fun _ => ?_) (fun h => absurd h (by decide))
  refine gm_sz (gm_p_load (pc := 14) (i := .aload_n 0) (sr := 2) (j := 0) (by decide +kernel) rfl rfl rfl) ?_
  refine gm_sz (fw_gr (pc := 15) (ix := 23) (ci := 0) (j := 3) (r := 3) (by decide +kernel) k1 (by decide +kernel) (by decide +kernel) (e0r hE (k := 1) (j := 3) (r := 3) (by decide +kernel))) ?_
  refine gm_sz (fw_gr (pc := 18) (ix := 146) (ci := 1) (j := 8) (r := 246) (by decide +kernel) k3 (by decide +kernel) (by decide +kernel) r8) ?_
  refine gm_sz (fw_gr (pc := 21) (ix := 439) (ci := 10) (j := 0) (r := 248) (by decide +kernel) h6 (by decide +kernel) (by decide +kernel) r6) ?_
  refine gm_c_virt (k := 248) (ci := 2) (mj := 9) (ix := 277) (pc := 24) (as := []) (st := []) (d' := d - 1) (bc' := 0) (bs' := 0) (by decide +kernel) (by decide +kernel) (by decide +kernel) (by decide +kernel) h8.1 h8.2 (by decide) (by decide +kernel) (show 0 = gm_na 9 by decide +kernel) fw_c0 (show 1 ≤ gm_ml 9 by decide +kernel) (Nat.le_of_ble_eq_true rfl) (by omega) (Nat.zero_le _) (Nat.zero_le _) ?_
  refine rw_size h8 hx ?_
  exact gm_r_int (pc := 27) (by decide +kernel) (Or.inl (by decide +kernel)) hq
/-- where law() may write -/
noncomputable def lwr (c : Nat) (j : Int) : Prop := kxw c j ∨ c = 201 ∨ c = 202 ∨ c = 203 ∨ (c = 200 ∧ j = 6) ∨ (c = 42 ∧ j = 2) ∨ (c = 1 ∧ (j = 1 ∨ j = 2 ∨ j = 15))
/-- law() of the class -/
theorem cl_123 (hd : 26 ≤ d) (hbc : 4 ≤ bc) (hbs : 454 ≤ bs) (hF : gm_Fx p2_O 245 K R M) (hT : TQ N M) (hG : GI N) (h0 : 0 ≤ M 1 1 ∧ M 1 1 ≤ 400)
    (q0 : ∀ (K2 : gm_K) (R2 : gm_R) (M2 : gm_M), (∀ c, c ≤ 245 → K2 c = K c) → (∀ c j, c ≤ 245 → R2 c j = R c j) → (∀ (c : Nat) (j : Int), c ≤ 245 → ¬ kxw c j → ¬ (c = 1 ∧ (j = 1 ∨ j = 2)) → M2 c j = M c j) → ¬ (g_law (M 2) (M 1 1)).1 = true → M2 1 2 = (g_law (M 2) (M 1 1)).2 → M2 1 1 = 0 → Q (.inr 0) 245 K2 R2 M2)
    (hq : ∀ (us : Int) (K2 : gm_K) (R2 : gm_R) (M2 : gm_M), (g_law (M 2) (M 1 1)).1 = true → (∀ c, c ≤ 245 → K2 c = K c) → (∀ c j, c ≤ 245 → ¬ (c = 3 ∧ j = 8) → R2 c j = R c j) → (K2 246 = (14, 0) ∧ K2 247 = (0, us.toNat) ∧ K2 248 = (6, 0) ∧ K2 249 = (0, 48)) → (R2 3 8 = 246 ∧ R2 246 0 = 248 ∧ R2 246 1 = 247 ∧ R2 248 2 = 249) → (M2 248 0 = 12 ∧ M2 248 1 = 4 ∧ M2 248 3 = (g_law (M 2) (M 1 1)).2) → (0 ≤ us ∧ us ≤ 400) → ((s_law (M 2) (M 1 1)).length ≤ 12 → cdl (s_law (M 2) (M 1 1)) us (M2 249) (M2 247)) → TI N (hts (N 13)) (spd N) M2 → M2 200 6 = 1 → M2 42 2 = 0 → M2 1 15 = 0 → M2 1 2 = -1 → M2 1 1 = 0 → (∀ (c : Nat) (j : Int), c ≤ 245 → ¬ lwr c j → M2 c j = M c j) → Q (.inl (some (gm_vi (g_law (M 2) (M 1 1)).2))) 249 K2 R2 M2) : gm_Wp X LX d bc bs 123 0 (gm_ent 123 [gm_vr 1]) [] 245 K R M Q := by
  have hE : E0 245 K R := e0_x hF (Nat.le_refl _) (fun _ _ => rfl) (fun _ _ _ => rfl)
  obtain ⟨b0, b1, b2⟩ := g_law_b (f := M 2) h0.1
  have k1 := e0k hE (k := 1) (c := 0) (by decide +kernel)
  have k215 := e0k hE (k := 215) (c := 9) (by decide +kernel)
  refine gm_sz (gm_p_load (pc := 0) (i := .aload_n 0) (sr := 2) (j := 0) (by decide +kernel) rfl rfl rfl) ?_
  refine gm_sz (gm_p_load (pc := 1) (i := .aload_n 0) (sr := 2) (j := 0) (by decide +kernel) rfl rfl rfl) ?_
  refine gm_sz (fw_gr (pc := 2) (ix := 88) (ci := 0) (j := 13) (r := 215) (by decide +kernel) k1 (by decide +kernel) (by decide +kernel) (e0r hE (k := 1) (j := 13) (r := 215) (by decide +kernel))) ?_
  refine gm_sz (gm_p_load (pc := 5) (i := .aload_n 0) (sr := 2) (j := 0) (by decide +kernel) rfl rfl rfl) ?_
  refine gm_sz (fw_gi (pc := 6) (ix := 13) (ci := 0) (j := 1) (x := M 1 1) (by decide +kernel) k1 (by decide +kernel) (by decide +kernel) rfl) ?_
  refine gm_c_up (k := 215) (ci := 9) (mj := 72) (ix := 139) (pc := 9) (as := [gm_vi (M 1 1)]) (st := [gm_vr 1]) (d' := d - 1) (bc' := 0) (bs' := 0) (by decide +kernel) (by decide +kernel) (by decide +kernel) k215.1 k215.2 (show 1 = gm_na 72 by decide +kernel) (fw_c1 fw_si) (show 2 ≤ gm_ml 72 by decide +kernel) (Nat.le_of_ble_eq_true rfl) (by omega) (Nat.zero_le _) (Nat.zero_le _) ?_
  refine kx_c72f (by omega) hF h0 (fun K2 R2 M2 hk hx hw hg hl => ?_) (fun K2 R2 M2 hk hx hg => ?_)
  · show gm_Wp X LX d _ _ 123 12 (gm_ent 123 [gm_vr 1]) [gm_vi (-1), gm_vr 1] 245 K2 R2 M2 Q
    have hE2 : E0 245 K2 R2 := e0_x hF (Nat.le_refl _) hk hx.2
    have j1 := e0k hE2 (k := 1) (c := 0) (by decide +kernel)
    refine gm_sz (fw_pi (pc := 12) (ix := 17) (ci := 0) (j := 2) (M' := gm_uM M2 1 2 (-1)) (by decide +kernel) j1 (by decide +kernel) (by decide +kernel) (by decide +kernel) rfl) ?_
    refine gm_sz (gm_p_load (pc := 15) (i := .aload_n 0) (sr := 2) (j := 0) (by decide +kernel) rfl rfl rfl) ?_
    refine gm_sz (gm_p_const (pc := 16) (i := .iconst 0) (v := gm_vi 0) (by decide +kernel) (by decide +kernel)) ?_
    refine gm_sz (fw_pi (pc := 17) (ix := 13) (ci := 0) (j := 1) (M' := gm_uM (gm_uM M2 1 2 (-1)) 1 1 0) (by decide +kernel) j1 (by decide +kernel) (by decide +kernel) (by decide +kernel) rfl) ?_
    refine gm_sz (gm_p_load (pc := 20) (i := .aload_n 0) (sr := 2) (j := 0) (by decide +kernel) rfl rfl rfl) ?_
    refine gm_sz (fw_gi (pc := 21) (ix := 17) (ci := 0) (j := 2) (x := (-1)) (by decide +kernel) j1 (by decide +kernel) (by decide +kernel) ((uM_ne (by omega)).trans uM_at)) ?_
    refine gm_sz (gm_p_const (pc := 24) (i := .iconst (-1)) (v := gm_vi (-1)) (by decide +kernel) (by decide +kernel)) ?_
    refine fw_ictd (cc := .eq) (pc := 25) (off := 13) (by decide +kernel) (by decide) ⟨by decide, by decide⟩ ⟨by decide, by decide⟩ (by decide) ?_
    obtain ⟨Lc, ⟨hlc, hctk, -⟩, hcd⟩ := hw
    have hu0 := hctk.1.1
    have hu1 := hctk.1.2
    have j215 := e0k hE2 (k := 215) (c := 9) (by decide +kernel)
    refine gm_sz (gm_p_load (pc := 38) (i := .aload_n 0) (sr := 2) (j := 0) (by decide +kernel) rfl rfl rfl) ?_
    refine gm_sz (fw_gr (pc := 39) (ix := 23) (ci := 0) (j := 3) (r := 3) (by decide +kernel) j1 (by decide +kernel) (by decide +kernel) (e0r hE2 (k := 1) (j := 3) (r := 3) (by decide +kernel))) ?_
    refine gm_sz (gm_p_load (pc := 42) (i := .aload_n 0) (sr := 2) (j := 0) (by decide +kernel) rfl rfl rfl) ?_
    refine gm_sz (fw_gr (pc := 43) (ix := 88) (ci := 0) (j := 13) (r := 215) (by decide +kernel) j1 (by decide +kernel) (by decide +kernel) (e0r hE2 (k := 1) (j := 13) (r := 215) (by decide +kernel))) ?_
    refine gm_c_virt (k := 215) (ci := 9) (mj := 124) (ix := 142) (pc := 46) (as := []) (st := [gm_vr 3]) (d' := 3) (bc' := 4) (bs' := 454) (by decide +kernel) (by decide +kernel) (by decide +kernel) (by decide +kernel) j215.1 j215.2 (by decide) (by decide +kernel) (show 0 = gm_na 124 by decide +kernel) fw_c0 (show 1 ≤ gm_ml 124 by decide +kernel) (Nat.le_of_ble_eq_true rfl) (by omega) hbc hbs ?_
    refine mk_124 (N := (M2 215 4).toNat) (z := (g_law (M 2) (M 1 1)).2) hE2 (by omega) ((uM_ne (by omega)).trans ((uM_ne (by omega)).trans (Int.toNat_of_nonneg hu0.1).symm)) ((uM_ne (by omega)).trans ((uM_ne (by omega)).trans hl)) ⟨b0, b1 hg⟩ (fun K3 R3 M3 hm => ?_)
    show gm_Wp X LX d _ _ 123 49 (gm_ent 123 [gm_vr 1]) [gm_vr 246, gm_vr 3] 249 K3 R3 M3 Q
    obtain ⟨⟨hk3, hr3, hm3⟩, ⟨k6, k7, k8, k9⟩, ⟨r60, r61, r82⟩, ⟨m80, m81, m83⟩, hD3, hC3⟩ := hm
    have hE3 : E0 249 K3 R3 := e0_x hF (by decide) (fun c hc => (hk3 c hc).trans (hk c hc)) (fun c j hc => (hr3 c j hc).trans (hx.2 c j hc))
    have i3 := e0k hE3 (k := 3) (c := 1) (by decide +kernel)
    have i1 := e0k hE3 (k := 1) (c := 0) (by decide +kernel)
    refine gm_sz (gm_p_putr (pc := 49) (ix := 146) (ci := 1) (j := 8) (by decide +kernel) i3.1 i3.2 (by decide +kernel) (by decide +kernel) (by decide +kernel)) ?_
    have hE4 : E0 249 K3 (gm_uR R3 3 8 246) := e0h3 hE3
    have w3 : ∀ (c : Nat) (j : Int), c ≤ 245 → ¬ kxw c j → ¬ (c = 1 ∧ (j = 1 ∨ j = 2)) → M3 c j = M c j := fun c j hc h1 h2 => (hm3 c j hc).trans ((uM_ne (by omega)).trans ((uM_ne (by omega)).trans (hx.1 c j hc h1)))
    have t3 : TQ N M3 := by
      refine ⟨fun q hq => ?_, (cs_same fun c j c1 c2 => w3 c j (by omega) (by unfold kxw; omega) (by omega)).trans hT.2⟩
      have e := of_decide_eq_true (List.all_eq_true.mp (show cstL.all (fun q => decide (q.1 ≤ 245 ∧ ¬ (q.1 = 216 ∨ q.1 = 218 ∨ q.1 = 219 ∨ (q.1 = 215 ∧ q.2.1 = 4) ∨ (q.1 = 217 ∧ q.2.1 = 3)) ∧ ¬ (q.1 = 1 ∧ (q.2.1 = 1 ∨ q.2.1 = 2)))) = true by decide +kernel) q hq)
      exact (w3 q.1 q.2.1 e.1 e.2.1 e.2.2).trans (hT.1 q hq)
    refine gm_sz (gm_p_load (pc := 52) (i := .aload_n 0) (sr := 2) (j := 0) (by decide +kernel) rfl rfl rfl) ?_
    refine gm_c_virt (k := 1) (ci := 0) (mj := 61) (ix := 136) (pc := 53) (as := []) (st := []) (d' := d - 1) (bc' := 0) (bs' := 0) (by decide +kernel) (by decide +kernel) (by decide +kernel) (by decide +kernel) i1.1 i1.2 (by decide) (by decide +kernel) (show 0 = gm_na 61 by decide +kernel) fw_c0 (show 1 ≤ gm_ml 61 by decide +kernel) (Nat.le_of_ble_eq_true rfl) (by omega) (Nat.zero_le _) (Nat.zero_le _) ?_
    refine fw_c61 (by omega) hE4 t3 hG.1 hG.2.1 (fun M6 hf6 ht6 h6 h42 h15 => ?_)
    show gm_Wp X LX d _ _ 123 56 (gm_ent 123 [gm_vr 1]) [] 249 K3 (gm_uR R3 3 8 246) M6 Q
    have f6 : ∀ (c : Nat) (j : Int), ¬ (c = 201 ∨ c = 202 ∨ c = 203 ∨ (c = 200 ∧ j = 6) ∨ (c = 42 ∧ j = 2) ∨ (c = 1 ∧ j = 15)) → M6 c j = M3 c j := fun c j h => hf6 c j (by intro hm; simp at hm; omega) (by intro hm; simp at hm; omega)
    refine gm_sz (gm_p_load (pc := 56) (i := .aload_n 0) (sr := 2) (j := 0) (by decide +kernel) rfl rfl rfl) ?_
    refine gm_c_virt (k := 1) (ci := 0) (mj := 64) (ix := 150) (pc := 57) (as := []) (st := []) (d' := d - 1) (bc' := 0) (bs' := 0) (by decide +kernel) (by decide +kernel) (by decide +kernel) (by decide +kernel) i1.1 i1.2 (by decide) (by decide +kernel) (show 0 = gm_na 64 by decide +kernel) fw_c0 (show 1 ≤ gm_ml 64 by decide +kernel) (Nat.le_of_ble_eq_true rfl) (by omega) (Nat.zero_le _) (Nat.zero_le _) ?_
    refine cl_64 (x := (g_law (M 2) (M 1 1)).2) (by omega) hE4 k6 k8 uR_at ((uR_ne (by omega)).trans r60) ((f6 248 3 (by omega)).trans m83) ?_
    have e249 : ∀ j, 0 ≤ j → j < 48 → M6 249 j = M2 218 j := fun j j0 j1 => (f6 249 j (by omega)).trans ((hD3 j j0 j1).trans ((uM_ne (by omega)).trans (uM_ne (by omega))))
    have e247 : ∀ j, 0 ≤ j → j < M2 215 4 → M6 247 j = M2 219 j := fun j j0 j1 => (f6 247 j (by omega)).trans ((hC3 j j0 (by omega)).trans ((uM_ne (by omega)).trans (uM_ne (by omega))))
    exact gm_r_int (pc := 60) (by decide +kernel) (Or.inl (by decide +kernel)) (hq (M2 215 4) K3 _ M6 hg (fun c hc => (hk3 c hc).trans (hk c hc)) (fun c j hc hn => (uR_ne (by omega)).trans ((hr3 c j hc).trans (hx.2 c j hc))) ⟨k6, k7, k8, k9⟩ ⟨uR_at, (uR_ne (by omega)).trans r60, (uR_ne (by omega)).trans r61, (uR_ne (by omega)).trans r82⟩ ⟨(f6 248 0 (by omega)).trans m80, (f6 248 1 (by omega)).trans m81, (f6 248 3 (by omega)).trans m83⟩ hu0 (fun h12 => cdl_same hcd h12 e249 e247) ht6 h6 h42 h15 ((f6 1 2 (by omega)).trans ((hm3 1 2 (by decide)).trans ((uM_ne (by omega)).trans uM_at))) ((f6 1 1 (by omega)).trans ((hm3 1 1 (by decide)).trans uM_at)) (fun c j hc hn => by unfold lwr kxw at hn; exact (f6 c j (by omega)).trans (w3 c j hc (by unfold kxw; omega) (by omega))))
  · show gm_Wp X LX d _ _ 123 12 (gm_ent 123 [gm_vr 1]) [gm_vi (g_law (M 2) (M 1 1)).2, gm_vr 1] 245 K2 R2 M2 Q
    have hv9 := b2 hg
    have hE2 : E0 245 K2 R2 := e0_x hF (Nat.le_refl _) hk hx.2
    have j1 := e0k hE2 (k := 1) (c := 0) (by decide +kernel)
    refine gm_sz (fw_pi (pc := 12) (ix := 17) (ci := 0) (j := 2) (M' := gm_uM M2 1 2 (g_law (M 2) (M 1 1)).2) (by decide +kernel) j1 (by decide +kernel) (by decide +kernel) (by decide +kernel) rfl) ?_
    refine gm_sz (gm_p_load (pc := 15) (i := .aload_n 0) (sr := 2) (j := 0) (by decide +kernel) rfl rfl rfl) ?_
    refine gm_sz (gm_p_const (pc := 16) (i := .iconst 0) (v := gm_vi 0) (by decide +kernel) (by decide +kernel)) ?_
    refine gm_sz (fw_pi (pc := 17) (ix := 13) (ci := 0) (j := 1) (M' := gm_uM (gm_uM M2 1 2 (g_law (M 2) (M 1 1)).2) 1 1 0) (by decide +kernel) j1 (by decide +kernel) (by decide +kernel) (by decide +kernel) rfl) ?_
    refine gm_sz (gm_p_load (pc := 20) (i := .aload_n 0) (sr := 2) (j := 0) (by decide +kernel) rfl rfl rfl) ?_
    refine gm_sz (fw_gi (pc := 21) (ix := 17) (ci := 0) (j := 2) (x := (g_law (M 2) (M 1 1)).2) (by decide +kernel) j1 (by decide +kernel) (by decide +kernel) ((uM_ne (by omega)).trans uM_at)) ?_
    refine gm_sz (gm_p_const (pc := 24) (i := .iconst (-1)) (v := gm_vi (-1)) (by decide +kernel) (by decide +kernel)) ?_
    refine fw_ic (cc := .eq) (pc := 25) (off := 13) (by decide +kernel) (by decide) ⟨by omega, by omega⟩ ⟨by decide, by decide⟩ (fun hp => ?_) (fun hp => ?_)
    · have hp : (g_law (M 2) (M 1 1)).2 = -1 := hp
      exact absurd hp (by omega)
    · exact gm_throw (ik := 121) (is := 140) (ic := 125) (x := 0) (id := 31) (lw := false) (by decide +kernel) (by decide +kernel) (by decide +kernel) (by decide +kernel) (by decide +kernel) (by decide +kernel) (by decide +kernel) (by decide +kernel) (Nat.le_of_ble_eq_true rfl) (by omega) (by omega) (by omega) (q0 _ _ _ hk hx.2 (fun c j hc h1 h2 => (uM_ne (by omega)).trans ((uM_ne (by omega)).trans (hx.1 c j hc h1))) hg ((uM_ne (by omega)).trans uM_at) uM_at)
end W3A
end
/-! 7a46.w4rl -/
section
/-! THE REFERENCE'S law(), whole, with its lines (laid by wip/core/w4.py). -/
section W4A
variable {X : Int → Int} {LX d bc bs n : Nat} {K : gm_K} {R : gm_R} {M : gm_M} {Q : gm_Q} {f : Int → Int} {e y : Int} {N h : Int → Int}
theorem rm_fr {pt bg dp st : Int} {W : Int → Int} : fr [((226 : Nat), some (9 : Int)), ((226 : Nat), some (11 : Int)), ((226 : Nat), some (12 : Int)), ((226 : Nat), some (15 : Int)), ((227 : Nat), none)] M (rm M pt bg dp st W) := by
  intro c j h1 h2
  unfold rm
  by_cases hc : c = 226
  · subst hc
    simp at h2
    rw [if_pos rfl, if_neg (by omega), if_neg (by omega), if_neg (by omega), if_neg (by omega)]
  · rw [if_neg hc, if_neg (fun hh => by subst hh; simp at h1)]
theorem rdl_LR2a {ls : List lln} {L : List (Int × Int)} {W0 W H : Int → Int} {st : Int} (h : rdl ls L W0 st W) (hs : st ≤ 400) (hl : ls.length ≤ 12) (hG : ∀ j, 396 ≤ j → j < 1244 → H j = W (j + 849)) : LR ls H := by
  intro k x hx
  have hk : k < ls.length := (List.getElem?_eq_some_iff.mp hx).1
  obtain ⟨a0, a1, a2, a3⟩ := rdl_LR h k x hx
  obtain ⟨-, -, b2, -, b4⟩ := h.2.2 k x hx
  have hst : st = (L.length : Int) := h.2.1.1
  rw [hG (396 + 4 * (k : Int)) (by omega) (by omega), hG (396 + 4 * (k : Int) + 1) (by omega) (by omega), hG (396 + 4 * (k : Int) + 2) (by omega) (by omega), hG (396 + 4 * (k : Int) + 3) (by omega) (by omega)]
  refine ⟨a0, a1, a2, fun t ht => ?_⟩
  obtain ⟨c1, c2⟩ := a3 t ht
  refine ⟨c1, fun j v hv => ?_⟩
  have hj := (List.getElem?_eq_some_iff.mp ((b4 t ht).2 j v hv)).1
  have e9 : (396 + 4 * (k : Int) + 2 + 849) = 1245 + 4 * (k : Int) + 2 := by omega
  have c3 := c2 j v hv
  have c3 : W (444 + 2 * (W (396 + 4 * (k : Int) + 2 + 849) + (j : Int)) + 849) = v.1 ∧ W (444 + 2 * (W (396 + 4 * (k : Int) + 2 + 849) + (j : Int)) + 1 + 849) = v.2 := c3
  rw [e9] at c3 ⊢
  generalize W (1245 + 4 * (k : Int) + 2) = z at b2 hj c3 ⊢
  rw [hG (444 + 2 * (z + (j : Int))) (by omega) (by omega), hG (444 + 2 * (z + (j : Int)) + 1) (by omega) (by omega)]
  exact c3
/-- where its steps lie -/
noncomputable def LRb (ls : List lln) (G : Int → Int) : Prop := ∀ (k : Nat) (x : lln), ls[k]? = some x → 0 ≤ G (396 + 4 * (k : Int) + 2) ∧ ∀ t, x.2.2 = some t → ∀ (j : Nat) (v : Int × Int), (srds t)[j]? = some v → G (396 + 4 * (k : Int) + 2) + (j : Int) < 400
theorem rdl_LR2 {ls : List lln} {L : List (Int × Int)} {W0 W H : Int → Int} {st : Int} (h : rdl ls L W0 st W) (hs : st ≤ 400) (hl : ls.length ≤ 12) (hG : ∀ j, 396 ≤ j → j < 1244 → H j = W (j + 849)) : LR ls H ∧ LRb ls H := by
  refine ⟨rdl_LR2a h hs hl hG, fun k x hx => ?_⟩
  have hk : k < ls.length := (List.getElem?_eq_some_iff.mp hx).1
  obtain ⟨-, -, b2, -, b4⟩ := h.2.2 k x hx
  have hst : st = (L.length : Int) := h.2.1.1
  have e9 : (396 + 4 * (k : Int) + 2 + 849) = 1245 + 4 * (k : Int) + 2 := by omega
  rw [hG (396 + 4 * (k : Int) + 2) (by omega) (by omega), e9]
  refine ⟨b2, fun t ht j v hv => ?_⟩
  have hj := (List.getElem?_eq_some_iff.mp ((b4 t ht).2 j v hv)).1
  omega
theorem rl_243 (hd : 34 ≤ d) (hE : E0 n K R) (hF : VF f e) (hf : M 231 = f) (he : M 226 8 = e) (q1 : ∀ (W2 : Int → Int) (L2 : List (Int × Int)) (st2 : Int) M2, rdl (s_law f e) L2 (M 227) st2 W2 → 0 ≤ st2 ∧ st2 ≤ e → (g_law f e).1 = true → M2 227 = W2 → fr [((226 : Nat), some (0 : Int)), ((226 : Nat), some (10 : Int)), ((226 : Nat), some (8 : Int)), ((226 : Nat), some (15 : Int)), ((226 : Nat), some (9 : Int)), ((226 : Nat), some (11 : Int)), ((226 : Nat), some (12 : Int)), ((227 : Nat), none)] M M2 → M2 226 8 = 0 → M2 226 0 = 0 → Q (.inl (some (gm_vi (g_law f e).2))) n K R M2) (q0 : ∀ M2, (∀ j, j < 1245 → M2 227 j = M 227 j) → M2 226 11 = (g_law f e).2 → ¬ (g_law f e).1 = true → fr [((226 : Nat), some (0 : Int)), ((226 : Nat), some (10 : Int)), ((226 : Nat), some (8 : Int)), ((226 : Nat), some (15 : Int)), ((226 : Nat), some (9 : Int)), ((226 : Nat), some (11 : Int)), ((226 : Nat), some (12 : Int)), ((227 : Nat), none)] M M2 → M2 226 8 = 0 → M2 226 0 = 0 → Q (.inl (some (gm_vi (-1)))) n K R M2) : gm_Wp X LX d bc bs 243 0 (gm_ent 243 [gm_vr 226, gm_vi 0]) [] n K R M Q := by
  refine gm_sz (gm_p_load (pc := 0) (i := .aload_n 0) (sr := 2) (j := 0) (by decide +kernel) rfl rfl rfl) ?_
  refine gm_c_virt (k := 226) (ci := 11) (mj := 244) (ix := 289) (pc := 1) (as := []) (st := []) (d' := d - 1) (bc' := 0) (bs' := 0) (by decide +kernel) (by decide +kernel) (by decide +kernel) (by decide +kernel) (e0k hE (k := 226) (c := 11) (by decide +kernel)).1 (e0k hE (k := 226) (c := 11) (by decide +kernel)).2 (by decide) (by decide +kernel) (show 0 = gm_na 244 by decide +kernel) fw_c0 (show 1 ≤ gm_ml 244 by decide +kernel) (Nat.le_of_ble_eq_true rfl) (by omega) (Nat.zero_le _) (Nat.zero_le _) ?_
  refine rv_244 hE he ?_
  show gm_Wp X LX d _ _ 243 4 _ [] n K _ _ Q
  refine gm_sz (gm_p_load (pc := 4) (i := .aload_n 0) (sr := 2) (j := 0) (by decide +kernel) rfl rfl rfl) ?_
  refine gm_sz (gm_p_const (pc := 5) (i := .iconst 0) (v := gm_vi 0) (by decide +kernel) (by decide +kernel)) ?_
  refine gm_sz (fw_pi (pc := 6) (ix := 224) (ci := 11) (j := 15) (M' := gm_uM (gm_uM (gm_uM (gm_uM (gm_uM M 226 0 0) 226 10 e) 226 8 0) 226 9 0) 226 15 0) (by decide +kernel) (e0k hE (k := 226) (c := 11) (by decide +kernel)) (by decide +kernel) (by decide +kernel) (by decide +kernel) rfl) ?_
  have z9 : (gm_uM (gm_uM (gm_uM (gm_uM (gm_uM M 226 0 0) 226 10 e) 226 8 0) 226 9 0) 226 15 0) 226 9 = 0 := ((uM_ne (by omega)).trans uM_at)
  have z15 : (gm_uM (gm_uM (gm_uM (gm_uM (gm_uM M 226 0 0) 226 10 e) 226 8 0) 226 9 0) 226 15 0) 226 15 = 0 := uM_at
  have z10 : (gm_uM (gm_uM (gm_uM (gm_uM (gm_uM M 226 0 0) 226 10 e) 226 8 0) 226 9 0) 226 15 0) 226 10 = e := ((uM_ne (by omega)).trans ((uM_ne (by omega)).trans ((uM_ne (by omega)).trans uM_at)))
  have z8 : (gm_uM (gm_uM (gm_uM (gm_uM (gm_uM M 226 0 0) 226 10 e) 226 8 0) 226 9 0) 226 15 0) 226 8 = 0 := ((uM_ne (by omega)).trans ((uM_ne (by omega)).trans uM_at))
  have z0 : (gm_uM (gm_uM (gm_uM (gm_uM (gm_uM M 226 0 0) 226 10 e) 226 8 0) 226 9 0) 226 15 0) 226 0 = 0 := ((uM_ne (by omega)).trans ((uM_ne (by omega)).trans ((uM_ne (by omega)).trans ((uM_ne (by omega)).trans uM_at))))
  have z231 : (gm_uM (gm_uM (gm_uM (gm_uM (gm_uM M 226 0 0) 226 10 e) 226 8 0) 226 9 0) 226 15 0) 231 = f := (funext fun j => (uM_ne (by omega)).trans ((uM_ne (by omega)).trans ((uM_ne (by omega)).trans ((uM_ne (by omega)).trans (uM_ne (by omega)))))).trans hf
  have z227 : (gm_uM (gm_uM (gm_uM (gm_uM (gm_uM M 226 0 0) 226 10 e) 226 8 0) 226 9 0) 226 15 0) 227 = M 227 := (funext fun j => (uM_ne (by omega)).trans ((uM_ne (by omega)).trans ((uM_ne (by omega)).trans ((uM_ne (by omega)).trans (uM_ne (by omega))))))
  have zf : fr [((226 : Nat), some (0 : Int)), ((226 : Nat), some (10 : Int)), ((226 : Nat), some (8 : Int)), ((226 : Nat), some (15 : Int)), ((226 : Nat), some (9 : Int)), ((226 : Nat), some (11 : Int)), ((226 : Nat), some (12 : Int)), ((227 : Nat), none)] M (gm_uM (gm_uM (gm_uM (gm_uM (gm_uM M 226 0 0) 226 10 e) 226 8 0) 226 9 0) 226 15 0) := (fr_p (fr_p (fr_p (fr_p (fr_p fr_0 (Or.inr (by decide))) (Or.inr (by decide))) (Or.inr (by decide))) (Or.inr (by decide))) (Or.inr (by decide)))
  generalize (gm_uM (gm_uM (gm_uM (gm_uM (gm_uM M 226 0 0) 226 10 e) 226 8 0) 226 9 0) 226 15 0) = m5 at z9 z15 z10 z8 z0 z231 z227 zf ⊢
  have hT5 := rv_E hE hF (⟨z231, z10, z9⟩ : RW f e 0 m5)
  have ei : rm m5 0 (m5 226 11) (m5 226 12) 0 (m5 227) = m5 := by
    have a := rm_id (M := m5)
    rw [z9, z15] at a
    exact a
  rw [← ei]
  refine sr_a243 (by omega) hT5 none (fun p2 bg2 dp2 st2 W2 L2 a1 a2 a3 => ?_) (fun p2 dp2 st2 W2 a1 a2 => ?_)
  · rw [z231] at a1 a3 ⊢
    rw [z227] at a1
    exact q1 W2 L2 st2 _ a1 a2 a3 rfl (fr_t zf rm_fr (by decide)) z8 z0
  · rw [z231] at a2 ⊢
    rw [z227] at a1
    exact q0 _ a1 rfl a2 (fr_t zf rm_fr (by decide)) z8 z0
theorem cp_283 (hE : E0 n K R) (hq : gm_Wp X LX d bc bs 283 85 [some (gm_vr 226), some (gm_vi y), some (gm_vi 849)] [] n K R (cpk M 227 227 1244 395 849) Q) : ∀ (u : Nat) (k : Int), k + (u : Int) = 849 → 0 ≤ k → gm_Wp X LX d bc bs 283 52 [some (gm_vr 226), some (gm_vi y), some (gm_vi k)] [] n K R (cpk M 227 227 1244 395 k) Q := by
  intro u
  induction u with
  | zero =>
    intro k hk k0
    have ek : k = 849 := by omega
    subst ek
    refine gm_sz (gm_p_load (pc := 52) (i := .iload_n 2) (sr := 0) (j := 2) (by decide +kernel) rfl rfl rfl) ?_
    refine gm_sz (gm_p_const (pc := 53) (i := .sipush 849) (v := gm_vi 849) (by decide +kernel) (by decide +kernel)) ?_
    refine fw_ictd (cc := .ge) (pc := 56) (off := 29) (by decide +kernel) (by decide) ⟨by decide, by decide⟩ ⟨by decide, by decide⟩ (by decide) ?_
    exact hq
  | succ u ih =>
    intro k hk k0
    refine gm_sz (gm_p_load (pc := 52) (i := .iload_n 2) (sr := 0) (j := 2) (by decide +kernel) rfl rfl rfl) ?_
    refine gm_sz (gm_p_const (pc := 53) (i := .sipush 849) (v := gm_vi 849) (by decide +kernel) (by decide +kernel)) ?_
    refine fw_icf (cc := .ge) (pc := 56) (off := 29) (by decide +kernel) (by decide) ⟨by omega, by omega⟩ ⟨by decide, by decide⟩ (show ¬ 849 ≤ k by omega) ?_
    refine gm_sz (gm_p_load (pc := 59) (i := .aload_n 0) (sr := 2) (j := 0) (by decide +kernel) rfl rfl rfl) ?_
    refine gm_sz (fw_gr (pc := 60) (ix := 13) (ci := 11) (j := 1) (r := 227) (by decide +kernel) (e0k hE (k := 226) (c := 11) (by decide +kernel)) (by decide +kernel) (by decide +kernel) (e0r hE (k := 226) (j := 1) (r := 227) (by decide +kernel))) ?_
    refine gm_sz (gm_p_const (pc := 63) (i := .sipush 395) (v := gm_vi 395) (by decide +kernel) (by decide +kernel)) ?_
    refine gm_sz (gm_p_load (pc := 66) (i := .iload_n 2) (sr := 0) (j := 2) (by decide +kernel) rfl rfl rfl) ?_
    refine gm_sz (gm_p_bin (pc := 67) (i := .iadd) (f := fun x y => x + y) (by decide +kernel) rfl) ?_
    refine gm_sz (gm_p_load (pc := 68) (i := .aload_n 0) (sr := 2) (j := 0) (by decide +kernel) rfl rfl rfl) ?_
    refine gm_sz (fw_gr (pc := 69) (ix := 13) (ci := 11) (j := 1) (r := 227) (by decide +kernel) (e0k hE (k := 226) (c := 11) (by decide +kernel)) (by decide +kernel) (by decide +kernel) (e0r hE (k := 226) (j := 1) (r := 227) (by decide +kernel))) ?_
    refine gm_sz (gm_p_const (pc := 72) (i := .sipush 1244) (v := gm_vi 1244) (by decide +kernel) (by decide +kernel)) ?_
    refine gm_sz (gm_p_load (pc := 75) (i := .iload_n 2) (sr := 0) (j := 2) (by decide +kernel) rfl rfl rfl) ?_
    refine gm_sz (gm_p_bin (pc := 76) (i := .iadd) (f := fun x y => x + y) (by decide +kernel) rfl) ?_
    refine gm_sz (fw_ia (pc := 77) (k := 227) (len := 2093) (e0 := 1244 + k) (x := M 227 (1244 + k)) (by decide +kernel) (e0a hE (k := 227) (q := ((0 : Nat), (2093 : Nat))) (by decide +kernel)).1 (e0a hE (k := 227) (q := ((0 : Nat), (2093 : Nat))) (by decide +kernel)).2 (by decide) ⟨by omega, by omega⟩ (cpk_o (by omega))) ?_
    refine gm_sz (fw_is (pc := 78) (k := 227) (len := 2093) (e0 := 395 + k) (x := M 227 (1244 + k)) (M' := cpk M 227 227 1244 395 (k + 1)) (by decide +kernel) (e0a hE (k := 227) (q := ((0 : Nat), (2093 : Nat))) (by decide +kernel)).1 (e0a hE (k := 227) (q := ((0 : Nat), (2093 : Nat))) (by decide +kernel)).2 (by decide) ⟨by omega, by omega⟩ (cpk_s k0 (by omega) (congrArg (M 227) (by omega)))) ?_
    refine gm_sz (gm_p_iinc (pc := 79) (j := 2) (z := 1) (by decide +kernel) rfl) ?_
    refine gm_sz (gm_p_goto (pc := 82) (off := (-30)) (by decide +kernel) (by decide)) ?_
    exact ih (k + 1) (by omega) (by omega)
theorem cp_283z (hE : E0 n K R) (hq : gm_Wp X LX d bc bs 283 85 [some (gm_vr 226), some (gm_vi y), some (gm_vi 849)] [] n K R (cpk M 227 227 1244 395 849) Q) : gm_Wp X LX d bc bs 283 52 [some (gm_vr 226), some (gm_vi y), some (gm_vi 0)] [] n K R M Q := by
  have h9 := cp_283 hE  hq 849 0 (by omega) (Int.le_refl _)
  rw [cpk_0] at h9
  exact h9
theorem rl_283 (hd : 36 ≤ d) (hE : E0 n K R) (hF : VF f e) (hf : M 231 = f) (he : M 226 8 = e) (hT : TR N h M) (q0 : ∀ M2, fr [((226 : Nat), some (13 : Int)), ((226 : Nat), some (0 : Int)), ((226 : Nat), some (10 : Int)), ((226 : Nat), some (8 : Int)), ((226 : Nat), some (15 : Int)), ((226 : Nat), some (9 : Int)), ((226 : Nat), some (11 : Int)), ((226 : Nat), some (12 : Int)), ((227 : Nat), none)] M M2 → (∀ j, j < 1244 → M2 227 j = M 227 j) → ¬ (g_law f e).1 = true → M2 226 13 = (g_law f e).2 → M2 226 8 = 0 → M2 226 0 = 1 → Q (.inl (some (gm_vi 0))) n K R M2) (hq : ∀ M2, fr [((234 : Nat), none), ((226 : Nat), some (26 : Int)), ((226 : Nat), some (6 : Int)), ((226 : Nat), some (13 : Int)), ((226 : Nat), some (0 : Int)), ((226 : Nat), some (10 : Int)), ((226 : Nat), some (8 : Int)), ((226 : Nat), some (15 : Int)), ((226 : Nat), some (9 : Int)), ((226 : Nat), some (11 : Int)), ((226 : Nat), some (12 : Int)), ((227 : Nat), none)] M M2 → (g_law f e).1 = true → ((s_law f e).length ≤ 12 → LR (s_law f e) (M2 227) ∧ LRb (s_law f e) (M2 227)) → M2 227 395 = (g_law f e).2 → M2 227 8 = 1 → TR N (hts (N 13)) M2 → M2 226 13 = -1 → M2 226 8 = 0 → M2 226 0 = 0 → M2 226 6 = 0 → M2 226 26 = -1 → Q (.inl (some (gm_vi (g_law f e).2))) n K R M2) : gm_Wp X LX d bc bs 283 0 (gm_ent 283 [gm_vr 226]) [] n K R M Q := by
  have he9 := hF.1
  obtain ⟨b0, b1, b2⟩ := g_law_b (f := f) hF.1.1
  refine gm_sz (gm_p_load (pc := 0) (i := .aload_n 0) (sr := 2) (j := 0) (by decide +kernel) rfl rfl rfl) ?_
  refine gm_sz (gm_p_const (pc := 1) (i := .iconst 0) (v := gm_vi 0) (by decide +kernel) (by decide +kernel)) ?_
  refine gm_c_virt (k := 226) (ci := 11) (mj := 243) (ix := 296) (pc := 2) (as := [gm_vi 0]) (st := []) (d' := d - 1) (bc' := 0) (bs' := 0) (by decide +kernel) (by decide +kernel) (by decide +kernel) (by decide +kernel) (e0k hE (k := 226) (c := 11) (by decide +kernel)).1 (e0k hE (k := 226) (c := 11) (by decide +kernel)).2 (by decide) (by decide +kernel) (show 1 = gm_na 243 by decide +kernel) (fw_c1 fw_si) (show 2 ≤ gm_ml 243 by decide +kernel) (Nat.le_of_ble_eq_true rfl) (by omega) (Nat.zero_le _) (Nat.zero_le _) ?_
  refine rl_243 (by omega) hE hF hf he (fun W2 L2 st2 M5 hrd hst2 hg hw5 hf5 z8 z0 => ?_) (fun M5 hw5 z11 hg hf5 z8 z0 => ?_)
  · show gm_Wp X LX d _ _ 283 5 _ [gm_vi ((g_law f e).2)] n K _ _ Q
    have hg12 := b1 hg
    refine gm_sz (gm_p_stor (pc := 5) (i := .istore_n 1) (sr := 0) (j := 1) (by decide +kernel) rfl (show 2 ≤ _ from Nat.le_of_ble_eq_true rfl) rfl) ?_
    refine gm_sz (gm_p_load (pc := 6) (i := .aload_n 0) (sr := 2) (j := 0) (by decide +kernel) rfl rfl rfl) ?_
    refine gm_sz (gm_p_load (pc := 7) (i := .iload_n 1) (sr := 0) (j := 1) (by decide +kernel) rfl rfl rfl) ?_
    refine fw_if (cc := .ge) (pc := 8) (off := 10) (by decide +kernel) (by decide) ⟨by omega, by omega⟩ (fun h8 => ?_) (fun h8 => ?_)
    · have h8 : 0 ≤ ((g_law f e).2) := h8
      refine gm_sz (gm_p_const (pc := 18) (i := .iconst (-1)) (v := gm_vi (-1)) (by decide +kernel) (by decide +kernel)) ?_
      refine gm_sz (fw_pi (pc := 19) (ix := 30) (ci := 11) (j := 13) (M' := gm_uM M5 226 13 (-1)) (by decide +kernel) (e0k hE (k := 226) (c := 11) (by decide +kernel)) (by decide +kernel) (by decide +kernel) (by decide +kernel) rfl) ?_
      refine gm_sz (gm_p_load (pc := 22) (i := .aload_n 0) (sr := 2) (j := 0) (by decide +kernel) rfl rfl rfl) ?_
      refine gm_sz (gm_p_load (pc := 23) (i := .iload_n 1) (sr := 0) (j := 1) (by decide +kernel) rfl rfl rfl) ?_
      refine fw_if (cc := .ge) (pc := 24) (off := 7) (by decide +kernel) (by decide) ⟨by omega, by omega⟩ (fun h24 => ?_) (fun h24 => ?_)
      · have h24 : 0 ≤ ((g_law f e).2) := h24
        refine gm_sz (gm_p_const (pc := 31) (i := .iconst 0) (v := gm_vi 0) (by decide +kernel) (by decide +kernel)) ?_
        refine gm_sz (gm_p_const (pc := 32) (i := .iconst 1) (v := gm_vi 1) (by decide +kernel) (by decide +kernel)) ?_
        refine gm_c_virt (k := 226) (ci := 11) (mj := 282) (ix := 300) (pc := 33) (as := [gm_vi 0, gm_vi 1]) (st := []) (d' := d - 1) (bc' := 0) (bs' := 0) (by decide +kernel) (by decide +kernel) (by decide +kernel) (by decide +kernel) (e0k hE (k := 226) (c := 11) (by decide +kernel)).1 (e0k hE (k := 226) (c := 11) (by decide +kernel)).2 (by decide) (by decide +kernel) (show 2 = gm_na 282 by decide +kernel) (fw_c2 fw_si fw_si) (show 3 ≤ gm_ml 282 by decide +kernel) (Nat.le_of_ble_eq_true rfl) (by omega) (Nat.zero_le _) (Nat.zero_le _) ?_
        refine tf_0 hE ?_
        show gm_Wp X LX d _ _ 283 36 _ [gm_vi 0] n K _ _ Q
        refine fw_iftd (cc := .eq) (pc := 36) (off := 5) (by decide +kernel) (by decide) ⟨by decide, by decide⟩ (by decide) ?_
        refine gm_sz (gm_p_load (pc := 41) (i := .aload_n 0) (sr := 2) (j := 0) (by decide +kernel) rfl rfl rfl) ?_
        refine gm_sz (fw_gr (pc := 42) (ix := 13) (ci := 11) (j := 1) (r := 227) (by decide +kernel) (e0k hE (k := 226) (c := 11) (by decide +kernel)) (by decide +kernel) (by decide +kernel) (e0r hE (k := 226) (j := 1) (r := 227) (by decide +kernel))) ?_
        refine gm_sz (gm_p_const (pc := 45) (i := .sipush 1244) (v := gm_vi 1244) (by decide +kernel) (by decide +kernel)) ?_
        refine gm_sz (gm_p_load (pc := 48) (i := .iload_n 1) (sr := 0) (j := 1) (by decide +kernel) rfl rfl rfl) ?_
        refine gm_sz (fw_is (pc := 49) (k := 227) (len := 2093) (e0 := 1244) (x := (g_law f e).2) (M' := gm_uM (gm_uM M5 226 13 (-1)) 227 1244 ((g_law f e).2)) (by decide +kernel) (e0a hE (k := 227) (q := ((0 : Nat), (2093 : Nat))) (by decide +kernel)).1 (e0a hE (k := 227) (q := ((0 : Nat), (2093 : Nat))) (by decide +kernel)).2 (by decide) ⟨by omega, by omega⟩ rfl) ?_
        refine gm_sz (gm_p_const (pc := 50) (i := .iconst 0) (v := gm_vi 0) (by decide +kernel) (by decide +kernel)) ?_
        refine gm_sz (gm_p_stor (pc := 51) (i := .istore_n 2) (sr := 0) (j := 2) (by decide +kernel) rfl (show 3 ≤ _ from Nat.le_of_ble_eq_true rfl) rfl) ?_
        have y13 : (gm_uM (gm_uM M5 226 13 (-1)) 227 1244 ((g_law f e).2)) 226 13 = -1 := ((uM_ne (by omega)).trans uM_at)
        have y8 : (gm_uM (gm_uM M5 226 13 (-1)) 227 1244 ((g_law f e).2)) 226 8 = 0 := ((uM_ne (by omega)).trans ((uM_ne (by omega)).trans z8))
        have y0 : (gm_uM (gm_uM M5 226 13 (-1)) 227 1244 ((g_law f e).2)) 226 0 = 0 := ((uM_ne (by omega)).trans ((uM_ne (by omega)).trans z0))
        have yf : fr [((226 : Nat), some (13 : Int)), ((226 : Nat), some (0 : Int)), ((226 : Nat), some (10 : Int)), ((226 : Nat), some (8 : Int)), ((226 : Nat), some (15 : Int)), ((226 : Nat), some (9 : Int)), ((226 : Nat), some (11 : Int)), ((226 : Nat), some (12 : Int)), ((227 : Nat), none)] M (gm_uM (gm_uM M5 226 13 (-1)) 227 1244 ((g_law f e).2)) := (fr_p (fr_p (fr_t fr_0 hf5 (by decide)) (Or.inr (by decide))) (Or.inl (by decide)))
        have yw : (gm_uM (gm_uM M5 226 13 (-1)) 227 1244 ((g_law f e).2)) 227 1244 = (g_law f e).2 := uM_at
        have yo : ∀ j, ¬ j = 1244 → (gm_uM (gm_uM M5 226 13 (-1)) 227 1244 ((g_law f e).2)) 227 j = W2 j := fun j hj => (uM_ne (by omega)).trans ((uM_ne (by omega)).trans (congrFun hw5 j))
        generalize (gm_uM (gm_uM M5 226 13 (-1)) 227 1244 ((g_law f e).2)) = m6 at y13 y8 y0 yf yw yo ⊢
        refine cp_283z (M := m6) (Q := Q) hE ?_
        refine gm_sz (gm_p_load (pc := 85) (i := .aload_n 0) (sr := 2) (j := 0) (by decide +kernel) rfl rfl rfl) ?_
        refine gm_sz (fw_gr (pc := 86) (ix := 13) (ci := 11) (j := 1) (r := 227) (by decide +kernel) (e0k hE (k := 226) (c := 11) (by decide +kernel)) (by decide +kernel) (by decide +kernel) (e0r hE (k := 226) (j := 1) (r := 227) (by decide +kernel))) ?_
        refine gm_sz (gm_p_const (pc := 89) (i := .bipush 8) (v := gm_vi 8) (by decide +kernel) (by decide +kernel)) ?_
        refine gm_sz (gm_p_const (pc := 91) (i := .iconst 1) (v := gm_vi 1) (by decide +kernel) (by decide +kernel)) ?_
        refine gm_sz (fw_is (pc := 92) (k := 227) (len := 2093) (e0 := 8) (x := 1) (M' := gm_uM (cpk m6 227 227 1244 395 849) 227 8 1) (by decide +kernel) (e0a hE (k := 227) (q := ((0 : Nat), (2093 : Nat))) (by decide +kernel)).1 (e0a hE (k := 227) (q := ((0 : Nat), (2093 : Nat))) (by decide +kernel)).2 (by decide) ⟨by omega, by omega⟩ rfl) ?_
        refine gm_sz (gm_p_load (pc := 93) (i := .aload_n 0) (sr := 2) (j := 0) (by decide +kernel) rfl rfl rfl) ?_
        refine gm_sz (gm_p_const (pc := 94) (i := .iconst 0) (v := gm_vi 0) (by decide +kernel) (by decide +kernel)) ?_
        refine gm_sz (fw_pi (pc := 95) (ix := 79) (ci := 11) (j := 6) (M' := gm_uM (gm_uM (cpk m6 227 227 1244 395 849) 227 8 1) 226 6 0) (by decide +kernel) (e0k hE (k := 226) (c := 11) (by decide +kernel)) (by decide +kernel) (by decide +kernel) (by decide +kernel) rfl) ?_
        have h98 : ws ((gm_uM (gm_uM (cpk m6 227 227 1244 395 849) 227 8 1) 226 6 0) 227) = N := by
          rw [← hT.1]
          funext i
          unfold ws
          by_cases hi : 0 ≤ i ∧ i < 395 ∧ ¬ i = 8
          · rw [if_pos hi, if_pos hi]
            exact (uM_ne (by omega)).trans ((uM_ne (by omega)).trans ((cpk_o (by omega)).trans ((yo i (by omega)).trans (hrd.1 i (by omega)))))
          · rw [if_neg hi, if_neg hi]
        refine gm_sz (gm_p_load (pc := 98) (i := .aload_n 0) (sr := 2) (j := 0) (by decide +kernel) rfl rfl rfl) ?_
        refine gm_c_virt (k := 226) (ci := 11) (mj := 235) (ix := 72) (pc := 99) (as := []) (st := []) (d' := d - 1) (bc' := 0) (bs' := 0) (by decide +kernel) (by decide +kernel) (by decide +kernel) (by decide +kernel) (e0k hE (k := 226) (c := 11) (by decide +kernel)).1 (e0k hE (k := 226) (c := 11) (by decide +kernel)).2 (by decide) (by decide +kernel) (show 0 = gm_na 235 by decide +kernel) fw_c0 (show 1 ≤ gm_ml 235 by decide +kernel) (Nat.le_of_ble_eq_true rfl) (by omega) (Nat.zero_le _) (Nat.zero_le _) ?_
        refine wa_c235 hE h98 (fun M99 hf99 hh99 h26 => ?_)
        show gm_Wp X LX d _ _ 283 102 _ [] n K _ _ Q
        refine gm_sz (gm_p_load (pc := 102) (i := .iload_n 1) (sr := 0) (j := 1) (by decide +kernel) rfl rfl rfl) ?_
        have f9 : fr [((234 : Nat), none), ((226 : Nat), some (26 : Int)), ((226 : Nat), some (6 : Int)), ((226 : Nat), some (13 : Int)), ((226 : Nat), some (0 : Int)), ((226 : Nat), some (10 : Int)), ((226 : Nat), some (8 : Int)), ((226 : Nat), some (15 : Int)), ((226 : Nat), some (9 : Int)), ((226 : Nat), some (11 : Int)), ((226 : Nat), some (12 : Int)), ((227 : Nat), none)] (cpk m6 227 227 1244 395 849) M99 := (fr_t (fr_p (fr_p fr_0 (Or.inl (by decide))) (Or.inr (by decide))) hf99 (by decide))
        refine gm_r_int (pc := 103) (by decide +kernel) (Or.inl (by decide +kernel)) (hq _ (fr_t (fr_t (fr_t fr_0 yf (by decide)) cpk_fr (by decide)) f9 (by decide)) hg (fun h12 => rdl_LR2 hrd (by omega) h12 (fun j j0 j1 => ?_)) ?_ ((fr_c hf99 (by decide)).trans ((uM_ne (by omega)).trans uM_at)) ⟨(congrArg ws (funext fun j => fr_c hf99 (by decide))).trans h98, fun y9 y0 y1 => ⟨hh99 y9 y0 y1, hts_b⟩⟩ ((fr_j hf99 (by decide)).trans ((uM_ne (by omega)).trans ((uM_ne (by omega)).trans ((cpk_o (by omega)).trans y13)))) ((fr_j hf99 (by decide)).trans ((uM_ne (by omega)).trans ((uM_ne (by omega)).trans ((cpk_o (by omega)).trans y8)))) ((fr_j hf99 (by decide)).trans ((uM_ne (by omega)).trans ((uM_ne (by omega)).trans ((cpk_o (by omega)).trans y0)))) ((fr_j hf99 (by decide)).trans uM_at) h26)
        · exact (fr_c hf99 (by decide)).trans ((uM_ne (by omega)).trans ((uM_ne (by omega)).trans ((cpk_i (by omega) (by omega)).trans ((yo _ (by omega)).trans (congrArg W2 (by omega))))))
        · exact (fr_c hf99 (by decide)).trans ((uM_ne (by omega)).trans ((uM_ne (by omega)).trans ((cpk_i (by omega) (by omega)).trans yw)))
      · have h24 : ¬ 0 ≤ ((g_law f e).2) := h24
        exact absurd b0 (by omega)
    · have h8 : ¬ 0 ≤ ((g_law f e).2) := h8
      exact absurd b0 (by omega)
  · show gm_Wp X LX d _ _ 283 5 _ [gm_vi (-1)] n K _ _ Q
    have hge := b2 hg
    refine gm_sz (gm_p_stor (pc := 5) (i := .istore_n 1) (sr := 0) (j := 1) (by decide +kernel) rfl (show 2 ≤ _ from Nat.le_of_ble_eq_true rfl) rfl) ?_
    refine gm_sz (gm_p_load (pc := 6) (i := .aload_n 0) (sr := 2) (j := 0) (by decide +kernel) rfl rfl rfl) ?_
    refine gm_sz (gm_p_load (pc := 7) (i := .iload_n 1) (sr := 0) (j := 1) (by decide +kernel) rfl rfl rfl) ?_
    refine fw_iffd (cc := .ge) (pc := 8) (off := 10) (by decide +kernel) (by decide) ⟨by decide, by decide⟩ (by decide) ?_
    refine gm_sz (gm_p_load (pc := 11) (i := .aload_n 0) (sr := 2) (j := 0) (by decide +kernel) rfl rfl rfl) ?_
    refine gm_sz (fw_gi (pc := 12) (ix := 116) (ci := 11) (j := 11) (x := (g_law f e).2) (by decide +kernel) (e0k hE (k := 226) (c := 11) (by decide +kernel)) (by decide +kernel) (by decide +kernel) z11) ?_
    refine gm_sz (gm_p_goto (pc := 15) (off := 4) (by decide +kernel) (by decide)) ?_
    refine gm_sz (fw_pi (pc := 19) (ix := 30) (ci := 11) (j := 13) (M' := gm_uM M5 226 13 ((g_law f e).2)) (by decide +kernel) (e0k hE (k := 226) (c := 11) (by decide +kernel)) (by decide +kernel) (by decide +kernel) (by decide +kernel) rfl) ?_
    refine gm_sz (gm_p_load (pc := 22) (i := .aload_n 0) (sr := 2) (j := 0) (by decide +kernel) rfl rfl rfl) ?_
    refine gm_sz (gm_p_load (pc := 23) (i := .iload_n 1) (sr := 0) (j := 1) (by decide +kernel) rfl rfl rfl) ?_
    refine fw_iffd (cc := .ge) (pc := 24) (off := 7) (by decide +kernel) (by decide) ⟨by decide, by decide⟩ (by decide) ?_
    refine gm_sz (gm_p_const (pc := 27) (i := .iconst 1) (v := gm_vi 1) (by decide +kernel) (by decide +kernel)) ?_
    refine gm_sz (gm_p_goto (pc := 28) (off := 4) (by decide +kernel) (by decide)) ?_
    refine gm_sz (gm_p_const (pc := 32) (i := .iconst 1) (v := gm_vi 1) (by decide +kernel) (by decide +kernel)) ?_
    refine gm_c_virt (k := 226) (ci := 11) (mj := 282) (ix := 300) (pc := 33) (as := [gm_vi 1, gm_vi 1]) (st := []) (d' := d - 1) (bc' := 0) (bs' := 0) (by decide +kernel) (by decide +kernel) (by decide +kernel) (by decide +kernel) (e0k hE (k := 226) (c := 11) (by decide +kernel)).1 (e0k hE (k := 226) (c := 11) (by decide +kernel)).2 (by decide) (by decide +kernel) (show 2 = gm_na 282 by decide +kernel) (fw_c2 fw_si fw_si) (show 3 ≤ gm_ml 282 by decide +kernel) (Nat.le_of_ble_eq_true rfl) (by omega) (Nat.zero_le _) (Nat.zero_le _) ?_
    refine tf_1 hE ?_
    show gm_Wp X LX d _ _ 283 36 _ [gm_vi 1] n K _ _ Q
    refine fw_iffd (cc := .eq) (pc := 36) (off := 5) (by decide +kernel) (by decide) ⟨by decide, by decide⟩ (by decide) ?_
    refine gm_sz (gm_p_const (pc := 39) (i := .iconst 0) (v := gm_vi 0) (by decide +kernel) (by decide +kernel)) ?_
    exact gm_r_int (pc := 40) (by decide +kernel) (Or.inl (by decide +kernel)) (q0 _ (fr_p (fr_p (fr_t fr_0 hf5 (by decide)) (Or.inr (by decide))) (Or.inr (by decide))) (fun j hj => (uM_ne (by omega)).trans ((uM_ne (by omega)).trans (hw5 j (by omega)))) hg ((uM_ne (by omega)).trans uM_at) ((uM_ne (by omega)).trans ((uM_ne (by omega)).trans z8)) uM_at)
end W4A
end
/-! 7a47.w5sl -/
section
/-! WHAT A RIGHT TEXT OF A LAW TELLS IS A LAW: as many lines as told, each of them well formed. -/
section W5A
variable {f : Int → Int} {e b : Int}
theorem s_txt_len : ∀ (t : Nat) (b : Int), (g_txt f e t b).1 = true → 12 - (t : Int) + ((s_txt f e t b).length : Int) = (g_txt f e t b).2 := by
  intro t
  induction t with
  | zero => intro b h; cases h
  | succ t ih =>
    intro b h
    by_cases j6 : (g_line f e b).1 = true
    · by_cases k6 : tx_k f e (g_line f e b).2 = 256
      · rw [g_t1 j6 k6, s_t1 k6]
        show 12 - ((t + 1 : Nat) : Int) + ((1 : Nat) : Int) = 12 - (t : Int)
        omega
      · by_cases k9 : tx_k f e (g_line f e b).2 = 59
        · rw [g_t3 j6 k6 k9] at h ⊢
          rw [s_t3 k6 k9, List.length_cons]
          have := ih _ h
          omega
        · rw [g_t2 j6 k6 k9] at h
          cases h
    · rw [g_t0 j6] at h
      cases h
theorem s_law_len (h : (g_law f e).1 = true) : ((s_law f e).length : Int) = (g_law f e).2 := by
  by_cases n9 : tx_k f e (tx_g f e 0) = 256
  · rw [g_w0 n9, show s_law f e = [] from tif_t n9]
    rfl
  · rw [g_w1 n9] at h ⊢
    rw [show s_law f e = s_txt f e 12 (tx_g f e 0) from tif_f n9]
    have := s_txt_len 12 _ h
    omega
/-- a line well formed -/
noncomputable def lwf (x : lln) : Prop := (0 ≤ x.1 ∧ x.1 ≤ 2) ∧ (0 ≤ x.2.1 ∧ x.2.1 ≤ 20) ∧ ∀ t, x.2.2 = some t → shg 32 t 0 1
theorem s_if_w (h0 : 0 ≤ b) (h1 : b ≤ e) (h : (g_if f e b).1 = true) : ∀ t, s_if f e b = some t → shg 32 t 0 1 := by
  intro t ht
  by_cases j : tx_is f e b wo_if
  · rw [g_f1 j] at h
    rw [s_f1 j] at ht
    cases ht
    have n1 := tx_nb (f := f) h1
    exact shg_mono (by decide) _ _ ((s_cd_ok (f := f) (e := e) 6 _ (by omega) n1.2.1 h).2 0)
  · rw [s_f0 j] at ht
    cases ht
theorem s_line_w (h0 : 0 ≤ b) (h1 : b ≤ e) (h : (g_line f e b).1 = true) : lwf (s_line f e b) := by
  have n1 := tx_nb (f := f) h1
  have n2 := tx_nb (f := f) n1.2.1
  by_cases jo : tx_is f e b wo_open
  · rw [g_n1 jo] at h
    rw [s_n1 jo]
    exact ⟨⟨(by decide : (0 : Int) ≤ 2), (by decide : (2 : Int) ≤ 2)⟩, ⟨(by decide : (0 : Int) ≤ 0), (by decide : (0 : Int) ≤ 20)⟩, s_if_w (by omega) n1.2.1 h⟩
  · by_cases jf : tx_is f e b wo_fast ∨ tx_is f e b wo_slow
    · by_cases jn : g_nm f e (tx_n f e b)
      · have hg := h
        have e9 : g_line f e b = g_if f e (tx_n f e (tx_n f e b)) := by
          unfold g_line
          rw [tif_f jo, tif_t jf, tif_t jn]
        rw [e9] at hg
        have w := s_if_w (by omega) n2.2.1 hg
        by_cases ja : tx_is f e b wo_fast
        · rw [s_n2 ja]
          exact ⟨⟨(by decide : (0 : Int) ≤ 0), (by decide : (0 : Int) ≤ 2)⟩, jn.2, w⟩
        · rw [s_n3 (jf.resolve_left ja)]
          exact ⟨⟨(by decide : (0 : Int) ≤ 1), (by decide : (1 : Int) ≤ 2)⟩, jn.2, w⟩
      · have e9 : g_line f e b = (false, tx_n f e b) := by
          unfold g_line
          rw [tif_f jo, tif_t jf, tif_f jn]
        rw [e9] at h
        cases h
    · have e9 : g_line f e b = (false, b) := by
        unfold g_line
        rw [tif_f jo, tif_f jf]
      rw [e9] at h
      cases h
theorem s_txt_w : ∀ (t : Nat) (b : Int), 0 ≤ b → b ≤ e → (g_txt f e t b).1 = true → ∀ x ∈ s_txt f e t b, lwf x := by
  intro t
  induction t with
  | zero => intro b _ _ h; cases h
  | succ t ih =>
    intro b h0 h1 h x hx
    by_cases j6 : (g_line f e b).1 = true
    · have w := s_line_w h0 h1 j6
      have l := g_line_in (f := f) h0 h1
      have n1 := tx_nb (f := f) l.2
      by_cases k6 : tx_k f e (g_line f e b).2 = 256
      · rw [s_t1 k6] at hx
        rw [List.mem_singleton.mp hx]
        exact w
      · by_cases k9 : tx_k f e (g_line f e b).2 = 59
        · rw [g_t3 j6 k6 k9] at h
          rw [s_t3 k6 k9] at hx
          rcases List.mem_cons.mp hx with rfl | hx
          · exact w
          · exact ih _ (by omega) n1.2.1 h x hx
        · rw [g_t2 j6 k6 k9] at h
          cases h
    · rw [g_t0 j6] at h
      cases h
/-- the law that is told -/
theorem s_law_w (he : 0 ≤ e) (h : (g_law f e).1 = true) : LW (s_law f e) := by
  have hl := s_law_len h
  have hb := (g_law_b (f := f) he).2.1 h
  refine ⟨by omega, fun k x hx => ?_⟩
  have hm : x ∈ s_law f e := List.mem_of_getElem? hx
  have : lwf x := by
    by_cases n9 : tx_k f e (tx_g f e 0) = 256
    · rw [show s_law f e = [] from tif_t n9] at hm
      cases hm
    · rw [g_w1 n9] at h
      rw [show s_law f e = s_txt f e 12 (tx_g f e 0) from tif_f n9] at hm
      obtain ⟨g1, g2, -⟩ := tx_gb (f := f) he
      exact s_txt_w 12 _ g1 g2 h x hm
  exact this
end W5A
end
/-! 7c00.mx -/
section
/-! THE SAME HEAP, TOLD WITH OTHER NUMBERS: the end told by one judgement, its numbers by another. -/
/-- a cell's numbers, as far as it has any -/
noncomputable def mx_1 (K : gm_K) (M M' : gm_M) (k : Nat) : Prop := (((K k).1 = 0 ∨ (K k).1 = 1) → ∀ j : Nat, j < (K k).2 → Int32.ofInt (M k j) = Int32.ofInt (M' k j)) ∧ ((K k).1 = 2 → ∀ j : Nat, j < (K k).2 → Int64.ofInt (M k j) = Int64.ofInt (M' k j)) ∧ ∀ c j : Nat, (K k).1 = c + 4 → j < gm_nf c → ¬ gm_isr c j = true → Int32.ofInt (M k j) = Int32.ofInt (M' k j)
theorem mx_fs {α : Nat → Nat} {k c : Nat} {R : gm_R} {M M' : gm_M} (h : ∀ j : Nat, j < gm_nf c → ¬ gm_isr c j = true → Int32.ofInt (M k j) = Int32.ofInt (M' k j)) : gm_fs α R M' k c = gm_fs α R M k c := by
  unfold gm_fs
  refine List.map_congr_left fun j hj => ?_
  by_cases hr : gm_isr c j = true
  · rw [if_pos hr, if_pos hr]
  · rw [if_neg hr, if_neg hr, h j (List.mem_range.mp hj) hr]
theorem mx_at {D : va_G} {ti : Nat → ClassId} {α : Nat → Nat} {k a : Nat} {K : gm_K} {R : gm_R} {M M' : gm_M} {H : Heap} (h : mx_1 K M M' k) (hat : va_at D gm_cs (a, gm_en ti α K R M k) H) : va_at D gm_cs (a, gm_en ti α K R M' k) H := by
  obtain ⟨h1, h2, h3⟩ := h
  by_cases k0 : (K k).1 = 0
  · have e1 : ∀ M : gm_M, gm_en ti α K R M k = .inl (ti 0, (K k).2, .inl fun j => Int32.ofInt (M k j)) := fun M => by unfold gm_en; rw [k0]
    rw [e1] at hat ⊢
    have hat : H[a]? = some (arrV (ti 0) (K k).2 (fun j => .int (Int32.ofInt (M k (j : Int))))) := hat
    show H[a]? = some (arrV (ti 0) (K k).2 (fun j => .int (Int32.ofInt (M' k (j : Int)))))
    rw [hat]
    unfold arrV
    congr 3
    funext j
    show Value.int (Int32.ofInt (M k ((j.val : Nat) : Int))) = Value.int (Int32.ofInt (M' k ((j.val : Nat) : Int)))
    rw [h1 (Or.inl k0) j.val j.isLt]
  by_cases k1 : (K k).1 = 1
  · have e1 : ∀ M : gm_M, gm_en ti α K R M k = .inl (ti 1, (K k).2, .inl fun j => Int32.ofInt (M k j)) := fun M => by unfold gm_en; rw [k1]
    rw [e1] at hat ⊢
    have hat : H[a]? = some (arrV (ti 1) (K k).2 (fun j => .int (Int32.ofInt (M k (j : Int))))) := hat
    show H[a]? = some (arrV (ti 1) (K k).2 (fun j => .int (Int32.ofInt (M' k (j : Int)))))
    rw [hat]
    unfold arrV
    congr 3
    funext j
    show Value.int (Int32.ofInt (M k ((j.val : Nat) : Int))) = Value.int (Int32.ofInt (M' k ((j.val : Nat) : Int)))
    rw [h1 (Or.inr k1) j.val j.isLt]
  by_cases k2 : (K k).1 = 2
  · have e1 : ∀ M : gm_M, gm_en ti α K R M k = .inl (ti 2, (K k).2, .inr (.inl fun j => Int64.ofInt (M k j))) := fun M => by unfold gm_en; rw [k2]
    rw [e1] at hat ⊢
    have hat : H[a]? = some (arrV (ti 2) (K k).2 (fun j => .long (Int64.ofInt (M k (j : Int))))) := hat
    show H[a]? = some (arrV (ti 2) (K k).2 (fun j => .long (Int64.ofInt (M' k (j : Int)))))
    rw [hat]
    unfold arrV
    congr 3
    funext j
    show Value.long (Int64.ofInt (M k ((j.val : Nat) : Int))) = Value.long (Int64.ofInt (M' k ((j.val : Nat) : Int)))
    rw [h2 k2 j.val j.isLt]
  by_cases k3 : (K k).1 = 3
  · have e1 : gm_en ti α K R M' k = gm_en ti α K R M k := by unfold gm_en; rw [k3]
    rw [e1]
    exact hat
  · obtain ⟨c, hc⟩ : ∃ c, (K k).1 = c + 4 := ⟨(K k).1 - 4, by omega⟩
    rw [gm_en_obj hc] at hat ⊢
    rw [mx_fs (fun j hj hr => h3 c j hc hj hr)]
    exact hat
/-- the numbers of the end may be told otherwise -/
theorem gm_Wp_eqM {X : Int → Int} {LX d bc bs mi pc n : Nat} {L : gm_L} {st : List gm_V} {K : gm_K} {R : gm_R} {M : gm_M} {Q Q' : gm_Q} (h : gm_Wp X LX d bc bs mi pc L st n K R M Q') (hq : ∀ o n1 K1 R1 M1, Q' o n1 K1 R1 M1 → ∃ M9 : gm_M, (∀ k, 1 ≤ k → k ≤ n1 → mx_1 K1 M1 M9 k) ∧ Q o n1 K1 R1 M9) : gm_Wp X LX d bc bs mi pc L st n K R M Q := by
  intro p l e Rm s m args below meth c D ti adK adV A α0 n0 mc ms hcx hev hd hd2 hmc hms hA α H locs cells slots ls sv hxt hc1 hc2 hR hL hS T hT Xs
  obtain ⟨t, a1, o, b1, b2, b3⟩ := h p l e Rm s m args below meth c D ti adK adV A α0 n0 mc ms hcx hev hd hd2 hmc hms hA α H locs cells slots ls sv hxt hc1 hc2 hR hL hS T hT Xs
  refine ⟨t, a1, o, b1, b2, ?_⟩
  have mP : ∀ {α' : Nat → Nat} {n' : Nat} {K' : gm_K} {R' : gm_R} {M' M9 : gm_M}, (∀ k, 1 ≤ k → k ≤ n' → mx_1 K' M' M9 k) → va_P D gm_cs (gm_wl ti α' n' K' R' M') t.heap → va_P D gm_cs (gm_wl ti α' n' K' R' M9) t.heap := fun hm hp k q hq => by
    obtain ⟨g1, rfl⟩ := gm_wl_get hq
    exact mx_at (hm (k + 1) (by omega) (by omega)) (hp k _ (gm_wl_at (k := k + 1) (by omega) g1))
  have mD : ∀ {α' : Nat → Nat} {n' : Nat} {K' : gm_K} {R' : gm_R} {M' M9 : gm_M}, va_D A (gm_wl ti α' n' K' R' M') → va_D A (gm_wl ti α' n' K' R' M9) := fun {α' n' K' R' M' M9} hd => ⟨fun i j p q hp hq e => by
    obtain ⟨g1, rfl⟩ := gm_wl_get hp
    obtain ⟨g2, rfl⟩ := gm_wl_get hq
    exact hd.1 i j _ _ (gm_wl_at (k := i + 1) (by omega) g1) (gm_wl_at (k := j + 1) (by omega) g2) e, fun k q hq => by
    obtain ⟨g1, rfl⟩ := gm_wl_get hq
    have := hd.2 k _ (gm_wl_at (ti := ti) (α := α') (K := K') (R := R') (M := M') (k := k + 1) (by omega) g1)
    exact this⟩
  rcases b3 with ⟨⟨⟨v, u, α', n', K', R', M', e1, e2, e3, ex, ek, ep, ed, er⟩, e5⟩, e6⟩ | ⟨q, rfl, E1, ce, L1, ⟨⟨x, α', n', K', R', M', e1, e2, e3, ex, ek, ep, ed, er⟩, e5⟩, e6⟩
  · obtain ⟨M9, g1, g2⟩ := hq _ _ _ _ _ e3
    exact Or.inl ⟨⟨⟨v, u, α', n', K', R', M9, e1, e2, g2, ex, ek, mP g1 ep, mD ed, er⟩, e5⟩, e6⟩
  · obtain ⟨M9, g1, g2⟩ := hq _ _ _ _ _ e3
    exact Or.inr ⟨q, rfl, E1, ce, L1, ⟨⟨x, α', n', K', R', M9, e1, e2, g2, ex, ek, mP g1 ep, mD ed, er⟩, e5⟩, e6⟩
/-- old cells by the one, new ones by the other -/
noncomputable def mxM (n : Nat) (M2 M1 : gm_M) : gm_M := fun k j => if k ≤ n then M2 k j else M1 k j
theorem mxM_o {n k : Nat} {M2 M1 : gm_M} {j : Int} (h : k ≤ n) : mxM n M2 M1 k j = M2 k j := if_pos h
theorem mxM_n {n k : Nat} {M2 M1 : gm_M} {j : Int} (h : n < k) : mxM n M2 M1 k j = M1 k j := if_neg (by omega)
theorem mxM_1 {n n1 : Nat} {K1 K2 : gm_K} {M1 M2 : gm_M} (hd : dt_m n K1 M1 K2 M2) (hk : ∀ k, 1 ≤ k → k ≤ n → K1 k = K2 k) : ∀ k, 1 ≤ k → k ≤ n1 → mx_1 K1 M1 (mxM n M2 M1) k := fun k h1 _ => by
  by_cases hn : k ≤ n
  · obtain ⟨g1, g2, g3⟩ := hd k h1 hn (hk k h1 hn)
    refine ⟨fun h j hj => ?_, fun h j hj => ?_, fun c j h hj hr => ?_⟩
    · rw [mxM_o hn]; exact g1 h j hj
    · rw [mxM_o hn]; exact g2 h j hj
    · rw [mxM_o hn]; exact g3 c j h hj hr
  · refine ⟨fun h j hj => ?_, fun h j hj => ?_, fun c j h hj hr => ?_⟩ <;> rw [mxM_n (by omega)]
/-- two judgements of one run: how it ends by the first, the numbers by the second -/
theorem gm_Wp_mx {X : Int → Int} {LX d bc bs mi pc n : Nat} {L : gm_L} {st : List gm_V} {K : gm_K} {R : gm_R} {M : gm_M} {Q1 Q2 Q : gm_Q} (h1 : gm_Wp X LX d bc bs mi pc L st n K R M Q1) (h2 : gm_Wp X LX d bc bs mi pc L st n K R M Q2) (hq : ∀ o n1 K1 R1 M1 o2 n2 K2 R2 M2, Q1 o n1 K1 R1 M1 → Q2 o2 n2 K2 R2 M2 → dt_o o o2 → dt_m n K1 M1 K2 M2 → (∀ k, 1 ≤ k → k ≤ n → K1 k = K2 k) ∧ Q o n1 K1 R1 (mxM n M2 M1)) : gm_Wp X LX d bc bs mi pc L st n K R M Q :=
  gm_Wp_eqM (gm_Wp_and h1 h2) (fun o n1 K1 R1 M1 ⟨q1, o2, n2, K2, R2, M2, q2, ho, hm⟩ => ⟨mxM n M2 M1, mxM_1 hm (hq o n1 K1 R1 M1 o2 n2 K2 R2 M2 q1 q2 ho hm).1, (hq o n1 K1 R1 M1 o2 n2 K2 R2 M2 q1 q2 ho hm).2⟩)
end
/-! 7c01.wx -/
section
/-! THE WORLD BETWEEN THE CALLS, told exactly: which law each State holds, which cells stay. -/
theorem vM {la : Nat → Nat} {M : gm_M} {c : Nat} {j : Int} (h : c ≤ 245) : bs_M la M c j = M c j := by unfold bs_M bg_rho; rw [if_pos (by omega)]
section WX
variable {X : Int → Int} {LX : Nat} {O : gm_Or} {g z g1 c n' : Nat} {la : Nat → Nat} {K K' K1 : gm_K} {R R' : gm_R} {M M' M1 : gm_M} {S : ck_Sum} {L : gm_L} {st : List gm_V} {Q Qf : gm_Q}
theorem bg_oweX {d bc bs mi pc : Nat} {u : Option gm_V} (hb : bg g la K R M) (hz : bs_ok la z g1) (hg : g < 10000) (hr : bs_rt z g1 c (bs_K la K) (bs_M la M) n' K' R' M') (hu : u = none ∨ ∃ x, u = some (gm_vi x)) (hW : bg (g + c) (bg_la la g c R') (bg_K g K K') (bg_R (g + c) (bg_la la g c R')) (bg_M g M M') → gm_Wp X LX d bc bs mi pc L (u.toList ++ st) (245 + 4 * (g + c)) (bg_K g K K') (bg_R (g + c) (bg_la la g c R')) (bg_M g M M') Q) : gm_owe X LX d bc bs mi pc L st (bg_rho (la 3)) (bg_f la) (245 + 4 * g1) (245 + 4 * g) K R M Q (.inl u) n' K' R' M' := by
  have hc : c ≤ 1 := by have := hr.1.1; omega
  exact ⟨u, rfl, hu, 245 + 4 * (g + c), _, _, _, fun ti α α1 hx => ⟨bg_al g c α α1, bg_xt hr.1.2 hc hg, bg_bgw hb hz hr hg hx⟩, bg_Rv (by omega) (bg_dl hb hr), hW (bg_new hb hz hr hg)⟩
/-- what the row says, and all that comes behind, the world told exactly -/
noncomputable def bc_KX (X : Int → Int) (LX d bc bs mi pc : Nat) (L : gm_L) (st : List gm_V) (Q : gm_Q) (O : gm_Or) (z g1 g : Nat) (la : Nat → Nat) (K : gm_K) (M : gm_M) (S : ck_Sum) : Prop := ∀ oc ∈ S.2.2.2.2.2, ∀ (σ : Nat → Int) (u : Option gm_V) (n' : Nat) (K' : gm_K) (R' : gm_R) (M' : gm_M), (∀ q ∈ O.2.2.nm, σ q.1 = bs_M la M q.2.1 q.2.2) → ck_ho σ oc.1 (.inl u) → ck_gf σ oc.2.2 n' K' R' M' → gm_Fx O n' K' R' M' → ck_fr S.2.2.2.2.1 (245 + 4 * g1) (bs_K la K) (bs_R z g1) (bs_M la M) n' K' R' M' → bg g (bg_la la g 0 R') (bg_K g K K') (bg_R g (bg_la la g 0 R')) (bg_M g M M') → gm_Wp X LX d bc bs mi pc L (u.toList ++ st) (245 + 4 * g) (bg_K g K K') (bg_R g (bg_la la g 0 R')) (bg_M g M M') Q
theorem bc_ownX {d bc bs mi pc mj d' bc' bs' : Nat} {vs : List gm_V} (hb : bg g la K R M) (hz : bs_ok la z g1) (hg : g < 10000) (hnm : ck_nmu O) (hO : ∀ n K R M, gm_Fx O n K R M → gm_Fx p2_O n K R M) (hF : gm_Fx O (245 + 4 * g1) (bs_K la K) (bs_R z g1) (bs_M la M)) (hS : ck_Ok O X LX mj S) (hck : bc_ok O z g1 S = true) (h1 : S.1.1 ≤ d') (h2 : S.1.2.1 ≤ bc') (h3 : S.1.2.2 ≤ bs') (hvs : ∀ σ, ck_gas σ S.2.2.1 vs) (k : bc_KX X LX d bc bs mi pc L st Q O z g1 g la K M S) : gm_Wp X LX d' bc' bs' mj 0 (gm_ent mj vs) [] (245 + 4 * g1) (bs_K la K) (bs_R z g1) (bs_M la M) (gm_owe X LX d bc bs mi pc L st (bg_rho (la 3)) (bg_f la) (245 + 4 * g1) (245 + 4 * g) K R M Q) := by
  have hck2 := hck
  simp only [bc_ok, Bool.and_eq_true, decide_eq_true_eq] at hck2
  have hσ := ck_sn_s (σ := fun _ => 0) (M := bs_M la M) hnm
  refine gm_Wp_wk (Nat.le_refl _) h2 h3 (gm_Wp_mono (fun o n' K' R' M' hq => ?_) (hS d' (ck_sn O (fun _ => 0) (bs_M la M)) vs _ _ _ _ h1 hck2.1.symm (hvs _) hσ hF (bc_f_s hck2.2.1 hF (by omega) hσ)))
  obtain ⟨hrt, oc, hoc, u, rfl, hu, ho, hf⟩ := bc_rt hck hz hO hq
  exact bg_oweX (c := 0) hb hz hg hrt hu (fun hb2 => k oc hoc _ u n' K' R' M' hσ ho hf hq.1 hq.2.1 hb2)
/-- a call on the object k1 itself -/
theorem bc_virtX {ix mj k1 ci mi pc d bc bs : Nat} {xs : List Int} (hb : bg g la K R M) (hz : bs_ok la z g1) (hg : g < 10000) (hnm : ck_nmu O) (hO : ∀ n K R M, gm_Fx O n K R M → gm_Fx p2_O n K R M) (hF : gm_Fx O (245 + 4 * g1) (bs_K la K) (bs_R z g1) (bs_M la M)) (hk1 : 1 ≤ k1 ∧ k1 ≤ 245) (hK1 : (K k1).1 = ci + 4) (h : gm_at mi pc = some (.invokevirtual ix)) (hc : gm_cal (gm_ow mi) ix = some (0, mj)) (hmx : gm_ow mj ≠ gm_mxi) (hci : ci < 12) (hcn : gm_cn ci = (gm_mn mj).cls) (hna : xs.length = gm_na mj) (hlen : xs.length + 1 ≤ gm_ml mj) (hst : (st.map gm_cat).sum ≤ 8) (hS : ck_Ok O X LX mj S) (hck : bc_ok O z g1 S = true) (h1 : S.1.1 + 1 ≤ d) (h2 : S.1.2.1 ≤ bc) (h3 : S.1.2.2 ≤ bs) (hvs : ∀ σ, ck_gas σ S.2.2.1 (gm_vr k1 :: xs.map gm_vi)) (k : bc_KX X LX d (bc - S.1.2.1) (bs - S.1.2.2) mi (pc + 3) L st Q O z g1 g la K M S) : gm_Wp X LX d bc bs mi pc L ((xs.map gm_vi).reverse ++ gm_vr k1 :: st) (245 + 4 * g) K R M Q := by
  have er : bg_rho (la 3) k1 = k1 := by unfold bg_rho; rw [if_pos (by omega)]
  have := gm_c_virtS (k1 := k1) (as := xs.map gm_vi) (d' := S.1.1) (bc' := S.1.2.1) (bs' := S.1.2.2) (fun ti α => bg_sbw hb hz ti α) (fun i j a b c d e => bc_hin hz i j a b c d e) (bs_Rv hz) ⟨hk1.1, by omega⟩ (show (bs_K la K k1).1 = ci + 4 by unfold bs_K; rw [er]; exact hK1) h hc hmx hci hcn (by rw [List.length_map]; exact hna) (fun v hv => by obtain ⟨x, -, rfl⟩ := List.mem_map.mp hv; exact ⟨x, rfl⟩) (by rw [List.length_map]; exact hlen) hst h1 h2 h3 (bc_ownX hb hz hg hnm hO hF hS hck (Nat.le_refl _) (Nat.le_refl _) (Nat.le_refl _) hvs k)
  rw [er] at this
  exact this
theorem bc_arX (xs : List Int) {t n1 : Nat} (hn : 245 ≤ n1) : gm_ar (bg_rho t) n1 (gm_vr 1 :: bc_as xs true) (gm_vr 1 :: bc_as xs true) := by
  refine ⟨_, _, rfl, Or.inr ⟨1, ⟨by decide, by omega⟩, rfl, by rfl⟩, ?_⟩
  induction xs with
  | nil => exact ⟨_, _, rfl, Or.inr ⟨245, ⟨by decide, by omega⟩, rfl, by rfl⟩, rfl⟩
  | cons x xs ih => exact ⟨_, _, rfl, Or.inl ⟨x, rfl, rfl⟩, ih⟩
/-- a call by one of the law's own methods -/
theorem bc_statX {ix mj mi pc d bc bs : Nat} {xs : List Int} (hb : bg g la K R M) (hz : bs_ok la z g1) (hg : g < 10000) (hnm : ck_nmu O) (hO : ∀ n K R M, gm_Fx O n K R M → gm_Fx p2_O n K R M) (hF : gm_Fx O (245 + 4 * g1) (bs_K la K) (bs_R z g1) (bs_M la M)) (h : gm_at mi pc = some (.invokestatic ix)) (hc : gm_cal (gm_ow mi) ix = some (5, mj)) (hmx : gm_ow mj ≠ gm_mxi) (hhj : ¬ gm_hh mj = []) (hna : xs.length + 2 = gm_na mj) (hlen : xs.length + 2 ≤ gm_ml mj) (hst : (st.map gm_cat).sum ≤ 8) (hS : ck_Ok O X LX mj S) (hck : bc_ok O z g1 S = true) (h1 : S.1.1 + 1 ≤ d) (h2 : S.1.2.1 ≤ bc) (h3 : S.1.2.2 ≤ bs) (hvs : ∀ σ, ck_gas σ S.2.2.1 (gm_vr 1 :: bc_as xs true)) (k : bc_KX X LX d (bc - S.1.2.1) (bs - S.1.2.2) mi (pc + 3) L st Q O z g1 g la K M S) : gm_Wp X LX d bc bs mi pc L (gm_vr 245 :: ((xs.map gm_vi).reverse ++ gm_vr 1 :: st)) (245 + 4 * g) K R M Q := by
  have hl : (gm_vr 1 :: bc_as xs true).length = xs.length + 2 := by simp [bc_as]
  have := gm_c_statS (as1 := gm_vr 1 :: bc_as xs true) (as := gm_vr 1 :: bc_as xs true) (d' := S.1.1) (bc' := S.1.2.1) (bs' := S.1.2.2) (st := st) (fun ti α => bg_sbw hb hz ti α) (fun i j a b c d e => bc_hin hz i j a b c d e) (bs_Rv hz) (bc_arX xs (by omega)) h hc hmx hhj (by rw [hl]; exact hna) (by rw [hl]; exact hlen) hst h1 h2 h3 (bc_ownX hb hz hg hnm hO hF hS hck (Nat.le_refl _) (Nat.le_refl _) (Nat.le_refl _) hvs k)
  rw [show (gm_vr 1 :: bc_as xs true).reverse ++ st = gm_vr 245 :: ((xs.map gm_vi).reverse ++ gm_vr 1 :: st) by simp [bc_as]] at this
  exact this
/-- a call by its row and by a judgement of its own: the end by the judgement, the numbers of the old cells by the row -/
noncomputable def bc_KM (X : Int → Int) (LX d bc bs mi pc : Nat) (L : gm_L) (st : List gm_V) (Q : gm_Q) (O : gm_Or) (z g1 g : Nat) (la : Nat → Nat) (K : gm_K) (R : gm_R) (M : gm_M) (S : ck_Sum) (Qf : gm_Q) : Prop := ∀ (o : gm_O) (n1 : Nat) (K1 : gm_K) (R1 : gm_R) (M1 : gm_M) (σ : Nat → Int) (o2 : gm_O) (n2 : Nat) (K2 : gm_K) (R2 : gm_R) (M2 : gm_M), Qf o n1 K1 R1 M1 → ck_Q O σ S.2.2.2.2.1 (245 + 4 * g1) (bs_K la K) (bs_R z g1) (bs_M la M) S.2.2.2.2.2 o2 n2 K2 R2 M2 → dt_o o o2 → dt_m (245 + 4 * g1) K1 M1 K2 M2 → (∀ k, 1 ≤ k → k ≤ 245 + 4 * g1 → K1 k = K2 k) ∧ gm_owe X LX d bc bs mi pc L st (bg_rho (la 3)) (bg_f la) (245 + 4 * g1) (245 + 4 * g) K R M Q o n1 K1 R1 (mxM (245 + 4 * g1) M2 M1)
theorem bc_ownM {d bc bs mi pc mj d' bc' bs' : Nat} {vs : List gm_V} (hnm : ck_nmu O) (hF : gm_Fx O (245 + 4 * g1) (bs_K la K) (bs_R z g1) (bs_M la M)) (hS : ck_Ok O X LX mj S) (hn : S.2.1 = 245 + 4 * g1) (hf0 : bc_f O z S.2.2.2.1 = true) (h1 : S.1.1 ≤ d') (h2 : S.1.2.1 ≤ bc') (h3 : S.1.2.2 ≤ bs') (hvs : ∀ σ, ck_gas σ S.2.2.1 vs) (hf : gm_Wp X LX d' bc' bs' mj 0 (gm_ent mj vs) [] (245 + 4 * g1) (bs_K la K) (bs_R z g1) (bs_M la M) Qf) (k : bc_KM X LX d bc bs mi pc L st Q O z g1 g la K R M S Qf) : gm_Wp X LX d' bc' bs' mj 0 (gm_ent mj vs) [] (245 + 4 * g1) (bs_K la K) (bs_R z g1) (bs_M la M) (gm_owe X LX d bc bs mi pc L st (bg_rho (la 3)) (bg_f la) (245 + 4 * g1) (245 + 4 * g) K R M Q) := by
  have hσ := ck_sn_s (σ := fun _ => 0) (M := bs_M la M) hnm
  have hrow := gm_Wp_wk (Nat.le_refl _) h2 h3 (hS d' (ck_sn O (fun _ => 0) (bs_M la M)) vs _ _ _ _ h1 hn.symm (hvs _) hσ hF (bc_f_s hf0 hF (by omega) hσ))
  refine gm_Wp_mx hf hrow (fun o n1 K1 R1 M1 o2 n2 K2 R2 M2 q1 q2 ho hm => ?_)
  exact k o n1 K1 R1 M1 _ o2 n2 K2 R2 M2 q1 q2 ho hm
theorem bc_virtM {ix mj k1 ci mi pc d bc bs d' bc' bs' : Nat} {xs : List Int} (hb : bg g la K R M) (hz : bs_ok la z g1) (hnm : ck_nmu O) (hF : gm_Fx O (245 + 4 * g1) (bs_K la K) (bs_R z g1) (bs_M la M)) (hk1 : 1 ≤ k1 ∧ k1 ≤ 245) (hK1 : (K k1).1 = ci + 4) (h : gm_at mi pc = some (.invokevirtual ix)) (hc : gm_cal (gm_ow mi) ix = some (0, mj)) (hmx : gm_ow mj ≠ gm_mxi) (hci : ci < 12) (hcn : gm_cn ci = (gm_mn mj).cls) (hna : xs.length = gm_na mj) (hlen : xs.length + 1 ≤ gm_ml mj) (hst : (st.map gm_cat).sum ≤ 8) (hS : ck_Ok O X LX mj S) (hn : S.2.1 = 245 + 4 * g1) (hf0 : bc_f O z S.2.2.2.1 = true) (h1 : S.1.1 ≤ d') (h2 : S.1.2.1 ≤ bc') (h3 : S.1.2.2 ≤ bs') (hd : d' + 1 ≤ d) (hb1 : bc' ≤ bc) (hb2 : bs' ≤ bs) (hvs : ∀ σ, ck_gas σ S.2.2.1 (gm_vr k1 :: xs.map gm_vi)) (hf : gm_Wp X LX d' bc' bs' mj 0 (gm_ent mj (gm_vr k1 :: xs.map gm_vi)) [] (245 + 4 * g1) (bs_K la K) (bs_R z g1) (bs_M la M) Qf) (k : bc_KM X LX d (bc - bc') (bs - bs') mi (pc + 3) L st Q O z g1 g la K R M S Qf) : gm_Wp X LX d bc bs mi pc L ((xs.map gm_vi).reverse ++ gm_vr k1 :: st) (245 + 4 * g) K R M Q := by
  have er : bg_rho (la 3) k1 = k1 := by unfold bg_rho; rw [if_pos (by omega)]
  have := gm_c_virtS (k1 := k1) (as := xs.map gm_vi) (d' := d') (bc' := bc') (bs' := bs') (fun ti α => bg_sbw hb hz ti α) (fun i j a b c d e => bc_hin hz i j a b c d e) (bs_Rv hz) ⟨hk1.1, by omega⟩ (show (bs_K la K k1).1 = ci + 4 by unfold bs_K; rw [er]; exact hK1) h hc hmx hci hcn (by rw [List.length_map]; exact hna) (fun v hv => by obtain ⟨x, -, rfl⟩ := List.mem_map.mp hv; exact ⟨x, rfl⟩) (by rw [List.length_map]; exact hlen) hst hd hb1 hb2 (bc_ownM hnm hF hS hn hf0 h1 h2 h3 hvs hf k)
  rw [er] at this
  exact this
theorem bc_statM {ix mj mi pc d bc bs d' bc' bs' : Nat} {xs : List Int} (hb : bg g la K R M) (hz : bs_ok la z g1) (hnm : ck_nmu O) (hF : gm_Fx O (245 + 4 * g1) (bs_K la K) (bs_R z g1) (bs_M la M)) (h : gm_at mi pc = some (.invokestatic ix)) (hc : gm_cal (gm_ow mi) ix = some (5, mj)) (hmx : gm_ow mj ≠ gm_mxi) (hhj : ¬ gm_hh mj = []) (hna : xs.length + 2 = gm_na mj) (hlen : xs.length + 2 ≤ gm_ml mj) (hst : (st.map gm_cat).sum ≤ 8) (hS : ck_Ok O X LX mj S) (hn : S.2.1 = 245 + 4 * g1) (hf0 : bc_f O z S.2.2.2.1 = true) (h1 : S.1.1 ≤ d') (h2 : S.1.2.1 ≤ bc') (h3 : S.1.2.2 ≤ bs') (hd : d' + 1 ≤ d) (hb1 : bc' ≤ bc) (hb2 : bs' ≤ bs) (hvs : ∀ σ, ck_gas σ S.2.2.1 (gm_vr 1 :: bc_as xs true)) (hf : gm_Wp X LX d' bc' bs' mj 0 (gm_ent mj (gm_vr 1 :: bc_as xs true)) [] (245 + 4 * g1) (bs_K la K) (bs_R z g1) (bs_M la M) Qf) (k : bc_KM X LX d (bc - bc') (bs - bs') mi (pc + 3) L st Q O z g1 g la K R M S Qf) : gm_Wp X LX d bc bs mi pc L (gm_vr 245 :: ((xs.map gm_vi).reverse ++ gm_vr 1 :: st)) (245 + 4 * g) K R M Q := by
  have hl : (gm_vr 1 :: bc_as xs true).length = xs.length + 2 := by simp [bc_as]
  have := gm_c_statS (as1 := gm_vr 1 :: bc_as xs true) (as := gm_vr 1 :: bc_as xs true) (d' := d') (bc' := bc') (bs' := bs') (st := st) (fun ti α => bg_sbw hb hz ti α) (fun i j a b c d e => bc_hin hz i j a b c d e) (bs_Rv hz) (bc_arX xs (by omega)) h hc hmx hhj (by rw [hl]; exact hna) (by rw [hl]; exact hlen) hst hd hb1 hb2 (bc_ownM hnm hF hS hn hf0 h1 h2 h3 hvs hf k)
  rw [show (gm_vr 1 :: bc_as xs true).reverse ++ st = gm_vr 245 :: ((xs.map gm_vi).reverse ++ gm_vr 1 :: st) by simp [bc_as]] at this
  exact this
/-- which law a State holds by what a call sees -/
theorem bg_dcs {s : Nat} (hz : bs_ok la z g1) (hs : s ∈ bg_ss) : bg_dc la g 0 (bs_R z g1 s 8) = la s := by
  rw [bc_lf hs]
  unfold bg_dc
  by_cases e : s = 3
  · subst e
    rw [if_pos rfl]
    rcases hz with ⟨rfl, -, h0⟩ | ⟨rfl, -⟩ | ⟨rfl, -, h0⟩
    · rw [if_pos rfl, h0]
    · rw [if_neg (by decide), if_neg (by decide)]
    · rw [if_neg (by decide), if_pos rfl, if_neg (by decide)]
  · rw [if_neg e, if_neg (by omega), if_neg (by omega), show 100000 + s - 100000 = s by omega]
/-- references as a call leaves them -/
noncomputable def rvR (z g1 : Nat) (R' : gm_R) : Prop := (∀ k j, ¬ (k ∈ bg_ss ∧ j = 8) → R' k j = bs_R z g1 k j) ∧ ∀ s ∈ bg_ss, R' s 8 = 0 ∨ (R' s 8 = 246 ∧ g1 = 1) ∨ ∃ s' ∈ bg_ss, R' s 8 = 100000 + s'
theorem rvR_0 (hz : bs_ok la z g1) : rvR z g1 (bs_R z g1) := by
  refine ⟨fun _ _ _ => rfl, fun s hs => ?_⟩
  rw [bc_lf hs]
  by_cases e3 : s = 3
  · rw [if_pos e3]
    rcases hz with h | h | h
    · exact Or.inl h.1
    · exact Or.inr (Or.inr ⟨3, by decide, h.1⟩)
    · exact Or.inr (Or.inl ⟨h.1, h.2.1⟩)
  · rw [if_neg e3]
    exact Or.inr (Or.inr ⟨s, hs, rfl⟩)
theorem rvR_u {s s' : Nat} (h : rvR z g1 R') (hs : s ∈ bg_ss) (hs' : s' ∈ bg_ss) : rvR z g1 (gm_uR R' s 8 (R' s' 8)) := by
  refine ⟨fun k j hk => ?_, fun t ht => ?_⟩
  · unfold gm_uR
    rw [if_neg (fun e => hk ⟨by rw [e.1]; exact hs, e.2⟩)]
    exact h.1 k j hk
  · unfold gm_uR
    by_cases e : t = s ∧ (8 : Int) = 8
    · rw [if_pos e]
      exact h.2 s' hs'
    · rw [if_neg e]
      exact h.2 t ht
/-- the world that a call hands back, without a new law -/
theorem rt_of {n2 : Nat} {Ka K2 : gm_K} {R2 : gm_R} {Ma M2 : gm_M} {W : List (Nat × Int × Int) × List (Nat × Int)} (hg1 : g1 ≤ 1) (hr : rvR z g1 R') (hF : gm_Fx p2_O n2 K2 R2 M2) (hfr : ck_fr W (245 + 4 * g1) K1 (bs_R z g1) M1 n2 K2 R2 M2) (hW : W.1.all (fun w => decide (w.1 ≤ 245)) = true) (hk : ∀ k, k ≤ 245 + 4 * g1 → Ka k = K1 k) : bs_rt z g1 0 K1 M1 (245 + 4 * g1) Ka R' (mxM (245 + 4 * g1) M2 Ma) := by
  have eK : ∀ k, k ≤ 245 → Ka k = K2 k := fun k h => (hk k (by omega)).trans (hfr.2.1 k (by omega)).symm
  have eM : ∀ k, k ≤ 245 → mxM (245 + 4 * g1) M2 Ma k = M2 k := fun k h => funext fun j => mxM_o (by omega)
  refine ⟨⟨Or.inl rfl, rfl⟩, ⟨fun k q hq => ?_, fun k j r hq => ?_, fun k r hq => ?_, fun k r hq => ?_, ?_⟩, hk, fun k j k1 k2 => ?_, fun k j _ hj => hr.1 k j hj, fun s hs => (hr.2 s hs).imp_right (Or.imp_left fun e => ⟨e.1, Or.inl e.2⟩), fun h => absurd h (by decide)⟩
  · obtain ⟨a1, a2, a3⟩ := hF.1 k q hq
    have := bg_O1 hq
    exact ⟨a1, by omega, (eK k (by omega)).trans a3⟩
  · obtain ⟨-, a2, a3⟩ := bg_rfo hq
    refine ⟨by omega, (hr.1 k j a3).trans ?_⟩
    unfold bs_R
    rw [hq]
  · obtain ⟨a1, a2⟩ := hF.2.2.1 k r hq
    have := bg_tyk hq
    refine ⟨by omega, fun j j1 j2 => ?_⟩
    rw [eM k (by omega)]
    exact a2 j j1 j2
  · have := jfp_b hq
    by_cases hk9 : k ≤ 245
    · omega
    · have hq : r ∈ j_fp k := hq
      rw [show j_fp k = [] by unfold j_fp; rw [if_neg (by omega), if_neg (by omega), if_neg (by omega), if_neg (by omega)]] at hq
      cases hq
  · have hJ : jP p2_ty (M2 227) (M2 228) (M2 229) (M2 230) := hF.2.2.2.2
    show jP p2_ty (mxM (245 + 4 * g1) M2 Ma 227) (mxM (245 + 4 * g1) M2 Ma 228) (mxM (245 + 4 * g1) M2 Ma 229) (mxM (245 + 4 * g1) M2 Ma 230)
    rw [eM 227 (by decide), eM 228 (by decide), eM 229 (by decide), eM 230 (by decide)]
    exact hJ
  · rw [mxM_o k2]
    refine hfr.2.2.1 k j k2 fun w hw hh => ?_
    have := of_decide_eq_true (List.all_eq_true.mp hW w hw)
    omega
end WX
end
/-! 7c02.ab -/
section
/-! THE ABSTRACT VALLEY: FLOW, OPEN, ends as functions of what is told, the same for class and reference. -/
/-- numbers are ints -/
noncomputable def irN (N : Int → Int) : Prop := ∀ i, gm_ir (N i)
noncomputable def GJ (N : Int → Int) : Prop := GI N ∧ irN N
/-- the lines of a law, laid as the reference lays them -/
noncomputable def gcl (ls : List lln) : Int → Int := fun j => match ls[((j - 396) / 4).toNat]? with
  | none => 0
  | some x => if (j - 396) % 4 = 0 then x.1 else if x.1 = 2 then 1 else x.2.1
theorem gcl_0 {ls : List lln} {k : Nat} {x : lln} (hx : ls[k]? = some x) : gcl ls (396 + 4 * (k : Int)) = x.1 := by
  unfold gcl
  rw [show ((396 + 4 * (k : Int) - 396) / 4).toNat = k by omega, hx]
  show (if (396 + 4 * (k : Int) - 396) % 4 = 0 then x.1 else _) = x.1
  rw [if_pos (by omega)]
theorem gcl_1 {ls : List lln} {k : Nat} {x : lln} (hx : ls[k]? = some x) : gcl ls (396 + 4 * (k : Int) + 1) = if x.1 = 2 then 1 else x.2.1 := by
  unfold gcl
  rw [show ((396 + 4 * (k : Int) + 1 - 396) / 4).toNat = k by omega, hx]
  show (if (396 + 4 * (k : Int) + 1 - 396) % 4 = 0 then x.1 else _) = _
  rw [if_neg (by omega)]
theorem rsum_gcl {ls : List lln} {G F : Int → Int} {kd : Int} (hR : LR ls G) : ∀ k : Nat, k ≤ ls.length → rsum (HH ls) F G kd k = rsum (HH ls) F (gcl ls) kd k := by
  intro k
  induction k with
  | zero => intro _; rfl
  | succ k ih =>
    intro hk
    obtain ⟨x, hx⟩ := lq_at (ls := ls) (k := k) (by omega)
    obtain ⟨a0, a1, -⟩ := hR k x hx
    show rsum (HH ls) F G kd k + @ite Int (G (396 + 4 * (k : Int)) = kd ∧ HH ls F (k : Int)) (Classical.propDecidable _) (G (396 + 4 * (k : Int) + 1)) 0 = rsum (HH ls) F (gcl ls) kd k + @ite Int (gcl ls (396 + 4 * (k : Int)) = kd ∧ HH ls F (k : Int)) (Classical.propDecidable _) (gcl ls (396 + 4 * (k : Int) + 1)) 0
    rw [ih (by omega), a0, a1, gcl_0 hx, gcl_1 hx]
theorem rphi_gcl {ls : List lln} {G N h : Int → Int} {l r y : Int} (hR : LR ls G) : rphi N h (HH ls) G (ls.length : Int) l r y = rphi N h (HH ls) (gcl ls) (ls.length : Int) l r y := by
  have e : ((ls.length : Int)).toNat = ls.length := by omega
  unfold rphi
  rw [e, rsum_gcl hR _ (Nat.le_refl _), rsum_gcl hR _ (Nat.le_refl _)]
/-- FLOW -/
noncomputable def aphi (lw : Option (List lln)) (N h : Int → Int) (l r y : Int) : Int := if 0 ≤ l ∧ l < 6 then (match lw with
  | none => rphi0 N l r y
  | some ls => rphi N h (HH ls) (gcl ls) (ls.length : Int) l r y) else 0
/-- FLOW as the class reckons it, beyond the valley's LANES and ROWS too -/
noncomputable def aphx (lw : Option (List lln)) (N h : Int → Int) (l r y : Int) : Int := if 0 ≤ l then (match lw with
  | none => 0
  | some ls => max 0 (min 30 ((spd N l r + rsum (HH ls) (fcts N h l r y (spd N l r) 0 0 0) (gcl ls) 0 ls.length) - rsum (HH ls) (fcts N h l r y (spd N l r) 0 0 0) (gcl ls) 1 ls.length))) else 0
theorem aphx_s {ls : List lln} {N h : Int → Int} {l r y : Int} (hl : 0 ≤ l) : aphx (some ls) N h l r y = max 0 (min 30 ((spd N l r + rsum (HH ls) (fcts N h l r y (spd N l r) 0 0 0) (gcl ls) 0 ls.length) - rsum (HH ls) (fcts N h l r y (spd N l r) 0 0 0) (gcl ls) 1 ls.length)) := by
  unfold aphx
  rw [if_pos hl]
/-- OPEN -/
noncomputable def apsi (lw : Option (List lln)) (N h : Int → Int) (p lane age deep : Int) : Prop := ∃ ls, lw = some ls ∧ rpsi N h (HH ls) (gcl ls) (ls.length : Int) p lane age deep
theorem aphi_n {N h : Int → Int} {l r y : Int} (hl : 0 ≤ l ∧ l < 6) : aphi none N h l r y = rphi0 N l r y := by
  unfold aphi
  rw [if_pos hl]
theorem aphi_s {ls : List lln} {N h : Int → Int} {l r y : Int} (hl : 0 ≤ l ∧ l < 6) : aphi (some ls) N h l r y = rphi N h (HH ls) (gcl ls) (ls.length : Int) l r y := by
  unfold aphi
  rw [if_pos hl]
theorem aphi_b {lw : Option (List lln)} {N h : Int → Int} (l r y : Int) : 0 ≤ aphi lw N h l r y ∧ aphi lw N h l r y ≤ 30 := by
  by_cases hl : 0 ≤ l ∧ l < 6
  · cases lw with
    | none =>
      rw [aphi_n hl]
      unfold rphi0
      omega
    | some ls =>
      rw [aphi_s hl]
      unfold rphi
      omega
  · unfold aphi
    rw [if_neg hl]
    decide
/-- the same valley -/
noncomputable def hgeo (N N2 : Int → Int) : Prop := ∀ i, 0 ≤ i → i < 95 → ¬ (i = 4 ∨ i = 9 ∨ i = 14) → N2 i = N i
theorem hgeo_r {N : Int → Int} : hgeo N N := fun _ _ _ _ => rfl
theorem hgeo_t {N N2 N3 : Int → Int} (a : hgeo N N2) (b : hgeo N2 N3) : hgeo N N3 := fun i h0 h1 h2 => (b i h0 h1 h2).trans (a i h0 h1 h2)
theorem hgeo_s {N N2 : Int → Int} (a : hgeo N N2) : hgeo N2 N := fun i h0 h1 h2 => (a i h0 h1 h2).symm
theorem hgeo_g {N N2 : Int → Int} (a : geo N N2) : hgeo N N2 := fun i h0 h1 h2 => a.1 i h0 h1 (fun e => h2 (Or.inr (Or.inl e))) (fun e => h2 (Or.inr (Or.inr e)))
theorem hg_rsp {N N2 : Int → Int} (a : hgeo N N2) {l r : Int} (hl : 0 ≤ l ∧ l < 6) : ∀ t : Nat, t ≤ 8 → rsp N2 l r t = rsp N l r t := by
  intro t
  induction t with
  | zero => intro _; rfl
  | succ t ih =>
    intro ht
    show (if N2 (15 + 7 * (t : Int)) ≤ r then N2 (15 + 7 * (t : Int) + 1 + l) else rsp N2 l r t) = (if N (15 + 7 * (t : Int)) ≤ r then N (15 + 7 * (t : Int) + 1 + l) else rsp N l r t)
    rw [ih (by omega), a (15 + 7 * (t : Int)) (by omega) (by omega) (by omega), a (15 + 7 * (t : Int) + 1 + l) (by omega) (by omega) (by omega)]
theorem hg_nsp {N N2 : Int → Int} (a : hgeo N N2) (h2 : 0 ≤ N 2 ∧ N 2 ≤ 8) {l r : Int} (hl : 0 ≤ l ∧ l < 6) : nsp N2 l r = nsp N l r := by
  unfold nsp
  rw [a 2 (by decide) (by decide) (by decide)]
  exact hg_rsp a hl _ (by omega)
theorem hg_fcts {N N2 h : Int → Int} (a : hgeo N N2) {l r y s p ag dp : Int} : fcts N2 h l r y s p ag dp = fcts N h l r y s p ag dp := by
  unfold fcts
  rw [a 0 (by decide) (by decide) (by decide), a 12 (by decide) (by decide) (by decide)]
theorem hg_hts {N N2 : Int → Int} (a : hgeo N N2) : hts (N2 13) = hts (N 13) := by rw [a 13 (by decide) (by decide) (by decide)]
theorem hg_aphi {N N2 h : Int → Int} {lw : Option (List lln)} (a : hgeo N N2) (h2 : 0 ≤ N 2 ∧ N 2 ≤ 8) : aphi lw N2 h = aphi lw N h := by
  funext l r y
  by_cases hl : 0 ≤ l ∧ l < 6
  · cases lw with
    | none =>
      rw [aphi_n hl, aphi_n hl]
      unfold rphi0
      rw [hg_nsp a h2 hl]
    | some ls =>
      rw [aphi_s hl, aphi_s hl]
      unfold rphi
      rw [hg_nsp a h2 hl, hg_fcts a]
  · unfold aphi
    rw [if_neg hl, if_neg hl]
theorem hg_fbit {N N2 : Int → Int} (a : hgeo N N2) {y b : Int} (h : fbit N y b) : fbit N2 y b := by
  intro f hf
  rw [h f hf, a 5 (by decide) (by decide) (by decide), a (71 + ((f : Int) * 3 + 0)) (by omega) (by omega) (by omega)]
theorem hg_spd {N N2 : Int → Int} (a : hgeo N N2) (hN : NR N) {l r : Int} (h0 : 0 ≤ l) : spd N2 l r = spd N l r := by
  have n2 := hN.2.1.1
  have n0 := hN.1.1
  unfold spd
  rw [a 0 (by decide) (by decide) (by decide), a 1 (by decide) (by decide) (by decide)]
  by_cases h : l < N 0 ∧ r < N 1
  · rw [if_pos h, if_pos h, hg_nsp a n2 ⟨h0, by omega⟩]
  · rw [if_neg h, if_neg h]
theorem hg_kfl {N N2 : Int → Int} {φ : Int → Int → Int → Int} {M : gm_M} (a : hgeo N N2) (h : KFL N φ M) : KFL N2 φ M := h
theorem hg_kfr {N N2 : Int → Int} {φ : Int → Int → Int → Int} {M : gm_M} (a : hgeo N N2) (h : KFR N φ M) : KFR N2 φ M := h
theorem hg_aphx {N N2 h : Int → Int} {lw : Option (List lln)} (a : hgeo N N2) (hN : NR N) : aphx lw N2 h = aphx lw N h := by
  funext l r y
  by_cases hl : 0 ≤ l
  · cases lw with
    | none => rfl
    | some ls => rw [aphx_s hl, aphx_s hl, hg_spd a hN hl, hg_fcts a]
  · unfold aphx
    rw [if_neg hl, if_neg hl]
/-- what is told, by other numbers of letters or watches: heats, speeds, floods stay -/
theorem hg_ti {N N2 : Int → Int} {M M2 : gm_M} (hN : NR N) (a : hgeo N N2) (hT : TI N (hts (N 13)) (spd N) M) (hC : CST M2) (hc : cs M2 3 = N2) (e : ∀ (k : Nat) (j : Int), 201 ≤ k → k ≤ 203 → M2 k j = M k j) : TI N2 (hts (N2 13)) (spd N2) M2 := by
  refine ⟨hC, hc, fun y y0 y1 => ?_, fun l r l0 l1 r0 r1 => ?_⟩
  · obtain ⟨b1, b2, b3, b4⟩ := hT.2.2.1 y y0 y1
    rw [hg_hts a, e 201 y (by decide) (by decide), e 203 y (by decide) (by decide)]
    exact ⟨b1, b2, b3, hg_fbit a b4⟩
  · rw [e 202 _ (by decide) (by decide), hg_spd a hN l0]
    exact hT.2.2.2 l r l0 l1 r0 r1
/-- ways and ends by another FLOW that is the same -/
theorem outr_g {N N2 h : Int → Int} {lw : Option (List lln)} {l o d : Int} (a : geo N N2) (hN : NR N) (hl : 0 ≤ l ∧ l < 24) (ho : OUTR N h (aphi lw N h) l o d) : OUTR N2 h (aphi lw N2 h) l o d := by
  rw [hg_aphi (hgeo_g a) hN.2.1.1]
  exact OUTR_geo a hN.2.1.2.1 hl ho
theorem ends_g {N N2 h : Int → Int} {lw : Option (List lln)} {M M2 : gm_M} (a : geo N N2) (hN : NR N) (h4 : N2 4 = N 4) (he : ENDS N h (aphi lw N h) M) (e : ∀ (k : Nat) (j : Int), k = 220 ∨ k = 221 → M2 k j = M k j) : ENDS N2 h (aphi lw N2 h) M2 := by
  refine ⟨by rw [e 220 3 (Or.inl rfl), h4]; exact he.1, fun l l0 l1 => ?_⟩
  rw [e 221 _ (Or.inr rfl), e 221 _ (Or.inr rfl)]
  exact outr_g a hN ⟨l0, by have := hN.2.1.2.2.2.1; omega⟩ (he.2 l l0 (by rw [h4] at l1; exact l1))
/-- a first one -/
theorem nat_first {P : Nat → Prop} : ∀ n : Nat, (∀ j, j < n → ¬ P j) ∨ ∃ j, j < n ∧ P j ∧ ∀ i, i < j → ¬ P i := by
  intro n
  induction n with
  | zero => exact Or.inl fun j h => absurd h (Nat.not_lt_zero _)
  | succ n ih =>
    rcases ih with h | ⟨j, h1, h2, h3⟩
    · by_cases hp : P n
      · exact Or.inr ⟨n, Nat.lt_succ_self _, hp, h⟩
      · refine Or.inl fun j hj => ?_
        by_cases e : j = n
        · rw [e]; exact hp
        · exact h j (by omega)
    · exact Or.inr ⟨j, by omega, h2, h3⟩
/-- how each ends -/
theorem outr_ex {N h : Int → Int} {φ : Int → Int → Int → Int} (l : Int) : ∃ q : Int × Int, OUTR N h φ l q.1 q.2 := by
  rcases nat_first (P := fun j => N 1 ≤ (nwy N h φ ((N (119 + (l * 7 + 2)))) (if (N (119 + (l * 7 + 0))) = -1 then 1 else 0) (-1) ((N (119 + (l * 7 + 3)))) ((N (119 + (l * 7 + 4)))) j).1) (300 - (N (119 + (l * 7 + 3)))).toNat with h1 | ⟨j, h1, h2, h3⟩
  · exact ⟨(-1, 0), Or.inl ⟨rfl, fun j hj => by have := h1 j (by omega); omega⟩⟩
  · exact ⟨((N (119 + (l * 7 + 3))) + (j : Int), _), Or.inr ⟨j, by omega, rfl, h2, fun i hi => by have := h3 i hi; omega, rfl⟩⟩
noncomputable def aout (N h : Int → Int) (φ : Int → Int → Int → Int) (l : Int) : Int := (Classical.choose (outr_ex (N := N) (h := h) (φ := φ) l)).1
noncomputable def adp (N h : Int → Int) (φ : Int → Int → Int → Int) (l : Int) : Int := (Classical.choose (outr_ex (N := N) (h := h) (φ := φ) l)).2
theorem aout_s {N h : Int → Int} {φ : Int → Int → Int → Int} (l : Int) : OUTR N h φ l (aout N h φ l) (adp N h φ l) := Classical.choose_spec (outr_ex (N := N) (h := h) (φ := φ) l)
end
/-! 7c03.fi -/
section
/-! FLOW AND OPEN of class and reference, by the abstract ones. -/
section FI3
variable {X : Int → Int} {LX n : Nat} {K : gm_K} {R : gm_R} {N N2 h : Int → Int} {sp : Int → Int → Int} {FI FI2 : gm_M → Prop} {φ φ2 : Int → Int → Int → Int} {ψ ψ2 : Int → Int → Int → Int → Prop} {lw : Option (List lln)} {M : gm_M} {NC : Nat} {C Ln G : Int → Int}
theorem flw_cg (hf : FLW X LX n K R N h sp FI φ) (hb : ∀ l r y, 0 ≤ φ2 l r y ∧ φ2 l r y ≤ 30) (he : ∀ l r y, 0 ≤ l ∧ l < N 0 → 0 ≤ r ∧ r < N 1 → 0 ≤ y ∧ y < 300 → φ2 l r y = φ l r y) (hI : ∀ M, FI2 M ↔ FI M) : FLW X LX n K R N h sp FI2 φ2 := by
  obtain ⟨-, h2, h3⟩ := hf
  refine ⟨hb, fun W M M2 hw hf hI2 => (hI M2).mpr (h2 W M M2 hw hf ((hI M).mp hI2)), fun d bc bs M Q lane row year hd hl hr hy hT hI2 hq => h3 d bc bs M Q lane row year hd hl hr hy hT ((hI M).mp hI2) (fun M2 hf hI3 => ?_)⟩
  rw [← he lane row year hl hr hy]
  exact hq M2 hf ((hI M2).mpr hI3)
theorem flr_cg (hf : FLR X LX n K R N h FI φ) (hb : ∀ l r y, 0 ≤ φ2 l r y ∧ φ2 l r y ≤ 30) (he : ∀ l r y, 0 ≤ l ∧ l < N 0 → 0 ≤ r ∧ r < N 1 → 0 ≤ y ∧ y < 300 → φ2 l r y = φ l r y) (hI : ∀ M, FI2 M ↔ FI M) : FLR X LX n K R N h FI2 φ2 := by
  obtain ⟨-, h2, h3⟩ := hf
  refine ⟨hb, fun W M M2 hw hf hI2 => (hI M2).mpr (h2 W M M2 hw hf ((hI M).mp hI2)), fun d bc bs M Q lane row year hd hl hr hy hT hI2 hq => h3 d bc bs M Q lane row year hd hl hr hy hT ((hI M).mp hI2) (fun M2 hf hI3 => ?_)⟩
  rw [← he lane row year hl hr hy]
  exact hq M2 hf ((hI M2).mpr hI3)
theorem mow_cg (hf : MOW X LX n K R N h sp FI ψ) (hI : ∀ M, FI2 M → FI M) (hp : ∀ p l a d, ψ2 p l a d ↔ ψ p l a d) : MOW X LX n K R N h sp FI2 ψ2 := fun d bc bs M Q p l a dp hd hl hT hI2 q1 q0 => hf d bc bs M Q p l a dp hd hl hT (hI M hI2) (fun hh => q1 ((hp p l a dp).mpr hh)) (fun hh => q0 (fun h2 => hh ((hp p l a dp).mp h2)))
theorem mor_cg (hf : MOR X LX n K R N h FI ψ) (hI : ∀ M, FI2 M → FI M) (hp : ∀ p l a d, ψ2 p l a d ↔ ψ p l a d) : MOR X LX n K R N h FI2 ψ2 := fun d bc bs M Q p l dp hd hl hT hI2 h29 hdp q1 q0 => hf d bc bs M Q p l dp hd hl hT (hI M hI2) h29 hdp (fun hh => q1 ((hp _ _ _ _).mpr hh)) (fun hh => q0 (fun h2 => hh ((hp _ _ _ _).mp h2)))
theorem kfl_cg (he : ∀ l r y, 0 ≤ l ∧ l < 6 → 0 ≤ r ∧ r < 99 → 0 ≤ y ∧ y < 300 → φ2 l r y = φ l r y) : KFL N φ2 M ↔ KFL N φ M := by
  refine ⟨fun hk => ⟨hk.1, fun l r y l0 l1 r0 r1 y0 y1 => ?_⟩, fun hk => ⟨hk.1, fun l r y l0 l1 r0 r1 y0 y1 => ?_⟩⟩
  · rw [← he l r y ⟨l0, l1⟩ ⟨r0, r1⟩ ⟨y0, y1⟩]; exact hk.2 l r y l0 l1 r0 r1 y0 y1
  · rw [he l r y ⟨l0, l1⟩ ⟨r0, r1⟩ ⟨y0, y1⟩]; exact hk.2 l r y l0 l1 r0 r1 y0 y1
theorem kfr_cg (he : ∀ l r y, 0 ≤ l ∧ l < 6 → 0 ≤ r ∧ r < 99 → 0 ≤ y ∧ y < 300 → φ2 l r y = φ l r y) : KFR N φ2 M ↔ KFR N φ M := by
  refine ⟨fun hk => ⟨hk.1, hk.2.1, fun r y l0 l1 r0 r1 y0 y1 => ?_⟩, fun hk => ⟨hk.1, hk.2.1, fun r y l0 l1 r0 r1 y0 y1 => ?_⟩⟩
  · rw [← he _ r y ⟨l0, l1⟩ ⟨r0, r1⟩ ⟨y0, y1⟩]; exact hk.2.2 r y l0 l1 r0 r1 y0 y1
  · rw [he _ r y ⟨l0, l1⟩ ⟨r0, r1⟩ ⟨y0, y1⟩]; exact hk.2.2 r y l0 l1 r0 r1 y0 y1
/-- FLOW by the class's codes -/
theorem lphi_ax {ls : List lln} (hW : LW ls) (hC : LC ls C Ln) (hR : LR ls G) {l r y : Int} (hl : 0 ≤ l) : lphi N h (spd N) C Ln (ls.length : Int) l r y = aphx (some ls) N h l r y := by
  rw [aphx_s hl]
  unfold lphi
  rw [show ((ls.length : Int)).toNat = ls.length from Int.toNat_natCast _, lsum_x hW hC hR fb_fcts _ (Nat.le_refl _), rsum_gcl hR _ (Nat.le_refl _), rsum_gcl hR _ (Nat.le_refl _)]
  congr 2
  omega
/-- what the class's law is: no law, or one that stands at 246 -/
noncomputable def CC (n : Nat) (K : gm_K) (R : gm_R) (NC : Nat) (C Ln G : Int → Int) (lw : Option (List lln)) : Prop := (lw = none → R 3 ((8 : Nat) : Int) = 0) ∧ ∀ ls, lw = some ls → R 3 ((8 : Nat) : Int) = 246 ∧ LE n K R NC ∧ LW ls ∧ LC ls C Ln ∧ LR ls G
noncomputable def FIC (NC : Nat) (C Ln : Int → Int) (lw : Option (List lln)) (N h : Int → Int) : gm_M → Prop := fun M => ∀ ls, lw = some ls → LB NC C Ln (ls.length : Int) M ∧ KFL N (aphx lw N h) M
theorem cc_u {k v : Nat} (hc : CC n K R NC C Ln G lw) (hk : ¬ k = 3) (hk2 : k < 246) : CC n K (gm_uR R k 8 v) NC C Ln G lw := by
  have e3 : gm_uR R k 8 v 3 ((8 : Nat) : Int) = R 3 ((8 : Nat) : Int) := uR_ne (fun e => hk e.1.symm)
  refine ⟨fun e => e3.trans (hc.1 e), fun ls e => ?_⟩
  obtain ⟨a, ⟨b1, b2, b3⟩, c⟩ := hc.2 ls e
  exact ⟨e3.trans a, ⟨b1, ⟨(uR_ne (by omega)).trans b2.1, (uR_ne (by omega)).trans b2.2.1, (uR_ne (by omega)).trans b2.2.2⟩, b3⟩, c⟩
theorem flw_a (hE : E0 n K R) (hc : CC n K R NC C Ln G lw) (hN : NR N) (hS : NS N) : FLW X LX n K R N h (spd N) (FIC NC C Ln lw N h) (aphi lw N h) := by
  have hsp : ∀ l r, 0 ≤ l → l < 6 → 0 ≤ r → r < 99 → 0 ≤ spd N l r ∧ spd N l r ≤ 20 := fun l r l0 _ _ _ => spd_b hN hS l0
  have h06 := hN.1.1
  have es : ∀ l r, 0 ≤ l ∧ l < N 0 → 0 ≤ r ∧ r < N 1 → spd N l r = nsp N l r := fun l r hl hr => if_pos ⟨hl.2, hr.2⟩
  cases lw with
  | none =>
    refine flw_cg (ic_flw0 hE (hc.1 rfl) hN hsp) aphi_b (fun l r y hl hr _ => ?_) (fun M => ⟨fun _ => trivial, fun _ ls e => nomatch e⟩)
    rw [aphi_n ⟨hl.1, by omega⟩]
    exact (nphi_x (es l r hl hr)).symm
  | some ls =>
    obtain ⟨h8, hL, hW, hC, hR⟩ := hc.2 ls rfl
    have he : ∀ l r y, 0 ≤ l ∧ l < N 0 → 0 ≤ r ∧ r < N 1 → 0 ≤ y ∧ y < 300 → aphi (some ls) N h l r y = lphi N h (spd N) C Ln (ls.length : Int) l r y := fun l r y hl hr _ => by
      rw [aphi_s ⟨hl.1, by omega⟩, ← rphi_gcl hR]
      exact (lphi_x hW hC hR (es l r hl hr)).symm
    have hx : ∀ l r y, 0 ≤ l ∧ l < 6 → 0 ≤ r ∧ r < 99 → 0 ≤ y ∧ y < 300 → aphx (some ls) N h l r y = lphi N h (spd N) C Ln (ls.length : Int) l r y := fun l r y hl _ _ => (lphi_ax hW hC hR hl.1).symm
    refine flw_cg (ic_flw hE hL h8 hN hsp) aphi_b he (fun M => ⟨fun hh => ⟨(hh ls rfl).1, (kfl_cg (N := N) hx).mp (hh ls rfl).2⟩, fun hh ls2 e => ?_⟩)
    cases e
    exact ⟨hh.1, (kfl_cg (N := N) hx).mpr hh.2⟩
theorem mow_a (hE : E0 n K R) (hc : CC n K R NC C Ln G lw) (hN : NR N) (hg : geo N N2) (hN2 : NR N2) : MOW X LX n K R N2 h (spd N) (FIC NC C Ln lw N h) (apsi lw N2 h) := by
  cases lw with
  | none => exact mow_cg (ic_mow0 hE (hc.1 rfl)) (fun _ _ => trivial) (fun p l a d => ⟨(fun ⟨ls, e, _⟩ => nomatch e), fun hh => False.elim hh⟩)
  | some ls =>
    obtain ⟨h8, hL, hW, hC, hR⟩ := hc.2 ls rfl
    have hgg := hgeo_g hg
    have h06 := hN2.1.1
    have he : ∀ l r y, 0 ≤ l ∧ l < 6 → 0 ≤ r ∧ r < 99 → 0 ≤ y ∧ y < 300 → aphx (some ls) N h l r y = lphi N2 h (spd N) C Ln (ls.length : Int) l r y := fun l r y hl _ _ => by
      rw [← lphi_ax hW hC hR hl.1]
      unfold lphi
      rw [hg_fcts hgg]
    refine mow_cg (ic_mow hE hL h8 hN2) (fun M hh => ⟨(hh ls rfl).1, (kfl_cg (N := N) he).mp (hh ls rfl).2⟩) (fun p l a d => ?_)
    have hl := lopn_x (F := fcts N2 h l (N2 1) (N2 9) 0 p a d) hW hC hR fb_fcts
    rw [rsum_gcl hR _ (Nat.le_refl _)] at hl
    have e : ((ls.length : Int)).toNat = ls.length := by omega
    refine ⟨fun ⟨ls2, e2, hh⟩ => ?_, fun hh => ⟨ls, rfl, ?_⟩⟩
    · cases e2
      unfold rpsi at hh
      rw [e] at hh
      exact hl.mpr hh
    · unfold rpsi
      rw [e]
      exact hl.mp hh
/-- what the reference's law is -/
noncomputable def LAWG (lw : Option (List lln)) (G : Int → Int) : Prop := (lw = none → G 8 = 0) ∧ ∀ ls, lw = some ls → LW ls ∧ LR ls G ∧ LG G (ls.length : Int)
noncomputable def FIR (G : Int → Int) (lw : Option (List lln)) (N h : Int → Int) : gm_M → Prop := fun M => KFR N (aphi lw N h) M ∧ ∀ j, (395 ≤ j ∨ j = 8) → M 227 j = G j
theorem flr_a (hE : E0 n K R) (hG : LAWG lw G) (hg : hgeo N N2) (hN : NR N) (hN2 : NR N2) (hS2 : NSb 6 N2) : FLR X LX n K R N2 h (FIR G lw N h) (aphi lw N h) := by
  have h06 := hN2.1.1
  have e0 := hg 0 (by decide) (by decide) (by decide)
  have e1 := hg 1 (by decide) (by decide) (by decide)
  have k12 : ∀ (φ : Int → Int → Int → Int) (M : gm_M), KFR N φ M ↔ KFR N2 φ M := fun φ M => ⟨hg_kfr hg, hg_kfr (hgeo_s hg)⟩
  cases lw with
  | none =>
    have he : ∀ l r y, 0 ≤ l ∧ l < 6 → 0 ≤ r ∧ r < 99 → 0 ≤ y ∧ y < 300 → aphi none N h l r y = rphi0 N2 l r y := fun l r y hl hr _ => by
      rw [← hg_aphi (lw := none) hg hN.2.1.1, aphi_n hl]
    exact flr_cg (re_flr0 hE hN2 hS2 (hG.1 rfl)) aphi_b (fun l r y hl hr hy => he l r y ⟨hl.1, by omega⟩ ⟨hr.1, by have := hN2.1.2.1; omega⟩ hy) (fun M => and_congr ((k12 _ M).trans (kfr_cg he)) Iff.rfl)
  | some ls =>
    obtain ⟨hW, hR, hL⟩ := hG.2 ls rfl
    have he : ∀ l r y, 0 ≤ l ∧ l < 6 → 0 ≤ r ∧ r < 99 → 0 ≤ y ∧ y < 300 → aphi (some ls) N h l r y = rphi N2 h (HH ls) G (ls.length : Int) l r y := fun l r y hl hr _ => by
      rw [← hg_aphi (lw := some ls) hg hN.2.1.1, aphi_s hl, ← rphi_gcl hR]
    exact flr_cg (re_flr hE hN2 hS2 hL (hhl_x hW hR)) aphi_b (fun l r y hl hr hy => he l r y ⟨hl.1, by omega⟩ ⟨hr.1, by have := hN2.1.2.1; omega⟩ hy) (fun M => and_congr ((k12 _ M).trans (kfr_cg he)) Iff.rfl)
theorem mor_a (hE : E0 n K R) (hG : LAWG lw G) (hN2 : NR N2) : MOR X LX n K R N2 h (FIR G lw N h) (apsi lw N2 h) := by
  cases lw with
  | none => exact mor_cg (re_mor0 hE hN2 (hG.1 rfl)) (fun _ hh => hh.2) (fun p l a d => ⟨(fun ⟨ls, e, _⟩ => nomatch e), fun hh => False.elim hh⟩)
  | some ls =>
    obtain ⟨hW, hR, hL⟩ := hG.2 ls rfl
    have e : ((ls.length : Int)).toNat = ls.length := by omega
    refine mor_cg (re_mor hE hN2 hL (hhl_x hW hR)) (fun _ hh => hh.2) (fun p l a d => ⟨fun ⟨ls2, e2, hh⟩ => ?_, fun hh => ⟨ls, rfl, ?_⟩⟩)
    · cases e2
      unfold rpsi at hh ⊢
      rw [e] at hh ⊢
      rw [rsum_gcl hR _ (Nat.le_refl _)]
      exact hh
    · unfold rpsi at hh ⊢
      rw [e] at hh ⊢
      rw [rsum_gcl hR _ (Nat.le_refl _)] at hh
      exact hh
end FI3
/-- the lines of the reference's law, bounds and all -/
theorem lg_of {ls : List lln} {W : Int → Int} (hW : LW ls) (hR : LR ls W) (h8 : W 8 = 1) (h5 : W 395 = (ls.length : Int)) (hT : jT fun j => W (395 + j)) : LG W (ls.length : Int) := by
  have h12 := hW.1
  refine ⟨⟨h8, h5, by omega, by omega⟩, fun k k0 k1 => ?_⟩
  obtain ⟨u, rfl⟩ : ∃ u : Nat, k = (u : Int) := ⟨k.toNat, by omega⟩
  obtain ⟨x, hx⟩ := lq_at (ls := ls) (k := u) (by omega)
  obtain ⟨w0, w1, w2⟩ := hW.2 u x hx
  obtain ⟨r0, r1, r2, r3⟩ := hR u x hx
  have ht := (hT (u : Int) k0 (by omega) (by show (u : Int) < W (395 + 0); rw [show (395 : Int) + 0 = 395 by decide, h5]; exact k1)).1
  have ht : 0 ≤ W (395 + (3 + 4 * (u : Int))) ∧ W (395 + (3 + 4 * (u : Int))) ≤ W (395 + (4 + 4 * (u : Int))) ∧ W (395 + (4 + 4 * (u : Int))) ≤ 400 := ht
  rw [show 395 + (3 + 4 * (u : Int)) = 396 + 4 * (u : Int) + 2 by omega, show 395 + (4 + 4 * (u : Int)) = 396 + 4 * (u : Int) + 3 by omega] at ht
  refine ⟨by rw [r0]; exact w0, by rw [r1]; split <;> omega, ht, ?_⟩
  cases hc : x.2.2 with
  | none =>
    rw [r2 hc, show (W (396 + 4 * (u : Int) + 2) - W (396 + 4 * (u : Int) + 2)).toNat = 0 by omega]
    exact ⟨by decide, by decide⟩
  | some t =>
    obtain ⟨c1, c2⟩ := r3 t hc
    have hs := w2 t hc
    rw [show (W (396 + 4 * (u : Int) + 3) - W (396 + 4 * (u : Int) + 2)).toNat = (srds t).length by omega]
    refine hok_l (srds t) _ 0 (fun j v hv => (c2 j v hv).1) ?_
    have := hokl_s t 0 1 hs [] (by decide) ⟨by decide, by decide⟩
    rw [List.append_nil] at this
    exact this
end
/-! 7c04.cv -/
section
/-! WHAT THE CLASS HOLDS, what the reference holds, of one abstract state: N told, lw the law, A remembered, im the image, t and f the TAPE, w the wrong byte. -/
noncomputable def CLV (N : Int → Int) (lw : Option (List lln)) (A : List (Int → Int)) (im : Option ((Int → Int) × Option (List lln))) (t w : Int) (f : Int → Int) (M : gm_M) : Prop := (TI N (hts (N 13)) (spd N) M ∧ HIS A M) ∧ (M 1 15 = 0 ∨ (M 1 15 = 1 ∧ ENDS N (hts (N 13)) (aphi lw N (hts (N 13))) M)) ∧ (¬ lw = none → KFL N (aphx lw N (hts (N 13))) M) ∧ ((M 1 6 = 0 ∧ im = none) ∨ (M 1 6 = 1 ∧ ∃ NI lI, im = some (NI, lI) ∧ cs M 29 = NI)) ∧ (M 1 1 = t ∧ M 1 2 = w) ∧ ∀ j, 0 ≤ j → j < 400 → M 2 j = f j
/-- the law that the reference holds -/
noncomputable def LAWR (lw : Option (List lln)) (W : Int → Int) : Prop := (lw = none → W 8 = 0) ∧ ∀ ls, lw = some ls → (W 8 = 1 ∧ W 395 = (ls.length : Int)) ∧ LW ls ∧ LR ls W ∧ LRb ls W
noncomputable def RFV (N : Int → Int) (lw : Option (List lln)) (A : List (Int → Int)) (im : Option ((Int → Int) × Option (List lln))) (t w : Int) (f : Int → Int) (M : gm_M) : Prop := (TR N (hts (N 13)) M ∧ LAWR lw (M 227) ∧ HISR A (M 227 8) M) ∧ KFR N (aphi lw N (hts (N 13))) M ∧ ((M 226 5 = 0 ∧ im = none) ∨ (M 226 5 = 1 ∧ ∃ NI lI, im = some (NI, lI) ∧ ws (M 228) = NI ∧ LAWR lI (M 228))) ∧ (M 226 8 = t ∧ M 226 13 = w) ∧ ∀ j, 0 ≤ j → j < 400 → M 231 j = f j
/-- what the abstract state always is -/
noncomputable def RA (N : Int → Int) (lw : Option (List lln)) (A : List (Int → Int)) (im : Option ((Int → Int) × Option (List lln))) (t w : Int) (f : Int → Int) : Prop := GJ N ∧ (∀ ls, lw = some ls → LW ls) ∧ (∀ N1 ∈ A, GJ N1 ∧ hgeo N N1) ∧ (∀ NI lI, im = some (NI, lI) → GJ NI ∧ ∀ ls, lI = some ls → LW ls) ∧ (0 ≤ t ∧ t ≤ 400) ∧ (-1 ≤ w ∧ w ≤ 400) ∧ ∀ j, 0 ≤ j → j < 400 → -128 ≤ f j ∧ f j ≤ 127
section CV4
variable {n : Nat} {K : gm_K} {R : gm_R} {M M2 : gm_M} {N N' : Int → Int} {lw : Option (List lln)} {A A' : List (Int → Int)} {im : Option ((Int → Int) × Option (List lln))} {t w : Int} {f : Int → Int}
theorem kfl_e {φ : Int → Int → Int → Int} (hk : KFL N φ M) (e6 : M2 200 6 = M 200 6) (e5 : ∀ j, M2 205 j = M 205 j) : KFL N φ M2 := by
  refine ⟨by rw [e6]; exact hk.1, fun l r y l0 l1 r0 r1 y0 y1 => ?_⟩
  rw [kv_e e6 e5]
  exact hk.2 l r y l0 l1 r0 r1 y0 y1
theorem ends_x {φ : Int → Int → Int → Int} {h : Int → Int} (he : ENDS N h φ M) (e : ∀ (k : Nat) (j : Int), k = 220 ∨ k = 221 → M2 k j = M k j) : ENDS N h φ M2 := ⟨by rw [e 220 3 (Or.inl rfl)]; exact he.1, fun l l0 l1 => by rw [e 221 _ (Or.inr rfl), e 221 _ (Or.inr rfl)]; exact he.2 l l0 l1⟩
/-- the class's cells -/
noncomputable def cK (k : Nat) (j : Int) : Prop := (k = 1 ∧ (j = 1 ∨ j = 2 ∨ j = 6 ∨ j = 15)) ∨ k = 2 ∨ (3 ≤ k ∧ k ≤ 15) ∨ (29 ≤ k ∧ k ≤ 199) ∨ (k = 200 ∧ j = 6) ∨ (201 ≤ k ∧ k ≤ 203) ∨ k = 205 ∨ k = 220 ∨ k = 221
theorem clv_e (hV : CLV N lw A im t w f M) (hC : CST M2) (e : ∀ k j, cK k j → M2 k j = M k j) : CLV N lw A im t w f M2 := by
  obtain ⟨⟨hT, hH⟩, h15, hk, hi, ht, hf⟩ := hV
  have e15 : M2 1 15 = M 1 15 := e 1 15 (by unfold cK; omega)
  have e6 : M2 1 6 = M 1 6 := e 1 6 (by unfold cK; omega)
  refine ⟨⟨⟨hC, ?_, fun y y0 y1 => ?_, fun l r l0 l1 r0 r1 => ?_⟩, his_fr hH (fun x j h1 h2 => e x j (by unfold cK; omega))⟩, ?_, fun hn => kfl_e (hk hn) (e 200 6 (by unfold cK; omega)) (fun j => e 205 j (by unfold cK; omega)), ?_, ⟨?_, ?_⟩, fun j j0 j1 => ?_⟩
  · rw [← hT.2.1]
    exact cs_same fun x j h1 h2 => e x j (by unfold cK; omega)
  · rw [e 201 y (by unfold cK; omega), e 203 y (by unfold cK; omega)]
    exact hT.2.2.1 y y0 y1
  · rw [e 202 _ (by unfold cK; omega)]
    exact hT.2.2.2 l r l0 l1 r0 r1
  · rw [e15]
    exact h15.imp_right fun h => ⟨h.1, ends_x h.2 (fun k j hk => e k j (by unfold cK; omega))⟩
  · rw [e6]
    refine hi.imp_right fun ⟨h1, NI, lI, h2, h3⟩ => ⟨h1, NI, lI, h2, ?_⟩
    rw [← h3]
    exact cs_same fun x j h1 h2 => e x j (by unfold cK; omega)
  · rw [e 1 1 (by unfold cK; omega)]; exact ht.1
  · rw [e 1 2 (by unfold cK; omega)]; exact ht.2
  · rw [e 2 j (by unfold cK; omega)]; exact hf j j0 j1
/-- the reference's cells -/
noncomputable def rK (k : Nat) (j : Int) : Prop := k = 227 ∨ k = 228 ∨ k = 230 ∨ k = 231 ∨ k = 234 ∨ k = 235 ∨ (k = 226 ∧ (j = 5 ∨ j = 6 ∨ j = 8 ∨ j = 13 ∨ j = 26))
theorem kfr_e {φ : Int → Int → Int → Int} (hk : KFR N φ M) (e6 : M2 226 26 = M 226 26) (e5 : ∀ j, M2 235 j = M 235 j) : KFR N φ M2 := by
  refine ⟨by rw [e6]; exact hk.1, fun j j0 j1 => by rw [e5]; exact hk.2.1 j j0 j1, fun r y => ?_⟩
  rw [e6, e5]
  exact hk.2.2 r y
theorem rfv_e (hV : RFV N lw A im t w f M) (e : ∀ k j, rK k j → M2 k j = M k j) : RFV N lw A im t w f M2 := by
  obtain ⟨⟨hT, hL, hH⟩, hk, hi, ht, hf⟩ := hV
  have e7 : M2 227 = M 227 := funext fun j => e 227 j (by unfold rK; omega)
  have e8 : M2 228 = M 228 := funext fun j => e 228 j (by unfold rK; omega)
  refine ⟨⟨⟨by rw [e7]; exact hT.1, fun y y0 y1 => ?_⟩, by rw [e7]; exact hL, ?_⟩, kfr_e hk (e 226 26 (by unfold rK; omega)) (fun j => e 235 j (by unfold rK; omega)), ?_, ⟨?_, ?_⟩, fun j j0 j1 => ?_⟩
  · rw [e 234 y (by unfold rK; omega)]
    exact hT.2 y y0 y1
  · rw [e7]
    exact hisr_e hH (e 226 6 (by unfold rK; omega)) (fun j => e 230 j (by unfold rK; omega))
  · rw [e 226 5 (by unfold rK; omega), e8]
    exact hi
  · rw [e 226 8 (by unfold rK; omega)]; exact ht.1
  · rw [e 226 13 (by unfold rK; omega)]; exact ht.2
  · rw [e 231 j (by unfold rK; omega)]; exact hf j j0 j1
/-- another valley of the same kind in the class -/
theorem clv_up (hV : CLV N lw A im t w f M) (hN : NR N) (hg : hgeo N N') (hC : CST M2) (hc : cs M2 3 = N') (hH : HIS A' M2) (h15 : M2 1 15 = 0 ∨ (M2 1 15 = 1 ∧ ENDS N' (hts (N' 13)) (aphi lw N' (hts (N' 13))) M2)) (hk : ¬ lw = none → KFL N (aphx lw N (hts (N 13))) M2) (e1 : ∀ j, j = 1 ∨ j = 2 ∨ j = 6 → M2 1 j = M 1 j) (e : ∀ (k : Nat) (j : Int), k = 2 ∨ (29 ≤ k ∧ k ≤ 41) ∨ (201 ≤ k ∧ k ≤ 203) → M2 k j = M k j) : CLV N' lw A' im t w f M2 := by
  obtain ⟨⟨hT, -⟩, -, -, hi, ht, hf⟩ := hV
  refine ⟨⟨hg_ti hN hg hT hC hc (fun k j h1 h2 => e k j (by omega)), hH⟩, h15, fun hn => ?_, ?_, ⟨?_, ?_⟩, fun j j0 j1 => ?_⟩
  · rw [hg_hts hg, hg_aphx hg hN]
    exact hg_kfl hg (hk hn)
  · rw [e1 6 (by decide)]
    refine hi.imp_right fun ⟨h1, NI, lI, h2, h3⟩ => ⟨h1, NI, lI, h2, ?_⟩
    rw [← h3]
    exact cs_same fun x j h1 h2 => e x j (by omega)
  · rw [e1 1 (by decide)]; exact ht.1
  · rw [e1 2 (by decide)]; exact ht.2
  · rw [e 2 j (by omega)]; exact hf j j0 j1
/-- another valley of the same kind in the reference -/
theorem rfv_up (hV : RFV N lw A im t w f M) (hN : NR N) (hg : hgeo N N') (hw : ws (M2 227) = N') (h395 : ∀ j, 395 ≤ j → M2 227 j = M 227 j) (h8 : M2 227 8 = M 227 8) (hH : HISR A' (M 227 8) M2) (hk : KFR N (aphi lw N (hts (N 13))) M2) (e1 : ∀ j, j = 5 ∨ j = 8 ∨ j = 13 → M2 226 j = M 226 j) (e : ∀ (k : Nat) (j : Int), k = 228 ∨ k = 231 ∨ k = 234 → M2 k j = M k j) (hb : ∀ ls, lw = some ls → ∀ k : Nat, k < ls.length → 0 ≤ M 227 (396 + 4 * (k : Int) + 2)) : RFV N' lw A' im t w f M2 := by
  obtain ⟨⟨hT, hL, -⟩, -, hi, ht, hf⟩ := hV
  have e8 : M2 228 = M 228 := funext fun j => e 228 j (by omega)
  refine ⟨⟨⟨hw, fun y y0 y1 => ?_⟩, ⟨fun hn => by rw [h8]; exact hL.1 hn, fun ls hs => ?_⟩, by rw [h8]; exact hH⟩, ?_, ?_, ⟨?_, ?_⟩, fun j j0 j1 => ?_⟩
  · rw [hg_hts hg, e 234 y (by omega)]
    exact hT.2 y y0 y1
  · obtain ⟨⟨a1, a2⟩, a3, a4, a5⟩ := hL.2 ls hs
    refine ⟨⟨by rw [h8]; exact a1, by rw [h395 395 (by decide)]; exact a2⟩, a3, fun k x hx => ?_, fun k x hx => ?_⟩
    · have hk9 := hb ls hs k (List.getElem?_eq_some_iff.mp hx).1
      obtain ⟨b0, b1, b2, b3⟩ := a4 k x hx
      rw [h395 (396 + 4 * (k : Int)) (by omega), h395 (396 + 4 * (k : Int) + 1) (by omega), h395 (396 + 4 * (k : Int) + 2) (by omega), h395 (396 + 4 * (k : Int) + 3) (by omega)]
      refine ⟨b0, b1, b2, fun t ht => ⟨(b3 t ht).1, fun j v hv => ?_⟩⟩
      rw [h395 _ (by omega), h395 _ (by omega)]
      exact (b3 t ht).2 j v hv
    · have hk9 := hb ls hs k (List.getElem?_eq_some_iff.mp hx).1
      rw [h395 (396 + 4 * (k : Int) + 2) (by omega)]
      exact a5 k x hx
  · rw [hg_hts hg, hg_aphi hg hN.2.1.1]
    exact hg_kfr hg hk
  · rw [e1 5 (by decide), e8]
    exact hi
  · rw [e1 8 (by decide)]; exact ht.1
  · rw [e1 13 (by decide)]; exact ht.2
  · rw [e 231 j (by omega)]; exact hf j j0 j1
end CV4
end
/-! 7c05.ca -/
section
/-! THE ACTS OF THE CLASS upon the abstract state. -/
/-- post: how it ends (0, or which refusal), the answer, what is told, what is remembered -/
noncomputable def ap_post (N : Int → Int) (A : List (Int → Int)) (a b : Int) : Int × Int × (Int → Int) × List (Int → Int) :=
  tif (¬ ((0 ≤ a ∧ a < N 3) ∧ (0 ≤ b ∧ b < N 3))) (1, 0, N, A) (tif (a = b) (2, 0, N, A) (tif (N 4 = 24) (3, 0, N, A) (0, N 4, nthr N a b ((N (95 + (a * 3 + 0)))) ((N (95 + (a * 3 + 1)))), (N :: A).take 12)))
noncomputable def ap_watch (N : Int → Int) (A : List (Int → Int)) (p l : Int) : Int × Int × (Int → Int) × List (Int → Int) :=
  tif (¬ ((0 ≤ p ∧ p < N 3) ∧ (l = -1 ∨ (0 ≤ l ∧ l < N 0)))) (1, 0, N, A) (0, (N (95 + (p * 3 + 2))), nwat N p l, (N :: A).take 12)
noncomputable def ap_open (lw : Option (List lln)) (N : Int → Int) (A : List (Int → Int)) (l : Int) : Int × Int × (Int → Int) × List (Int → Int) :=
  tif (¬ (0 ≤ l ∧ l < N 4)) (1, 0, N, A) (tif (¬ WTS N l (aout N (hts (N 13)) (aphi lw N (hts (N 13))) l)) (2, 0, N, A) (0, N 9 - (N (119 + (l * 7 + 3))), nopn N l ((N (119 + (l * 7 + 1)))), (N :: A).take 12))
noncomputable def ap_yrs (lw : Option (List lln)) (N : Int → Int) (y : Int) : (Int → Int) × Int := yrs (fun N2 => apsi lw N2 (hts (N 13))) (aout N (hts (N 13)) (aphi lw N (hts (N 13)))) (adp N (hts (N 13)) (aphi lw N (hts (N 13)))) (N, 0) y.toNat
noncomputable def ap_years (lw : Option (List lln)) (N : Int → Int) (A : List (Int → Int)) (y : Int) : Int × Int × (Int → Int) × List (Int → Int) :=
  tif (¬ (1 ≤ y ∧ y ≤ 50 ∧ y ≤ 299 - N 9)) (1, 0, N, A) (0, (ap_yrs lw N y).2, (ap_yrs lw N y).1, (N :: A).take 12)
/-- how the references change: not, or one more is remembered, or one less -/
noncomputable def STEP (R R1 : gm_R) (M M1 : gm_M) (A A' : List (Int → Int)) : Prop := (R1 = R ∧ M1 42 1 = M 42 1 ∧ A' = A) ∨ (∃ p : Nat, p < 12 ∧ (M 42 1 = (p : Int) ∧ M1 42 1 = ((p : Int) + 1) % 12) ∧ R1 = gm_uR R (44 + 13 * p) 8 (R 3 8) ∧ ∃ N0, A' = (N0 :: A).take 12) ∨ (∃ p : Nat, p < 12 ∧ (M1 42 1 = (p : Int) ∧ M 42 1 = ((p : Int) + 1) % 12) ∧ R1 = gm_uR R 3 8 (R (44 + 13 * p) 8) ∧ ∃ N0, A = N0 :: A')
/-- what one of the law's own methods hands back -/
noncomputable def AQ (n : Nat) (K : gm_K) (R : gm_R) (M : gm_M) (r : Int × Int × (Int → Int) × List (Int → Int)) (lw : Option (List lln)) (im : Option ((Int → Int) × Option (List lln))) (t w : Int) (f : Int → Int) (A : List (Int → Int)) : gm_Q := fun o n1 K1 R1 M1 => (n1 = n ∧ K1 = K ∧ ∀ (k : Nat) (j : Int), 246 ≤ k → M1 k j = M k j) ∧ o = .inl (some (gm_vi r.1)) ∧ (r.1 = 0 → M1 245 0 = gm_w r.2.1) ∧ CLV r.2.2.1 lw r.2.2.2 im t w f M1 ∧ STEP R R1 M M1 A r.2.2.2
/-- behind a call that the law's own method makes: the answer, or which refusal -/
noncomputable def hQ (l : List (Nat × Int)) (Q : gm_Q) : gm_Q := fun o n1 K1 R1 M1 => (245 ≤ n1 ∧ K1 245 = (2, 1)) ∧ ((∃ v, o = .inl (some (gm_vi v)) ∧ Q (.inl (some (gm_vi 0))) n1 K1 R1 (gm_uM M1 245 0 (gm_w v))) ∨ ∃ i ∈ l, o = .inr i.1 ∧ Q (.inl (some (gm_vi i.2))) n1 K1 R1 M1)
theorem hQ_v {l : List (Nat × Int)} {Q : gm_Q} {n1 : Nat} {K1 : gm_K} {R1 : gm_R} {M1 : gm_M} {v : Int} (hn : 245 ≤ n1) (hK : K1 245 = (2, 1)) (h : Q (.inl (some (gm_vi 0))) n1 K1 R1 (gm_uM M1 245 0 (gm_w v))) : hQ l Q (.inl (some (gm_vi v))) n1 K1 R1 M1 := ⟨⟨hn, hK⟩, Or.inl ⟨v, rfl, h⟩⟩
theorem hQ_x {l : List (Nat × Int)} {Q : gm_Q} {n1 x : Nat} {K1 : gm_K} {R1 : gm_R} {M1 : gm_M} {c : Int} (hn : 245 ≤ n1) (hK : K1 245 = (2, 1)) (hm : (x, c) ∈ l) (h : Q (.inl (some (gm_vi c))) n1 K1 R1 M1) : hQ l Q (.inr x) n1 K1 R1 M1 := ⟨⟨hn, hK⟩, Or.inr ⟨(x, c), hm, rfl, h⟩⟩
theorem hgeo_thr {N : Int → Int} {a b l r : Int} (h0 : 0 ≤ N 4) : hgeo N (nthr N a b l r) := fun i i0 i1 i2 => nthr_o ⟨i0, by omega⟩ (fun e => i2 (Or.inl e)) h0
theorem hgeo_wat {N : Int → Int} {p l : Int} (h0 : 0 ≤ p) : hgeo N (nwat N p l) := fun i i0 i1 i2 => nwat_o (by omega)
section CA5
variable {X : Int → Int} {LX d bc bs n : Nat} {K : gm_K} {R : gm_R} {M : gm_M} {N : Int → Int} {lw : Option (List lln)} {A : List (Int → Int)} {im : Option ((Int → Int) × Option (List lln))} {t w : Int} {f : Int → Int} {a b p l y : Int} {NC : Nat} {C Ln G : Int → Int}
theorem aq_0 {r : Int × Int × (Int → Int) × List (Int → Int)} {c : Int} (hr : r = (c, 0, N, A)) (hc : ¬ c = 0) (hV : CLV N lw A im t w f M) : AQ n K R M r lw im t w f A (.inl (some (gm_vi c))) n K R M := by
  subst hr
  exact ⟨⟨rfl, rfl, fun _ _ _ => rfl⟩, rfl, fun e => absurd e hc, hV, Or.inl ⟨rfl, rfl, rfl⟩⟩
theorem clv_245 {v : Int} (hV : CLV N lw A im t w f M) (hC : CST M) : CLV N lw A im t w f (gm_uM M 245 0 v) := clv_e hV (cst_fr (W := [((245 : Nat), some (0 : Int))]) hC (fr_p fr_0 (Or.inr (by decide))) (by decide +kernel)) (fun k j hk => uM_ne (by unfold cK at hk; omega))
/-- post -/
theorem ca_post (hd : 12 ≤ d) (hbc : 4 ≤ bc) (hbs : 24 ≤ bs) (hE : E0 n K R) (hn : 245 ≤ n) (hK : K 245 = (2, 1)) (hG : GJ N) (hV : CLV N lw A im t w f M) (ha : gm_ir a) (hb : gm_ir b) : gm_Wp X LX d bc bs 152 0 (gm_ent 152 [gm_vr 1, gm_vi a, gm_vi b]) [] n K R M (hQ [(3, 1), (0, 2), (1, 3)] (AQ n K R M (ap_post N A a b) lw im t w f A)) := by
  have h4 := hG.1.1.2.1.2.2.2.1
  refine ac_152 hd hbc hbs hE hV.1.1 hG.1.1 hV.1.2 ha hb (fun h => ?_) (fun h1 h2 h3 => ?_) (fun h1 h2 h3 h5 => ?_) (fun h1 h2 h3 h5 p M2 hp hk hH hC hc h15 hx => ?_)
  · exact hQ_x hn hK (c := 1) (by decide) (aq_0 (tif_t h) (by decide) hV)
  · exact hQ_x hn hK (c := 2) (by decide) (aq_0 ((tif_f (fun hh => hh ⟨h1, h2⟩)).trans (tif_t h3)) (by decide) hV)
  · exact hQ_x hn hK (c := 3) (by decide) (aq_0 ((tif_f (fun hh => hh ⟨h1, h2⟩)).trans ((tif_f h3).trans (tif_t h5))) (by decide) hV)
  · refine hQ_v hn hK ?_
    have er : ap_post N A a b = (0, N 4, nthr N a b ((N (95 + (a * 3 + 0)))) ((N (95 + (a * 3 + 1)))), (N :: A).take 12) := (tif_f (fun hh => hh ⟨h1, h2⟩)).trans ((tif_f h3).trans (tif_f (by omega)))
    rw [er]
    have e1 : ∀ j, j = 1 ∨ j = 2 ∨ j = 6 → M2 1 j = M 1 j := fun j hj => hx 1 j (Or.inl (by decide)) (by decide) (by decide) (by omega)
    have e9 : ∀ (k : Nat) (j : Int), k = 2 ∨ (29 ≤ k ∧ k ≤ 41) ∨ (200 ≤ k) → M2 k j = M k j := fun k j hk => hx k j (by omega) (by omega) (by omega) (by omega)
    have hV2 := clv_up hV hG.1.1 (hgeo_thr h4.1) hC hc hH (Or.inl h15) (fun hn => kfl_e (hV.2.2.1 hn) (e9 200 6 (by omega)) (fun j => e9 205 j (by omega))) e1 (fun k j hk => e9 k j (by omega))
    exact ⟨⟨rfl, rfl, fun k j hk9 => (uM_ne (by omega)).trans (e9 k j (by omega))⟩, rfl, fun _ => uM_at, clv_245 hV2 hC, Or.inr (Or.inl ⟨p, hp, ⟨hk.1, (uM_ne (by decide)).trans hk.2⟩, rfl, N, rfl⟩)⟩
/-- watch -/
theorem ca_watch (hd : 12 ≤ d) (hbc : 4 ≤ bc) (hbs : 24 ≤ bs) (hE : E0 n K R) (hn : 245 ≤ n) (hK : K 245 = (2, 1)) (hG : GJ N) (hV : CLV N lw A im t w f M) (ha : gm_ir p) (hb : gm_ir l) : gm_Wp X LX d bc bs 156 0 (gm_ent 156 [gm_vr 1, gm_vi p, gm_vi l]) [] n K R M (hQ [(3, 1)] (AQ n K R M (ap_watch N A p l) lw im t w f A)) := by
  have h3 := hG.1.1.2.1.2.2.1
  refine ac_156 hd hbc hbs hE hV.1.1 hG.1.1 hV.1.2 ha hb (fun h => ?_) (fun h1 h2 q M2 hp hk hH hC hc hx => ?_)
  · exact hQ_x hn hK (c := 1) (by decide) (aq_0 (tif_t h) (by decide) hV)
  · refine hQ_v hn hK ?_
    have er : ap_watch N A p l = (0, (N (95 + (p * 3 + 2))), nwat N p l, (N :: A).take 12) := tif_f (fun hh => hh ⟨h1, h2⟩)
    rw [er]
    have e9 : ∀ (k : Nat) (j : Int), k = 1 ∨ k = 2 ∨ (29 ≤ k ∧ k ≤ 41) ∨ (200 ≤ k) → M2 k j = M k j := fun k j hk => hx k j (by omega) (by omega)
    have hg : geo N (nwat N p l) := geo_nwat ⟨h1.1, by omega⟩
    have h15 : M2 1 15 = 0 ∨ (M2 1 15 = 1 ∧ ENDS (nwat N p l) (hts (nwat N p l 13)) (aphi lw (nwat N p l) (hts (nwat N p l 13))) M2) := by
      rw [e9 1 15 (Or.inl rfl), hg_hts (hgeo_g hg)]
      exact hV.2.1.imp_right fun h => ⟨h.1, ends_g hg hG.1.1 (nwat_o (by omega)) h.2 (fun k j hk => e9 k j (by omega))⟩
    have hV2 := clv_up hV hG.1.1 (hgeo_g hg) hC hc hH h15 (fun hn => kfl_e (hV.2.2.1 hn) (e9 200 6 (by omega)) (fun j => e9 205 j (by omega))) (fun j _ => e9 1 j (by omega)) (fun k j hk => e9 k j (by omega))
    exact ⟨⟨rfl, rfl, fun k j hk9 => (uM_ne (by omega)).trans (e9 k j (by omega))⟩, rfl, fun _ => uM_at, clv_245 hV2 hC, Or.inr (Or.inl ⟨q, hp, ⟨hk.1, (uM_ne (by decide)).trans hk.2⟩, rfl, N, rfl⟩)⟩
/-- the class's law in what a call sees -/
noncomputable def LBX (NC : Nat) (C Ln : Int → Int) (lw : Option (List lln)) (M : gm_M) : Prop := ∀ ls, lw = some ls → LB NC C Ln (ls.length : Int) M
theorem fic_of (hL : LBX NC C Ln lw M) (hV : CLV N lw A im t w f M) : FIC NC C Ln lw N (hts (N 13)) M := fun ls e => ⟨hL ls e, hV.2.2.1 (by rw [e]; exact fun hh => nomatch hh)⟩
/-- open -/
theorem ca_open (hd : 24 ≤ d) (hbc : 4 ≤ bc) (hbs : 24 ≤ bs) (hE : E0 n K R) (hn : 245 ≤ n) (hK : K 245 = (2, 1)) (hc : CC n K R NC C Ln G lw) (hL : LBX NC C Ln lw M) (hG : GJ N) (hV : CLV N lw A im t w f M) (hl : gm_ir l) : gm_Wp X LX d bc bs 158 0 (gm_ent 158 [gm_vr 1, gm_vi l]) [] n K R M (hQ [(3, 1), (2, 2)] (AQ n K R M (ap_open lw N A l) lw im t w f A)) := by
  have h4 := hG.1.1.2.1.2.2.2.1
  have ou : ∀ {o9 d9 : Int}, OUTR N (hts (N 13)) (aphi lw N (hts (N 13))) l o9 d9 → o9 = aout N (hts (N 13)) (aphi lw N (hts (N 13))) l := fun h => (OUTR_u h (aout_s l)).1
  refine ac_158 hd hbc hbs hE hV.1.1 hG.1.1 hG.1.2.2 hV.1.2 (flw_a hE hc hG.1.1 hG.1.2.1) (fic_of hL hV) hV.2.1 hl (fun h => ?_) (fun h1 o9 d9 M2 ho hw hf hI h15 he => ?_) (fun h1 o9 d9 p M1 M2 ho hw hf hI h15 he hp hk hH hC hc2 hx => ?_)
  · exact hQ_x hn hK (c := 1) (by decide) (aq_0 (tif_t h) (by decide) hV)
  · refine hQ_x hn hK (c := 2) (by decide) ?_
    rw [ou ho] at hw
    have er : ap_open lw N A l = (2, 0, N, A) := (tif_f (fun hh => hh h1)).trans (tif_t hw)
    rw [er]
    have hC2 : CST M2 := cst_fr hV.1.1.1 hf (by decide +kernel)
    have e1 : ∀ j, j = 1 ∨ j = 2 ∨ j = 6 → M2 1 j = M 1 j := fun j hj => by rcases hj with rfl | rfl | rfl <;> exact fr_j hf (by decide)
    refine ⟨⟨rfl, rfl, fun k j hk9 => hf k j (by intro hm; simp at hm; omega) (by intro hm; simp at hm; omega)⟩, rfl, fun e => absurd (show (2 : Int) = 0 from e) (by decide), ?_, Or.inl ⟨rfl, fr_c hf (by decide), rfl⟩⟩
    exact clv_up hV hG.1.1 hgeo_r hC2 ((cs_fr hf (by decide)).trans hV.1.1.2.1) (his_w hV.1.2 hf (by decide)) (Or.inr ⟨h15, he⟩) (fun hn => by
      cases hlw : lw with
      | none => exact absurd hlw hn
      | some ls => rw [← hlw]; exact (hI ls hlw).2) e1 (fun k j hk => hf k j (by intro hm; simp at hm; omega) (by intro hm; simp at hm; omega))
  · refine hQ_v hn hK ?_
    have hw9 := hw
    rw [ou ho] at hw
    have er : ap_open lw N A l = (0, N 9 - (N (119 + (l * 7 + 3))), nopn N l ((N (119 + (l * 7 + 1)))), (N :: A).take 12) := (tif_f (fun hh => hh h1)).trans (tif_f (fun hh => hh hw))
    rw [er]
    have h14 := logi_lt hG.1.1 hG.1.2.2 h1 hw.2.1
    have hl24 : 0 ≤ l ∧ l < 24 := ⟨h1.1, by omega⟩
    have hg : geo N (nopn N l ((N (119 + (l * 7 + 1))))) := geo_nopn hl24 h14
    have e1 : ∀ j, j = 1 ∨ j = 2 ∨ j = 6 → M2 1 j = M 1 j := fun j hj => (hx 1 j (Or.inl (by decide)) (by decide) (by decide) (by decide)).trans (by rcases hj with rfl | rfl | rfl <;> exact fr_j hf (by decide))
    have e9 : ∀ (k : Nat) (j : Int), (k = 1 ∧ j = 15) ∨ k = 2 ∨ (29 ≤ k ∧ k ≤ 41) ∨ (200 ≤ k) → M2 k j = M1 k j := fun k j hk => hx k j (by omega) (by omega) (by omega) (by omega)
    have h15b : M2 1 15 = 0 ∨ (M2 1 15 = 1 ∧ ENDS (nopn N l ((N (119 + (l * 7 + 1))))) (hts (nopn N l ((N (119 + (l * 7 + 1)))) 13)) (aphi lw (nopn N l ((N (119 + (l * 7 + 1))))) (hts (nopn N l ((N (119 + (l * 7 + 1)))) 13))) M2) := by
      rw [hg_hts (hgeo_g hg)]
      exact Or.inr ⟨(e9 1 15 (by decide)).trans h15, ends_g hg hG.1.1 (nopn_o ⟨by decide, by decide⟩ (by decide) hl24 h14) he (fun k j hk => e9 k j (by omega))⟩
    have hV2 := clv_up hV hG.1.1 (hgeo_g hg) hC hc2 hH h15b (fun hn => by
      cases hlw : lw with
      | none => exact absurd hlw hn
      | some ls => rw [← hlw]; exact kfl_e (hI ls hlw).2 (e9 200 6 (by omega)) (fun j => e9 205 j (by omega))) e1 (fun k j hk => (e9 k j (by omega)).trans (hf k j (by intro hm; simp at hm; omega) (by intro hm; simp at hm; omega)))
    exact ⟨⟨rfl, rfl, fun k j hk9 => (uM_ne (by omega)).trans ((e9 k j (by omega)).trans (hf k j (by intro hm; simp at hm; omega) (by intro hm; simp at hm; omega)))⟩, rfl, fun _ => uM_at, clv_245 hV2 hC, Or.inr (Or.inl ⟨p, hp, ⟨(fr_c hf (by decide)).symm.trans hk.1, (uM_ne (by decide)).trans hk.2⟩, rfl, N, rfl⟩)⟩
/-- years -/
theorem ca_years (hd : 24 ≤ d) (hbc : 4 ≤ bc) (hbs : 24 ≤ bs) (hE : E0 n K R) (hn : 245 ≤ n) (hK : K 245 = (2, 1)) (hc : CC n K R NC C Ln G lw) (hL : LBX NC C Ln lw M) (hG : GJ N) (hV : CLV N lw A im t w f M) (hy : gm_ir y) : gm_Wp X LX d bc bs 161 0 (gm_ent 161 [gm_vr 1, gm_vi y]) [] n K R M (hQ [(0, 1)] (AQ n K R M (ap_years lw N A y) lw im t w f A)) := by
  have hE2 : ∀ p : Nat, p < 12 → E0 n K (gm_uR R (44 + 13 * p) 8 (R 3 8)) := fun p hp => e0h hE hp
  have hc2 : ∀ p : Nat, p < 12 → CC n K (gm_uR R (44 + 13 * p) 8 (R 3 8)) NC C Ln G lw := fun p hp => cc_u hc (by omega) (by omega)
  refine ac_161 (Ψ := fun N2 => apsi lw N2 (hts (N 13))) (o := aout N (hts (N 13)) (aphi lw N (hts (N 13)))) (dd := adp N (hts (N 13)) (aphi lw N (hts (N 13)))) hd hbc hbs hE hV.1.1 hG.1.1 hG.1.2.2 hV.1.2 (flw_a hE hc hG.1.1 hG.1.2.1) (fic_of hL hV) hV.2.1 (fun M M2 hx hI ls e => ?_) (fun p hp => flw_a (hE2 p hp) (hc2 p hp) hG.1.1 hG.1.2.1) (fun p hp N2 hg hN2 => mow_a (hE2 p hp) (hc2 p hp) hG.1.1 hg hN2) hy (fun l _ _ => aout_s l) (fun h => ?_) (fun h p M1 M2 hp hk hH hI h15 h220 he hC hc9 hx hf => ?_)
  · obtain ⟨⟨i1, i2, i3, i4⟩, i5⟩ := hI ls e
    have e9 : ∀ (k : Nat) (j : Int), 199 < k → M2 k j = M k j := fun k j hk => hx k j (Or.inr hk)
    have e7 : M2 247 = M 247 := funext fun j => e9 247 j (by decide)
    have e8 : M2 248 = M 248 := funext fun j => e9 248 j (by decide)
    have e0 : M2 249 = M 249 := funext fun j => e9 249 j (by decide)
    refine ⟨⟨?_, fun j => (e9 247 j (by decide)).trans (i2 j), fun j => (e9 249 j (by decide)).trans (i3 j), (e9 248 3 (by decide)).trans i4⟩, kfl_e i5 (e9 200 6 (by decide)) (fun j => e9 205 j (by decide))⟩
    unfold LM at i1 ⊢
    rw [e7, e8, e0]
    exact i1
  · exact hQ_x hn hK (c := 1) (by decide) (aq_0 (tif_t h) (by decide) hV)
  · refine hQ_v hn hK ?_
    have er : ap_years lw N A y = (0, (ap_yrs lw N y).2, (ap_yrs lw N y).1, (N :: A).take 12) := tif_f (fun hh => hh h)
    rw [er]
    have hh9 : N 9 + (y.toNat : Int) ≤ 299 := by omega
    obtain ⟨-, -, hg, h4, -⟩ := yrs_i (Ψ := fun N2 => apsi lw N2 (hts (N 13))) (o := aout N (hts (N 13)) (aphi lw N (hts (N 13)))) (dd := adp N (hts (N 13)) (aphi lw N (hts (N 13)))) hG.1.1 hG.1.2.2 y.toNat hh9
    have hg : geo N (ap_yrs lw N y).1 := hg
    have h4 : (ap_yrs lw N y).1 4 = N 4 := h4
    have hc9 : cs M2 3 = (ap_yrs lw N y).1 := hc9
    have e1 : ∀ j, j = 1 ∨ j = 2 ∨ j = 6 → M2 1 j = M 1 j := fun j hj => Eq.trans (by rcases hj with rfl | rfl | rfl <;> exact fr_j hf (by decide)) (hx 1 j (Or.inl (by decide)))
    have e9 : ∀ (k : Nat) (j : Int), k = 2 ∨ (29 ≤ k ∧ k ≤ 41) ∨ (201 ≤ k ∧ k ≤ 203) ∨ 246 ≤ k → M2 k j = M k j := fun k j hk => (hf k j (by intro hm; simp at hm; omega) (by intro hm; simp at hm; omega)).trans (hx k j (by omega))
    have h15b : M2 1 15 = 0 ∨ (M2 1 15 = 1 ∧ ENDS (ap_yrs lw N y).1 (hts ((ap_yrs lw N y).1 13)) (aphi lw (ap_yrs lw N y).1 (hts ((ap_yrs lw N y).1 13))) M2) := by
      rw [hg_hts (hgeo_g hg)]
      exact Or.inr ⟨h15, ends_g hg hG.1.1 h4 ⟨h220, he⟩ (fun _ _ _ => rfl)⟩
    have hV2 := clv_up hV hG.1.1 (hgeo_g hg) hC hc9 hH h15b (fun hn => by
      cases hlw : lw with
      | none => exact absurd hlw hn
      | some ls => rw [← hlw]; exact (hI ls hlw).2) e1 (fun k j hk => e9 k j (by omega))
    exact ⟨⟨rfl, rfl, fun k j hk9 => (uM_ne (by omega)).trans (e9 k j (by omega))⟩, rfl, fun _ => uM_at, clv_245 hV2 hC, Or.inr (Or.inl ⟨p, hp, ⟨hk.1, (uM_ne (by decide)).trans hk.2⟩, rfl, N, rfl⟩)⟩
end CA5
end
/-! 7c06.cd -/
section
/-! UNDO, THE IMAGE, BACK, a text of the valley, a law: the class upon the abstract state. -/
/-- what a call on the class itself leaves -/
noncomputable def CQ (n : Nat) (K : gm_K) (M : gm_M) (o9 : gm_O) (RR : gm_R → gm_M → Prop) (N : Int → Int) (lw : Option (List lln)) (A : List (Int → Int)) (im : Option ((Int → Int) × Option (List lln))) (t w : Int) (f : Int → Int) : gm_Q := fun o n1 K1 R1 M1 => (n1 = n ∧ K1 = K ∧ ∀ (k : Nat) (j : Int), 246 ≤ k → M1 k j = M k j) ∧ o = o9 ∧ CLV N lw A im t w f M1 ∧ RR R1 M1
noncomputable def ap_undo (N : Int → Int) : List (Int → Int) → Int × (Int → Int) × List (Int → Int)
  | [] => (0, N, [])
  | N0 :: A1 => (1, N0, A1)
noncomputable def ap_back (N : Int → Int) (lw : Option (List lln)) (A : List (Int → Int)) : Option ((Int → Int) × Option (List lln)) → Int × (Int → Int) × Option (List lln) × List (Int → Int)
  | none => (0, N, lw, A)
  | some q => (1, q.1, q.2, [])
noncomputable def ap_valley (f : Int → Int) (t : Int) (N : Int → Int) (A : List (Int → Int)) : Int × Int × (Int → Int) × List (Int → Int) × Int :=
  tif (¬ (v_val f t N).1 = true) (1, 0, N, A, (v_val f t N).2.1) (tif (N 7 = 12) (2, 0, N, A, -1) (0, N 7 + 1, nup (v_val f t N).2.2 7 (N 7 + 1), [], -1))
/-- what the law's own method for a text of the valley hands back -/
noncomputable def VQ (n : Nat) (K : gm_K) (R : gm_R) (M : gm_M) (r : Int × Int × (Int → Int) × List (Int → Int) × Int) (lw : Option (List lln)) (im : Option ((Int → Int) × Option (List lln))) (f : Int → Int) : gm_Q := fun o n1 K1 R1 M1 => (n1 = n ∧ K1 = K ∧ ∀ (k : Nat) (j : Int), 246 ≤ k → M1 k j = M k j) ∧ o = .inl (some (gm_vi r.1)) ∧ (r.1 = 0 → M1 245 0 = gm_w r.2.1) ∧ CLV r.2.2.1 lw r.2.2.2.1 im 0 r.2.2.2.2 f M1 ∧ M1 42 1 = M 42 1 ∧ (R1 = gm_uR R 16 8 (R 3 8) ∨ R1 = gm_uR (gm_uR R 16 8 (R 3 8)) 3 8 ((gm_uR R 16 8 (R 3 8)) 16 8))
section CD6
variable {X : Int → Int} {LX d bc bs n : Nat} {K : gm_K} {R : gm_R} {M M2 : gm_M} {N NI : Int → Int} {lw lI : Option (List lln)} {A : List (Int → Int)} {im : Option ((Int → Int) × Option (List lln))} {t w : Int} {f : Int → Int}
theorem kfl_new {φ : Int → Int → Int → Int} (h : M 200 6 = 1) : KFL N φ M := by
  refine ⟨by rw [h]; decide, fun l r y _ _ _ _ _ _ => Or.inl ?_⟩
  unfold kv
  rw [h]
  rfl
theorem his_nil {nx : Int} (h0 : 0 ≤ nx ∧ nx < 12) (h1 : M 42 1 = nx) (h2 : M 42 2 = 0) : HIS [] M := ⟨nx, h0, h1, h2, by decide, fun i N1 h => by simp at h⟩
theorem his_nx (h : HIS A M) : 0 ≤ M 42 1 ∧ M 42 1 < 12 := by
  obtain ⟨nx, h0, h1, -⟩ := h
  omega
theorem ca_undo (hd : 8 ≤ d) (hE : E0 n K R) (hG : GJ N) (hA : ∀ N1 ∈ A, GJ N1 ∧ hgeo N N1) (hV : CLV N lw A im t w f M) : gm_Wp X LX d bc bs 54 0 (gm_ent 54 [gm_vr 1]) [] n K R M (CQ n K M (.inl (some (gm_vi (ap_undo N A).1))) (fun R1 M1 => STEP R R1 M M1 A (ap_undo N A).2.2) (ap_undo N A).2.1 lw (ap_undo N A).2.2 im t w f) := by
  refine ac_54 hd hE hV.1.1 hG.1.1 hV.1.2 (fun N1 h => (hA N1 h).1.1.1) (fun hA0 M2 hf h15 => ?_) (fun N0 A1 p M2 hA0 hp hk hH hC hc h15 hx => ?_)
  · subst hA0
    have hC2 : CST M2 := cst_fr hV.1.1.1 hf (by decide +kernel)
    exact ⟨⟨rfl, rfl, fun k j hk => hf k j (by intro hm; simp at hm) (by intro hm; simp at hm; omega)⟩, rfl, clv_up hV hG.1.1 hgeo_r hC2 ((cs_fr hf (by decide)).trans hV.1.1.2.1) (his_w hV.1.2 hf (by decide)) (Or.inl h15) (fun hn => kfl_e (hV.2.2.1 hn) (fr_c hf (by decide)) (fun j => fr_c hf (by decide))) (fun j hj => by rcases hj with rfl | rfl | rfl <;> exact fr_j hf (by decide)) (fun k j hk => hf k j (by intro hm; simp at hm) (by intro hm; simp at hm; omega)), Or.inl ⟨rfl, fr_c hf (by decide), rfl⟩⟩
  · subst hA0
    have hg := (hA N0 List.mem_cons_self).2
    have e9 : ∀ (k : Nat) (j : Int), (k = 1 ∧ ¬ j = 15) ∨ k = 2 ∨ (29 ≤ k ∧ k ≤ 41) ∨ (200 ≤ k) → M2 k j = M k j := fun k j hk => hx k j (by omega) (by omega)
    exact ⟨⟨rfl, rfl, fun k j hk => e9 k j (by omega)⟩, rfl, clv_up hV hG.1.1 hg hC hc hH (Or.inl h15) (fun hn => kfl_e (hV.2.2.1 hn) (e9 200 6 (by omega)) (fun j => e9 205 j (by omega))) (fun j hj => e9 1 j (by omega)) (fun k j hk => e9 k j (by omega)), Or.inr (Or.inr ⟨p, hp, hk, rfl, N0, rfl⟩)⟩
theorem ca_image (hd : 5 ≤ d) (hE : E0 n K R) (hG : GJ N) (hV : CLV N lw A im t w f M) : gm_Wp X LX d bc bs 59 0 (gm_ent 59 [gm_vr 1]) [] n K R M (CQ n K M (.inl none) (fun R1 M1 => R1 = gm_uR R 29 8 (R 3 8) ∧ M1 42 1 = M 42 1) N lw A (some (N, lw)) t w f) := by
  refine im_t59 hd hE hV.1.1 hG.1.1 (fun M2 hT hc h6 hx => ?_)
  have e9 : ∀ (k : Nat) (j : Int), ¬ (k = 1 ∧ j = 6) → k < 29 ∨ 41 < k → M2 k j = M k j := hx
  refine ⟨⟨rfl, rfl, fun k j hk => e9 k j (by omega) (by omega)⟩, rfl, ⟨⟨hT, his_fr hV.1.2 (fun x j h1 h2 => e9 x j (by omega) (by omega))⟩, ?_, fun hn => kfl_e (hV.2.2.1 hn) (e9 200 6 (by omega) (by omega)) (fun j => e9 205 j (by omega) (by omega)), Or.inr ⟨h6, N, lw, rfl, hc⟩, ⟨(e9 1 1 (by omega) (by omega)).trans hV.2.2.2.2.1.1, (e9 1 2 (by omega) (by omega)).trans hV.2.2.2.2.1.2⟩, fun j j0 j1 => (e9 2 j (by omega) (by omega)).trans (hV.2.2.2.2.2 j j0 j1)⟩, rfl, e9 42 1 (by omega) (by omega)⟩
  rw [e9 1 15 (by omega) (by omega)]
  exact hV.2.1.imp_right fun h => ⟨h.1, ends_x h.2 (fun k j hk => e9 k j (by omega) (by omega))⟩
theorem ca_back (hd : 8 ≤ d) (hE : E0 n K R) (hG : GJ N) (hI : ∀ NI lI, im = some (NI, lI) → GJ NI) (hV : CLV N lw A im t w f M) : gm_Wp X LX d bc bs 60 0 (gm_ent 60 [gm_vr 1]) [] n K R M (CQ n K M (.inl (some (gm_vi (ap_back N lw A im).1))) (fun R1 M1 => M1 42 1 = M 42 1 ∧ ((im = none ∧ R1 = R) ∨ ((∃ q, im = some q) ∧ R1 = gm_uR R 3 8 (R 29 8)))) (ap_back N lw A im).2.1 (ap_back N lw A im).2.2.1 (ap_back N lw A im).2.2.2 im t w f) := by
  rcases hV.2.2.2.1 with ⟨h6, hi⟩ | ⟨h6, NI, lI, hi, hc⟩
  · subst hi
    exact ac_60 (NI := N) hd hE hV.1.1 hG.1.1 (Or.inl h6) (fun _ => ⟨⟨rfl, rfl, fun _ _ _ => rfl⟩, rfl, hV, rfl, Or.inl ⟨rfl, rfl⟩⟩) (fun h => absurd (h6.symm.trans h) (by decide)) (fun h => absurd (h6.symm.trans h) (by decide))
  · subst hi
    have gi := hI NI lI rfl
    refine ac_60 (NI := NI) hd hE hV.1.1 hG.1.1 (Or.inr h6) (fun h => absurd (h6.symm.trans h) (by decide)) (fun _ => ⟨hc, gi.1.1, gi.1.2.1⟩) (fun _ M2 hT h200 h42 h15 hx => ?_)
    have e9 : ∀ (k : Nat) (j : Int), (k = 1 ∧ ¬ j = 15) ∨ k = 2 ∨ (16 ≤ k ∧ ¬ (201 ≤ k ∧ k ≤ 203) ∧ ¬ (k = 200 ∧ j = 6) ∧ ¬ (k = 42 ∧ j = 2)) → M2 k j = M k j := fun k j hk => hx k j (by omega) (by omega) (by omega) (by omega) (by omega) (by omega) (by omega)
    refine ⟨⟨rfl, rfl, fun k j hk => e9 k j (by omega)⟩, rfl, ⟨⟨hT, his_nil (his_nx hV.1.2) (e9 42 1 (by omega)) h42⟩, Or.inl h15, fun _ => kfl_new h200, Or.inr ⟨(e9 1 6 (by omega)).trans h6, NI, lI, rfl, ?_⟩, ⟨(e9 1 1 (by omega)).trans hV.2.2.2.2.1.1, (e9 1 2 (by omega)).trans hV.2.2.2.2.1.2⟩, fun j j0 j1 => (e9 2 j (by omega)).trans (hV.2.2.2.2.2 j j0 j1)⟩, e9 42 1 (by omega), Or.inr ⟨⟨_, rfl⟩, rfl⟩⟩
    rw [← hc]
    exact cs_same fun x j h1 h2 => e9 x j (by omega)
/-- a text of the valley -/
theorem ca_valley (hd : 14 ≤ d) (hbc : 4 ≤ bc) (hbs : 24 ≤ bs) (hE : E0 n K R) (hn : 245 ≤ n) (hK : K 245 = (2, 1)) (hF : VF f t) (hf : M 2 = f) (h4 : M 214 1 = 4) (h13 : M 213 1 = 14) (hG : GJ N) (hV : CLV N lw A im t w f M) : gm_Wp X LX d bc bs 71 0 (gm_ent 71 [gm_vr 1]) [] n K R M (hQ [(0, 1), (1, 2)] (VQ n K R M (ap_valley f t N A) lw im f)) := by
  have ht := hV.2.2.2.2.1.1
  have hsame : ∀ {M2 : gm_M} {w2 : Int}, (∀ (x : Nat) (j : Int), x < 16 ∨ 28 < x → ¬ x = 214 → ¬ (x = 1 ∧ (j = 1 ∨ j = 2)) → M2 x j = M x j) → CST M2 → cs M2 3 = N → M2 1 1 = 0 → M2 1 2 = w2 → CLV N lw A im 0 w2 f M2 := fun {M2 w2} hx hC hc h1 h2 => by
    have e9 : ∀ (k : Nat) (j : Int), (k = 1 ∧ ¬ (j = 1 ∨ j = 2)) ∨ k = 2 ∨ (29 ≤ k ∧ ¬ k = 214) → M2 k j = M k j := fun k j hk => hx k j (by omega) (by omega) (by omega)
    refine ⟨⟨hg_ti hG.1.1 hgeo_r hV.1.1 hC hc (fun k j h1 h2 => e9 k j (by omega)), his_fr hV.1.2 (fun x j h1 h2 => e9 x j (by omega))⟩, ?_, fun hn => kfl_e (hV.2.2.1 hn) (e9 200 6 (by omega)) (fun j => e9 205 j (by omega)), ?_, ⟨h1, h2⟩, fun j j0 j1 => (e9 2 j (by omega)).trans (hV.2.2.2.2.2 j j0 j1)⟩
    · rw [e9 1 15 (by omega)]
      exact hV.2.1.imp_right fun h => ⟨h.1, ends_x h.2 (fun k j hk => e9 k j (by omega))⟩
    · rw [e9 1 6 (by omega)]
      refine hV.2.2.2.1.imp_right fun ⟨h1, NI, lI, h2, h3⟩ => ⟨h1, NI, lI, h2, ?_⟩
      rw [← h3]
      exact cs_same fun x j h1 h2 => e9 x j (by omega)
  refine vy_71 hd hbc hbs hE hV.1.1.1 (by rw [hf, ht]; exact hF) h4 h13 hV.1.1.2.1 hG.1 (fun M2 hx hC hc hv h2 h1 => ?_) (fun M2 hx hC hc hv h7 h2 h1 => ?_) (fun M2 hv h7 hGI hT h200 h42 h15 h2 h1 hx => ?_)
  · rw [hf, ht] at hv h2
    have er : ap_valley f t N A = (1, 0, N, A, (v_val f t N).2.1) := tif_t hv
    rw [er]
    exact hQ_x hn hK (c := 1) (by decide) ⟨⟨rfl, rfl, fun k j hk => hx k j (by omega) (by omega) (by omega)⟩, rfl, fun e => absurd (show (1 : Int) = 0 from e) (by decide), hsame hx hC hc h1 h2, hx 42 1 (by omega) (by omega) (by omega), Or.inl rfl⟩
  · rw [hf, ht] at hv
    have er : ap_valley f t N A = (2, 0, N, A, -1) := (tif_f (fun hh => hh hv)).trans (tif_t h7)
    rw [er]
    exact hQ_x hn hK (c := 2) (by decide) ⟨⟨rfl, rfl, fun k j hk => hx k j (by omega) (by omega) (by omega)⟩, rfl, fun e => absurd (show (2 : Int) = 0 from e) (by decide), hsame hx hC hc h1 h2, hx 42 1 (by omega) (by omega) (by omega), Or.inl rfl⟩
  · rw [hf, ht] at hv hT
    have er : ap_valley f t N A = (0, N 7 + 1, nup (v_val f t N).2.2 7 (N 7 + 1), [], -1) := (tif_f (fun hh => hh hv)).trans (tif_f (by omega))
    rw [er]
    have e9 : ∀ (k : Nat) (j : Int), (k = 1 ∧ ¬ (j = 1 ∨ j = 2 ∨ j = 15)) ∨ k = 2 ∨ (29 ≤ k ∧ ¬ k = 214 ∧ ¬ (201 ≤ k ∧ k ≤ 203) ∧ ¬ (k = 200 ∧ j = 6) ∧ ¬ (k = 42 ∧ j = 2)) → M2 k j = M k j := fun k j hk => hx k j (by omega) (by omega) (by omega) (by omega) (by omega) (by omega) (by omega) (by omega)
    have hV2 : CLV (nup (v_val f t N).2.2 7 (N 7 + 1)) lw [] im 0 (-1) f M2 := by
      refine ⟨⟨hT, his_nil (his_nx hV.1.2) (e9 42 1 (by omega)) h42⟩, Or.inl h15, fun _ => kfl_new h200, ?_, ⟨h1, h2⟩, fun j j0 j1 => (e9 2 j (by omega)).trans (hV.2.2.2.2.2 j j0 j1)⟩
      rw [e9 1 6 (by omega)]
      refine hV.2.2.2.1.imp_right fun ⟨h1, NI, lI, h2, h3⟩ => ⟨h1, NI, lI, h2, ?_⟩
      rw [← h3]
      exact cs_same fun x j h1 h2 => e9 x j (by omega)
    exact hQ_v hn hK ⟨⟨rfl, rfl, fun k j hk => (uM_ne (by omega)).trans (e9 k j (by omega))⟩, rfl, fun _ => uM_at, clv_245 hV2 hT.1, (uM_ne (by decide)).trans (e9 42 1 (by omega)), Or.inr rfl⟩
/-- the codes of a right law -/
theorem scds_b {B : Nat} : ∀ (ls : List lst) (h k : Nat), shg B ls h k → ∀ c ∈ scds ls, -17 ≤ c ∧ c ≤ 999 := by
  intro ls
  induction ls with
  | nil => intro h k _ c hc; cases hc
  | cons s r ih =>
    intro h k hs c hc
    have hc : c ∈ scd s ++ scds r := hc
    have pb : ∀ {ps : List (Int × Int)}, (∀ p ∈ ps, pwf p) → c ∈ ps.map pcd → -17 ≤ c ∧ c ≤ 999 := fun {ps} hp hm => by
      obtain ⟨p, hp2, rfl⟩ := List.mem_map.mp hm
      have := hp p hp2
      unfold pwf at this
      unfold pcd
      split <;> omega
    rcases List.mem_append.mp hc with hc | hc
    · unfold scd at hc
      rcases hs with ⟨h1, -⟩ | ⟨h1, -⟩ | ⟨h1, -⟩
      · rcases h1 with ⟨h0, hw⟩ | h0 | h0
        · rw [if_pos h0] at hc
          rcases List.mem_append.mp hc with hc | hc
          · exact pb hw.1 hc
          · rcases List.mem_cons.mp hc with rfl | hc
            · decide
            · rcases List.mem_append.mp hc with hc | hc
              · exact pb hw.2.1 hc
              · rw [List.mem_singleton.mp hc]
                split <;> decide
        · rw [h0] at hc
          have hc : c ∈ [(-2 - 8 : Int)] := hc
          rw [List.mem_singleton.mp hc]
          decide
        · rw [h0] at hc
          have hc : c ∈ [(-2 - 9 : Int)] := hc
          rw [List.mem_singleton.mp hc]
          decide
      · rw [h1] at hc
        have hc : c ∈ [(-15 : Int)] := hc
        rw [List.mem_singleton.mp hc]
        decide
      · rcases h1 with h1 | h1
        · rw [h1] at hc
          have hc : c ∈ [(-16 : Int)] := hc
          rw [List.mem_singleton.mp hc]
          decide
        · rw [h1] at hc
          have hc : c ∈ [(-17 : Int)] := hc
          rw [List.mem_singleton.mp hc]
          decide
    · rcases hs with ⟨-, -, h2⟩ | ⟨-, -, h2⟩ | ⟨-, -, h2⟩
      · exact ih _ _ h2 c hc
      · exact ih _ _ h2 c hc
      · exact ih _ _ h2 c hc
theorem lb_of {ls : List lln} {us : Int} (hW : LW ls) (h8 : M 248 0 = 12 ∧ M 248 1 = 4 ∧ M 248 3 = (ls.length : Int)) (hu : 0 ≤ us ∧ us ≤ 400) (hc : cdl ls us (M 249) (M 247)) : LB us.toNat (M 247) (M 249) (ls.length : Int) M := by
  have h12 := hW.1
  refine ⟨⟨⟨h8.1, h8.2.1, by omega, by omega⟩, fun i i0 i1 => ?_, fun k k0 k1 => ?_⟩, fun _ => rfl, fun _ => rfl, h8.2.2⟩
  · obtain ⟨k, x, t, j, a1, a2, a3⟩ := hc.2.1 i i0 (by omega)
    exact scds_b t 0 1 ((hW.2 k x a1).2.2 t a2) _ (List.mem_of_getElem? a3)
  · rw [h8.2.2] at k1
    obtain ⟨u, rfl⟩ : ∃ u : Nat, k = (u : Int) := ⟨k.toNat, by omega⟩
    obtain ⟨⟨b1, b2, b3⟩, b4, b5⟩ := hc.2.2 u (by omega)
    exact ⟨b4, b5, ⟨b1, b2, by omega⟩⟩
end CD6
end
/-! 7c07.en -/
section
/-! END: of both. -/
section EN7
variable {X : Int → Int} {LX d bc bs n : Nat} {K : gm_K} {R : gm_R} {M : gm_M} {Q : gm_Q} {x : Int}
theorem ce_21 (hE : E0 n K R) (hx : gm_ir x) (ht : gm_ir (M 1 1)) (q0 : x < 0 → Q (.inl (some (gm_vi 0))) n K R (M)) (q1 : ¬ x < 0 → x ≤ (M 1 1) → Q (.inl (some (gm_vi 1))) n K R (gm_uM M 1 1 x)) (q2 : ¬ x < 0 → ¬ x ≤ (M 1 1) → Q (.inl (some (gm_vi 0))) n K R (M)) : gm_Wp X LX d bc bs 21 0 (gm_ent 21 [gm_vr 1, gm_vi x]) [] n K R M Q := by
  refine gm_sz (gm_p_load (pc := 0) (i := .iload_n 1) (sr := 0) (j := 1) (by decide +kernel) rfl rfl rfl) ?_
  refine fw_if (cc := .lt) (pc := 1) (off := 11) (by decide +kernel) (by decide) hx (fun h1 => ?_) (fun h1 => ?_)
  · have h1 : x < 0 := h1
    refine gm_sz (gm_p_const (pc := 12) (i := .iconst 0) (v := gm_vi 0) (by decide +kernel) (by decide +kernel)) ?_
    exact gm_r_int (pc := 13) (by decide +kernel) (Or.inr ⟨(by decide +kernel), Or.inl rfl⟩) (q0 h1)
  · have h1 : ¬ x < 0 := h1
    refine gm_sz (gm_p_load (pc := 4) (i := .iload_n 1) (sr := 0) (j := 1) (by decide +kernel) rfl rfl rfl) ?_
    refine gm_sz (gm_p_load (pc := 5) (i := .aload_n 0) (sr := 2) (j := 0) (by decide +kernel) rfl rfl rfl) ?_
    refine gm_sz (fw_gi (pc := 6) (ix := 13) (ci := 0) (j := 1) (x := M 1 1) (by decide +kernel) (e0k hE (k := 1) (c := 0) (by decide +kernel)) (by decide +kernel) (by decide +kernel) rfl) ?_
    refine fw_ic (cc := .le) (pc := 9) (off := 5) (by decide +kernel) (by decide) hx ht (fun h9 => ?_) (fun h9 => ?_)
    · have h9 : x ≤ (M 1 1) := h9
      refine gm_sz (gm_p_load (pc := 14) (i := .aload_n 0) (sr := 2) (j := 0) (by decide +kernel) rfl rfl rfl) ?_
      refine gm_sz (gm_p_load (pc := 15) (i := .iload_n 1) (sr := 0) (j := 1) (by decide +kernel) rfl rfl rfl) ?_
      refine gm_sz (fw_pi (pc := 16) (ix := 13) (ci := 0) (j := 1) (M' := gm_uM M 1 1 x) (by decide +kernel) (e0k hE (k := 1) (c := 0) (by decide +kernel)) (by decide +kernel) (by decide +kernel) (by decide +kernel) rfl) ?_
      refine gm_sz (gm_p_const (pc := 19) (i := .iconst 1) (v := gm_vi 1) (by decide +kernel) (by decide +kernel)) ?_
      exact gm_r_int (pc := 20) (by decide +kernel) (Or.inr ⟨(by decide +kernel), Or.inr rfl⟩) (q1 h1 h9)
    · have h9 : ¬ x ≤ (M 1 1) := h9
      refine gm_sz (gm_p_const (pc := 12) (i := .iconst 0) (v := gm_vi 0) (by decide +kernel) (by decide +kernel)) ?_
      exact gm_r_int (pc := 13) (by decide +kernel) (Or.inr ⟨(by decide +kernel), Or.inl rfl⟩) (q2 h1 h9)
theorem re_240 (hE : E0 n K R) (hx : gm_ir x) (ht : gm_ir (M 226 8)) (q0 : x < 0 → Q (.inl (some (gm_vi 0))) n K R (gm_uM M 226 0 0)) (q1 : ¬ x < 0 → x ≤ (M 226 8) → Q (.inl (some (gm_vi 1))) n K R (gm_uM (gm_uM M 226 0 0) 226 8 x)) (q2 : ¬ x < 0 → ¬ x ≤ (M 226 8) → Q (.inl (some (gm_vi 0))) n K R (gm_uM M 226 0 0)) : gm_Wp X LX d bc bs 240 0 (gm_ent 240 [gm_vr 226, gm_vi x]) [] n K R M Q := by
  refine gm_sz (gm_p_load (pc := 0) (i := .aload_n 0) (sr := 2) (j := 0) (by decide +kernel) rfl rfl rfl) ?_
  refine gm_sz (gm_p_const (pc := 1) (i := .iconst 0) (v := gm_vi 0) (by decide +kernel) (by decide +kernel)) ?_
  refine gm_sz (fw_pi (pc := 2) (ix := 3) (ci := 11) (j := 0) (M' := gm_uM M 226 0 0) (by decide +kernel) (e0k hE (k := 226) (c := 11) (by decide +kernel)) (by decide +kernel) (by decide +kernel) (by decide +kernel) rfl) ?_
  refine gm_sz (gm_p_load (pc := 5) (i := .iload_n 1) (sr := 0) (j := 1) (by decide +kernel) rfl rfl rfl) ?_
  refine fw_if (cc := .lt) (pc := 6) (off := 11) (by decide +kernel) (by decide) hx (fun h6 => ?_) (fun h6 => ?_)
  · have h6 : x < 0 := h6
    refine gm_sz (gm_p_const (pc := 17) (i := .iconst 0) (v := gm_vi 0) (by decide +kernel) (by decide +kernel)) ?_
    exact gm_r_int (pc := 18) (by decide +kernel) (Or.inr ⟨(by decide +kernel), Or.inl rfl⟩) (q0 h6)
  · have h6 : ¬ x < 0 := h6
    refine gm_sz (gm_p_load (pc := 9) (i := .iload_n 1) (sr := 0) (j := 1) (by decide +kernel) rfl rfl rfl) ?_
    refine gm_sz (gm_p_load (pc := 10) (i := .aload_n 0) (sr := 2) (j := 0) (by decide +kernel) rfl rfl rfl) ?_
    refine gm_sz (fw_gi (pc := 11) (ix := 103) (ci := 11) (j := 8) (x := M 226 8) (by decide +kernel) (e0k hE (k := 226) (c := 11) (by decide +kernel)) (by decide +kernel) (by decide +kernel) (uM_ne (by omega))) ?_
    refine fw_ic (cc := .le) (pc := 14) (off := 5) (by decide +kernel) (by decide) hx ht (fun h14 => ?_) (fun h14 => ?_)
    · have h14 : x ≤ (M 226 8) := h14
      refine gm_sz (gm_p_load (pc := 19) (i := .aload_n 0) (sr := 2) (j := 0) (by decide +kernel) rfl rfl rfl) ?_
      refine gm_sz (gm_p_load (pc := 20) (i := .iload_n 1) (sr := 0) (j := 1) (by decide +kernel) rfl rfl rfl) ?_
      refine gm_sz (fw_pi (pc := 21) (ix := 103) (ci := 11) (j := 8) (M' := gm_uM (gm_uM M 226 0 0) 226 8 x) (by decide +kernel) (e0k hE (k := 226) (c := 11) (by decide +kernel)) (by decide +kernel) (by decide +kernel) (by decide +kernel) rfl) ?_
      refine gm_sz (gm_p_const (pc := 24) (i := .iconst 1) (v := gm_vi 1) (by decide +kernel) (by decide +kernel)) ?_
      exact gm_r_int (pc := 25) (by decide +kernel) (Or.inr ⟨(by decide +kernel), Or.inr rfl⟩) (q1 h6 h14)
    · have h14 : ¬ x ≤ (M 226 8) := h14
      refine gm_sz (gm_p_const (pc := 17) (i := .iconst 0) (v := gm_vi 0) (by decide +kernel) (by decide +kernel)) ?_
      exact gm_r_int (pc := 18) (by decide +kernel) (Or.inr ⟨(by decide +kernel), Or.inl rfl⟩) (q2 h6 h14)
end EN7
end
/-! 7c08.cl -/
section
/-! A LAW, FEED, END: the class upon the abstract state. -/
/-- a text of a law: how it ends, the answer, the law, what is remembered, the wrong byte -/
noncomputable def ap_law (f : Int → Int) (t : Int) (lw : Option (List lln)) (A : List (Int → Int)) : Int × Int × Option (List lln) × List (Int → Int) × Int :=
  tif (¬ (g_law f t).1 = true) (1, 0, lw, A, (g_law f t).2) (0, (g_law f t).2, some (s_law f t), [], -1)
/-- the new law's cells -/
noncomputable def NL (ls : List lln) (K1 : gm_K) (R1 : gm_R) (M1 : gm_M) : Prop := ∃ us : Int, (0 ≤ us ∧ us ≤ 400) ∧ (K1 246 = (14, 0) ∧ K1 247 = (0, us.toNat) ∧ K1 248 = (6, 0) ∧ K1 249 = (0, 48)) ∧ (R1 3 8 = 246 ∧ R1 246 0 = 248 ∧ R1 246 1 = 247 ∧ R1 248 2 = 249) ∧ LB us.toNat (M1 247) (M1 249) (ls.length : Int) M1 ∧ LC ls (M1 247) (M1 249) ∧ LW ls
noncomputable def LQ (K : gm_K) (R : gm_R) (M : gm_M) (r : Int × Int × Option (List lln) × List (Int → Int) × Int) (N : Int → Int) (im : Option ((Int → Int) × Option (List lln))) (f : Int → Int) : gm_Q := fun o n1 K1 R1 M1 => o = .inl (some (gm_vi r.1)) ∧ (r.1 = 0 → M1 245 0 = gm_w r.2.1) ∧ CLV N r.2.2.1 r.2.2.2.1 im 0 r.2.2.2.2 f M1 ∧ M1 42 1 = M 42 1 ∧ (∀ c, c ≤ 245 → K1 c = K c) ∧ ((r.1 = 1 ∧ n1 = 245 ∧ ∀ c j, c ≤ 245 → R1 c j = R c j) ∨ (r.1 = 0 ∧ n1 = 249 ∧ (∀ c j, c ≤ 245 → ¬ (c = 3 ∧ j = 8) → R1 c j = R c j) ∧ ∃ ls, r.2.2.1 = some ls ∧ NL ls K1 R1 M1))
noncomputable def ap_feed (a : Int → Int) (t : Int) (f : Int → Int) : Int × Int × (Int → Int) := tif (381 ≤ t) (-1, t, f) (t + 20, t + 20, fdc a t 20 f)
noncomputable def ap_end (x t : Int) : Int × Int := tif (x < 0 ∨ t < x) (0, t) (1, x)
section CL8
variable {X : Int → Int} {LX d bc bs n : Nat} {K : gm_K} {R : gm_R} {M M2 : gm_M} {N : Int → Int} {lw : Option (List lln)} {A : List (Int → Int)} {im : Option ((Int → Int) × Option (List lln))} {t w x : Int} {f a : Int → Int}
theorem nl_245 {ls : List lln} {K1 : gm_K} {R1 : gm_R} {M1 : gm_M} {v : Int} (h : NL ls K1 R1 M1) : NL ls K1 R1 (gm_uM M1 245 0 v) := by
  obtain ⟨us, h1, h2, h3, h4, h5, h6⟩ := h
  have e7 : gm_uM M1 245 0 v 247 = M1 247 := funext fun j => uM_ne (by omega)
  have e8 : gm_uM M1 245 0 v 248 = M1 248 := funext fun j => uM_ne (by omega)
  have e9 : gm_uM M1 245 0 v 249 = M1 249 := funext fun j => uM_ne (by omega)
  refine ⟨us, h1, h2, h3, ?_, by rw [e7, e9]; exact h5, h6⟩
  unfold LB LM at h4 ⊢
  rw [e7, e8, e9]
  exact h4
theorem ca_law (hd : 26 ≤ d) (hbc : 4 ≤ bc) (hbs : 454 ≤ bs) (hF : gm_Fx p2_O 245 K R M) (hf : M 2 = f) (hG : GJ N) (hV : CLV N lw A im t w f M) : gm_Wp X LX d bc bs 123 0 (gm_ent 123 [gm_vr 1]) [] 245 K R M (hQ [(0, 1)] (LQ K R M (ap_law f t lw A) N im f)) := by
  have ht := hV.2.2.2.2.1.1
  have hK : K 245 = (2, 1) := (hF.1 245 (2, 1) (by decide +kernel)).2.2
  have h11 : 0 ≤ M 1 1 ∧ M 1 1 ≤ 400 := ((gm_tyr_s hF (show gm_tyr p2_O 1 1 1 = some (0, 400) by decide +kernel)).2 1 (Int.le_refl _) (Int.le_refl _)).2
  have b0 : 0 ≤ t := by rw [← ht]; exact h11.1
  refine cl_123 (N := N) hd hbc hbs hF ⟨hV.1.1.1, hV.1.1.2.1⟩ hG.1 h11 (fun K2 R2 M2 hk hr hx hg h2 h1 => ?_) (fun us K2 R2 M2 hg hk hr hk2 hr2 hm hu hcd hT h200 h42 h15 h2 h1 hx => ?_)
  · rw [hf, ht] at hg h2
    have er : ap_law f t lw A = (1, 0, lw, A, (g_law f t).2) := tif_t hg
    rw [er]
    have e9 : ∀ (k : Nat) (j : Int), k ≤ 214 → ¬ (k = 1 ∧ (j = 1 ∨ j = 2)) → M2 k j = M k j := fun k j hk h => hx k j (by omega) (by unfold kxw; omega) h
    have e9b : ∀ (k : Nat) (j : Int), 220 ≤ k → k ≤ 245 → M2 k j = M k j := fun k j hk h => hx k j h (by unfold kxw; omega) (by omega)
    have hC : CST M2 := fun q hq => by
      have e := of_decide_eq_true (List.all_eq_true.mp (show cstL.all (fun q => decide (q.1 ≤ 245 ∧ ¬ (q.1 = 216 ∨ q.1 = 218 ∨ q.1 = 219 ∨ (q.1 = 215 ∧ q.2.1 = 4) ∨ (q.1 = 217 ∧ q.2.1 = 3)) ∧ ¬ (q.1 = 1 ∧ (q.2.1 = 1 ∨ q.2.1 = 2)))) = true by decide +kernel) q hq)
      exact (hx q.1 q.2.1 e.1 e.2.1 e.2.2).trans (hV.1.1.1 q hq)
    refine hQ_x (Nat.le_refl _) ((hk 245 (Nat.le_refl _)).trans hK) (c := 1) (by decide) ⟨rfl, fun e => absurd (show (1 : Int) = 0 from e) (by decide), ⟨⟨hg_ti hG.1.1 hgeo_r hV.1.1 hC ((cs_same fun x j h1 h2 => e9 x j (by omega) (by omega)).trans hV.1.1.2.1) (fun k j h1 h2 => e9 k j (by omega) (by omega)), his_fr hV.1.2 (fun x j h1 h2 => e9 x j (by omega) (by omega))⟩, ?_, fun hn => kfl_e (hV.2.2.1 hn) (e9 200 6 (by omega) (by omega)) (fun j => e9 205 j (by omega) (by omega)), ?_, ⟨h1, h2⟩, fun j j0 j1 => (e9 2 j (by omega) (by omega)).trans (hV.2.2.2.2.2 j j0 j1)⟩, e9 42 1 (by omega) (by omega), hk, Or.inl ⟨rfl, rfl, hr⟩⟩
    · rw [e9 1 15 (by omega) (by omega)]
      exact hV.2.1.imp_right fun h => ⟨h.1, ends_x h.2 (fun k j hk => e9b k j (by omega) (by omega))⟩
    · rw [e9 1 6 (by omega) (by omega)]
      refine hV.2.2.2.1.imp_right fun ⟨h1, NI, lI, h2, h3⟩ => ⟨h1, NI, lI, h2, ?_⟩
      rw [← h3]
      exact cs_same fun x j h1 h2 => e9 x j (by omega) (by omega)
  · rw [hf, ht] at hg hm hcd
    have er : ap_law f t lw A = (0, (g_law f t).2, some (s_law f t), [], -1) := tif_f (fun hh => hh hg)
    rw [hf, ht, er]
    have hW := s_law_w b0 hg
    have hlen := s_law_len hg
    have e9 : ∀ (k : Nat) (j : Int), (k = 1 ∧ j = 6) ∨ k = 2 ∨ (29 ≤ k ∧ k ≤ 41) ∨ (k = 42 ∧ j = 1) → M2 k j = M k j := fun k j hk => hx k j (by omega) (by unfold lwr kxw; omega)
    have hV2 : CLV N (some (s_law f t)) [] im 0 (-1) f M2 := by
      refine ⟨⟨hT, his_nil (his_nx hV.1.2) (e9 42 1 (by omega)) h42⟩, Or.inl h15, fun _ => kfl_new h200, ?_, ⟨h1, h2⟩, fun j j0 j1 => (e9 2 j (by omega)).trans (hV.2.2.2.2.2 j j0 j1)⟩
      rw [e9 1 6 (by omega)]
      refine hV.2.2.2.1.imp_right fun ⟨h1, NI, lI, h2, h3⟩ => ⟨h1, NI, lI, h2, ?_⟩
      rw [← h3]
      exact cs_same fun x j h1 h2 => e9 x j (by omega)
    have hnl : NL (s_law f t) K2 R2 M2 := ⟨us, hu, hk2, hr2, lb_of hW ⟨hm.1, hm.2.1, hm.2.2.trans hlen.symm⟩ hu (hcd hW.1), (hcd hW.1).1, hW⟩
    exact hQ_v (by decide) ((hk 245 (Nat.le_refl _)).trans hK) ⟨rfl, fun _ => uM_at, clv_245 hV2 hT.1, (uM_ne (by decide)).trans (e9 42 1 (by omega)), hk, Or.inr ⟨rfl, rfl, hr, _, rfl, nl_245 hnl⟩⟩
theorem fe_x {M : gm_M} {T : Int} {F : Int → Int} {k : Nat} {j : Int} (h : ¬ (k = 1 ∧ j = 1)) (h2 : ¬ k = 2) : fe M T F k j = M k j := by unfold fe; rw [if_neg h, if_neg h2]
theorem fe_2 {M : gm_M} {T : Int} {F : Int → Int} {j : Int} : fe M T F 2 j = F j := by unfold fe; rw [if_neg (by omega), if_pos rfl]
theorem fe_11 {M : gm_M} {T : Int} {F : Int → Int} : fe M T F 1 1 = T := by unfold fe; rw [if_pos ⟨rfl, rfl⟩]
theorem fe_self {M : gm_M} : fe M (M 1 1) (M 2) = M := by
  funext b j
  by_cases h1 : b = 1 ∧ j = 1
  · obtain ⟨rfl, rfl⟩ := h1
    exact fe_11
  · by_cases h2 : b = 2
    · subst h2
      exact fe_2
    · exact fe_x h1 h2
theorem clv_tape {t2 : Int} {F f2 : Int → Int} (hV : CLV N lw A im t w f M) (hF : ∀ j, 0 ≤ j → j < 400 → F j = f2 j) : CLV N lw A im t2 w f2 (fe M t2 F) := by
  have e9 : ∀ (k : Nat) (j : Int), ¬ (k = 1 ∧ j = 1) → ¬ k = 2 → fe M t2 F k j = M k j := fun k j h1 h2 => fe_x h1 h2
  obtain ⟨⟨hT, hH⟩, h15, hk, hi, ht, hf⟩ := hV
  have hC : CST (fe M t2 F) := fun q hq => by
    have e := of_decide_eq_true (List.all_eq_true.mp (show cstL.all (fun q => decide (¬ q.1 = 1 ∧ ¬ q.1 = 2)) = true by decide +kernel) q hq)
    exact (e9 q.1 q.2.1 (fun h => e.1 h.1) e.2).trans (hT.1 q hq)
  refine ⟨⟨⟨hC, (cs_same fun x j h1 h2 => e9 x j (by omega) (by omega)).trans hT.2.1, fun y y0 y1 => ?_, fun l r l0 l1 r0 r1 => ?_⟩, his_fr hH (fun x j h1 h2 => e9 x j (by omega) (by omega))⟩, ?_, fun hn => kfl_e (hk hn) (e9 200 6 (by omega) (by omega)) (fun j => e9 205 j (by omega) (by omega)), ?_, ⟨fe_11, (e9 1 2 (by omega) (by omega)).trans ht.2⟩, fun j j0 j1 => fe_2.trans (hF j j0 j1)⟩
  · rw [e9 201 y (by omega) (by omega), e9 203 y (by omega) (by omega)]
    exact hT.2.2.1 y y0 y1
  · rw [e9 202 _ (by omega) (by omega)]
    exact hT.2.2.2 l r l0 l1 r0 r1
  · rw [e9 1 15 (by omega) (by omega)]
    exact h15.imp_right fun h => ⟨h.1, ends_x h.2 (fun k j hk => e9 k j (by omega) (by omega))⟩
  · rw [e9 1 6 (by omega) (by omega)]
    refine hi.imp_right fun ⟨h1, NI, lI, h2, h3⟩ => ⟨h1, NI, lI, h2, ?_⟩
    rw [← h3]
    exact cs_same fun x j h1 h2 => e9 x j (by omega) (by omega)
theorem ca_feed (hd : 1 ≤ d) (hE : E0 n K R) (ht0 : 0 ≤ t ∧ t ≤ 400) (hV : CLV N lw A im t w f M) : gm_Wp X LX d bc bs 19 0 (gm_ent 19 [gm_vr 1, gm_vi (a 0), gm_vi (a 1), gm_vi (a 2), gm_vi (a 3), gm_vi (a 4)]) [] n K R M (CQ n K M (.inl (some (gm_vi (ap_feed a t f).1))) (fun R1 M1 => R1 = R ∧ M1 42 1 = M 42 1) N lw A im (ap_feed a t f).2.1 w (ap_feed a t f).2.2) := by
  have ht := hV.2.2.2.2.1.1
  have q := fd_c19 (X := X) (LX := LX) (d := d) (bc := bc) (bs := bs) (n := n) (K := K) (R := R) (a := a) (M := M) (t := M 1 1) (f := M 2) (Q := CQ n K M (.inl (some (gm_vi (ap_feed a t f).1))) (fun R1 M1 => R1 = R ∧ M1 42 1 = M 42 1) N lw A im (ap_feed a t f).2.1 w (ap_feed a t f).2.2) hd (e0k hE (k := 1) (c := 0) (by decide +kernel)) (e0a hE (k := 2) (q := ((1 : Nat), (400 : Nat))) (by decide +kernel)) (e0r hE (k := 1) (j := 0) (r := 2) (by decide +kernel)) (by rw [ht]; exact ht0) (fun h => ?_) (fun h => ?_)
  · rw [fe_self] at q
    exact q
  · rw [ht] at h
    have er : ap_feed a t f = (-1, t, f) := tif_t h
    rw [er, fe_self]
    exact ⟨⟨rfl, rfl, fun _ _ _ => rfl⟩, rfl, hV, rfl, rfl⟩
  · rw [ht] at h
    have er : ap_feed a t f = (t + 20, t + 20, fdc a t 20 f) := tif_f (by omega)
    rw [er, ht]
    refine ⟨⟨rfl, rfl, fun k j hk => fe_x (by omega) (by omega)⟩, rfl, clv_tape hV (fun j j0 j1 => ?_), rfl, fe_x (by omega) (by omega)⟩
    show fdc a t 20 (M 2) j = fdc a t 20 f j
    unfold fdc
    by_cases h9 : t ≤ j ∧ j < t + 20
    · rw [if_pos h9, if_pos h9]
    · rw [if_neg h9, if_neg h9]
      exact hV.2.2.2.2.2 j j0 j1
end CL8
end
/-! 7c09.ra -/
section
/-! THE ACTS OF THE REFERENCE upon the abstract state. -/
noncomputable def RQ (n : Nat) (K : gm_K) (R : gm_R) (r : Int × Int × (Int → Int) × List (Int → Int)) (lw : Option (List lln)) (im : Option ((Int → Int) × Option (List lln))) (t w : Int) (f : Int → Int) : gm_Q := fun o n1 K1 R1 M1 => (n1 = n ∧ K1 = K ∧ R1 = R) ∧ (∃ v, o = .inl (some (gm_vi v)) ∧ (r.1 = 0 → v = r.2.1)) ∧ M1 226 0 = r.1 ∧ RFV r.2.2.1 lw r.2.2.2 im t w f M1
/-- a call on the reference that cannot be refused -/
noncomputable def RC (n : Nat) (K : gm_K) (R : gm_R) (o9 : gm_O) (N : Int → Int) (lw : Option (List lln)) (A : List (Int → Int)) (im : Option ((Int → Int) × Option (List lln))) (t w : Int) (f : Int → Int) : gm_Q := fun o n1 K1 R1 M1 => (n1 = n ∧ K1 = K ∧ R1 = R) ∧ o = o9 ∧ RFV N lw A im t w f M1
noncomputable def RV (n : Nat) (K : gm_K) (R : gm_R) (c v : Int) (N : Int → Int) (lw : Option (List lln)) (A : List (Int → Int)) (im : Option ((Int → Int) × Option (List lln))) (t w : Int) (f : Int → Int) : gm_Q := fun o n1 K1 R1 M1 => (n1 = n ∧ K1 = K ∧ R1 = R) ∧ (∃ v2, o = .inl (some (gm_vi v2)) ∧ (c = 0 → v2 = v)) ∧ M1 226 0 = c ∧ RFV N lw A im t w f M1
section RA9
variable {X : Int → Int} {LX d bc bs n : Nat} {K : gm_K} {R : gm_R} {M M2 : gm_M} {N N2 : Int → Int} {lw : Option (List lln)} {A : List (Int → Int)} {im : Option ((Int → Int) × Option (List lln))} {t w : Int} {f a : Int → Int} {x y l p : Int}
theorem lawr_cg {W W2 : Int → Int} (h : LAWR lw W) (e : ∀ j, (395 ≤ j ∨ j = 8) → j < 1244 → W2 j = W j) : LAWR lw W2 := by
  refine ⟨fun hn => (e 8 (Or.inr rfl) (by decide)).trans (h.1 hn), fun ls hs => ?_⟩
  obtain ⟨⟨a1, a2⟩, a3, a4, a5⟩ := h.2 ls hs
  have h12 := a3.1
  refine ⟨⟨(e 8 (Or.inr rfl) (by decide)).trans a1, (e 395 (Or.inl (by decide)) (by decide)).trans a2⟩, a3, fun k x hx => ?_, fun k x hx => ?_⟩
  · have hk := (List.getElem?_eq_some_iff.mp hx).1
    obtain ⟨b0, b1, b2, b3⟩ := a4 k x hx
    obtain ⟨c0, c1⟩ := a5 k x hx
    rw [e (396 + 4 * (k : Int)) (by omega) (by omega), e (396 + 4 * (k : Int) + 1) (by omega) (by omega), e (396 + 4 * (k : Int) + 2) (by omega) (by omega), e (396 + 4 * (k : Int) + 3) (by omega) (by omega)]
    refine ⟨b0, b1, b2, fun t ht => ⟨(b3 t ht).1, fun j v hv => ?_⟩⟩
    have := c1 t ht j v hv
    rw [e _ (by omega) (by omega), e _ (by omega) (by omega)]
    exact (b3 t ht).2 j v hv
  · have hk := (List.getElem?_eq_some_iff.mp hx).1
    rw [e (396 + 4 * (k : Int) + 2) (by omega) (by omega)]
    exact a5 k x hx
theorem lawr_b {W : Int → Int} (h : LAWR lw W) : ∀ ls, lw = some ls → ∀ k : Nat, k < ls.length → 0 ≤ W (396 + 4 * (k : Int) + 2) := fun ls hs k hk => by
  obtain ⟨x, hx⟩ := lq_at (ls := ls) hk
  exact ((h.2 ls hs).2.2.2 k x hx).1
theorem lawg_of {W : Int → Int} (h : LAWR lw W) (hT : jT fun j => W (395 + j)) : LAWG lw W := ⟨h.1, fun ls hs => by
  obtain ⟨⟨a1, a2⟩, a3, a4, a5⟩ := h.2 ls hs
  exact ⟨a3, a4, lg_of a3 a4 a1 a2 hT⟩⟩
theorem nsb_geo (hg : hgeo N N2) (hN : NR N) (hS : NSb 6 N) : NSb 6 N2 := fun s s0 s1 => by
  have h2 := hN.2.1.1
  have e2 := hg 2 (by decide) (by decide) (by decide)
  rw [e2] at s1
  obtain ⟨a, b⟩ := hS s s0 s1
  refine ⟨by rw [hg (15 + 7 * s) (by omega) (by omega) (by omega)]; exact a, fun l l0 l1 => ?_⟩
  rw [hg (15 + 7 * s + 1 + l) (by omega) (by omega) (by omega)]
  exact b l l0 l1
theorem ns_geo (hg : geo N N2) (hN : NR N) (hS : NS N) : NS N2 := by
  have h2 := hN.2.1.1
  have h0 := hN.1.1
  exact ns_same hS (hg.1 0 (by decide) (by decide) (by decide) (by decide)) (hg.1 2 (by decide) (by decide) (by decide) (by decide)) (fun j j0 j1 => hg.1 j (by omega) (by omega) (by omega) (by omega)) h2.2 h0.2
/-- what lies beside the reference's state -/
theorem rfv_fr {W : List (Nat × Option Int)} (hV : RFV N lw A im t w f M) (hf : fr W M M2) (hw : W.all (fun w => !(w.1 == 227) && (!(w.1 == 228) && (!(w.1 == 230) && (!(w.1 == 231) && (!(w.1 == 234) && (!(w.1 == 235) && !(w.1 == 226 && (w.2 == none || (w.2 == some 5 || (w.2 == some 6 || (w.2 == some 8 || (w.2 == some 13 || w.2 == some 26))))))))))))= true) : RFV N lw A im t w f M2 := by
  refine rfv_e hV (fun k j hk => ?_)
  refine hf k j (fun hm => ?_) (fun hm => ?_)
  · have := List.all_eq_true.mp hw _ hm
    unfold rK at hk
    simp only [Bool.and_eq_true, Bool.not_eq_true', beq_eq_false_iff_ne, ne_eq, Bool.and_eq_false_imp, beq_iff_eq, Bool.or_eq_false_iff] at this
    obtain ⟨g1, g2, g3, g4, g5, g6, g7⟩ := this
    have g7 : ¬ k = 226 := fun e => absurd (g7 e).1 (by simp)
    omega
  · have := List.all_eq_true.mp hw _ hm
    unfold rK at hk
    simp only [Bool.and_eq_true, Bool.not_eq_true', beq_eq_false_iff_ne, ne_eq, Bool.and_eq_false_imp, beq_iff_eq, Bool.or_eq_false_iff, Option.some.injEq] at this
    obtain ⟨g1, g2, g3, g4, g5, g6, g7⟩ := this
    rcases hk with h | h | h | h | h | h | ⟨h, h2⟩
    · exact g1 h
    · exact g2 h
    · exact g3 h
    · exact g4 h
    · exact g5 h
    · exact g6 h
    · obtain ⟨-, c1, c2, c3, c4, c5⟩ := g7 h
      omega
theorem rq_0 {r : Int × Int × (Int → Int) × List (Int → Int)} {c v : Int} (hr : r = (c, 0, N, A)) (hc : ¬ c = 0) (h0 : M 226 0 = c) (hV : RFV N lw A im t w f M) : RQ n K R r lw im t w f (.inl (some (gm_vi v))) n K R M := by
  subst hr
  exact ⟨⟨rfl, rfl, rfl⟩, ⟨v, rfl, fun e => absurd e hc⟩, h0, hV⟩
theorem rr_post {b : Int} {a : Int} (hd : 6 ≤ d) (hE : E0 n K R) (hG : GJ N) (hV : RFV N lw A im t w f M) (ha : gm_ir a) (hb : gm_ir b) : gm_Wp X LX d bc bs 315 0 (gm_ent 315 [gm_vr 226, gm_vi a, gm_vi b]) [] n K R M (RQ n K R (ap_post N A a b) lw im t w f) := by
  have h4 := hG.1.1.2.1.2.2.2.1
  refine ra_315 hd hE hV.1.1 hG.1.1 hV.1.2.2 ha hb (fun h M2 hf h0 => ?_) (fun h1 h2 h3 M2 hf h0 => ?_) (fun h1 h2 h3 h5 M2 hf h0 => ?_) (fun h1 h2 h3 h5 M2 hf hH hw h395 h8 h0 => ?_)
  · exact rq_0 (tif_t h) (by decide) h0 (rfv_fr hV hf (by decide))
  · exact rq_0 ((tif_f (fun hh => hh ⟨h1, h2⟩)).trans (tif_t h3)) (by decide) h0 (rfv_fr hV hf (by decide))
  · exact rq_0 ((tif_f (fun hh => hh ⟨h1, h2⟩)).trans ((tif_f h3).trans (tif_t h5))) (by decide) h0 (rfv_fr hV hf (by decide))
  · have er : ap_post N A a b = (0, N 4, nthr N a b ((N (95 + (a * 3 + 0)))) ((N (95 + (a * 3 + 1)))), (N :: A).take 12) := (tif_f (fun hh => hh ⟨h1, h2⟩)).trans ((tif_f h3).trans (tif_f (by omega)))
    rw [er]
    exact ⟨⟨rfl, rfl, rfl⟩, ⟨_, rfl, fun _ => rfl⟩, h0, rfv_up hV hG.1.1 (hgeo_thr h4.1) hw h395 h8 hH (kfr_e hV.2.1 (fr_j hf (by decide)) (fun j => fr_c hf (by decide))) (fun j hj => by rcases hj with rfl | rfl | rfl <;> exact fr_j hf (by decide)) (fun k j hk => by rcases hk with rfl | rfl | rfl <;> exact fr_c hf (by decide)) (lawr_b hV.1.2.1)⟩
theorem rr_watch (hd : 6 ≤ d) (hE : E0 n K R) (hG : GJ N) (hV : RFV N lw A im t w f M) (ha : gm_ir p) (hb : gm_ir l) : gm_Wp X LX d bc bs 317 0 (gm_ent 317 [gm_vr 226, gm_vi p, gm_vi l]) [] n K R M (RQ n K R (ap_watch N A p l) lw im t w f) := by
  refine ra_317 hd hE hV.1.1 hG.1.1 hV.1.2.2 ha hb (fun h M2 hf h0 => ?_) (fun h1 h2 M2 hf hH hw h395 h8 h0 => ?_)
  · exact rq_0 (tif_t h) (by decide) h0 (rfv_fr hV hf (by decide))
  · have er : ap_watch N A p l = (0, (N (95 + (p * 3 + 2))), nwat N p l, (N :: A).take 12) := tif_f (fun hh => hh ⟨h1, h2⟩)
    rw [er]
    exact ⟨⟨rfl, rfl, rfl⟩, ⟨_, rfl, fun _ => rfl⟩, h0, rfv_up hV hG.1.1 (hgeo_wat h1.1) hw h395 h8 hH (kfr_e hV.2.1 (fr_j hf (by decide)) (fun j => fr_c hf (by decide))) (fun j hj => by rcases hj with rfl | rfl | rfl <;> exact fr_j hf (by decide)) (fun k j hk => by rcases hk with rfl | rfl | rfl <;> exact fr_c hf (by decide)) (lawr_b hV.1.2.1)⟩
theorem rr_open (hd : 20 ≤ d) (hE : E0 n K R) (hT : jT fun j => M 227 (395 + j)) (hS6 : NSb 6 N) (hG : GJ N) (hV : RFV N lw A im t w f M) (hl : gm_ir l) : gm_Wp X LX d bc bs 318 0 (gm_ent 318 [gm_vr 226, gm_vi l]) [] n K R M (RQ n K R (ap_open lw N A l) lw im t w f) := by
  have h4 := hG.1.1.2.1.2.2.2.1
  have hLG := lawg_of hV.1.2.1 hT
  refine ra_318 (φ := aphi lw N (hts (N 13))) (FI := FIR (M 227) lw N (hts (N 13))) (o := aout N (hts (N 13)) (aphi lw N (hts (N 13)))) (dd := adp N (hts (N 13)) (aphi lw N (hts (N 13)))) hd hE hV.1.1 hG.1.1 hG.1.2.2 hV.1.2.2 (flr_a hE hLG hgeo_r hG.1.1 hG.1.1 hS6) ⟨hV.2.1, fun _ _ => rfl⟩ hl (fun _ => aout_s l) (fun h M2 hf h0 => ?_) (fun h1 hw M2 hf hI h0 => ?_) (fun h1 hw M1 M2 hI hf1 hf hH hws h395 h8 h0 => ?_)
  · exact rq_0 (tif_t h) (by decide) h0 (rfv_fr hV hf (by decide))
  · have er : ap_open lw N A l = (2, 0, N, A) := (tif_f (fun hh => hh h1)).trans (tif_t hw)
    refine rq_0 er (by decide) h0 ?_
    exact rfv_up hV hG.1.1 hgeo_r ((congrArg ws (funext fun j => fr_c hf (by decide))).trans hV.1.1.1) (fun j _ => fr_c hf (by decide)) (fr_c hf (by decide)) (hisr_w hV.1.2.2 hf (by decide)) hI.1 (fun j hj => by rcases hj with rfl | rfl | rfl <;> exact fr_j hf (by decide)) (fun k j hk => by rcases hk with rfl | rfl | rfl <;> exact fr_c hf (by decide)) (lawr_b hV.1.2.1)
  · have er : ap_open lw N A l = (0, N 9 - (N (119 + (l * 7 + 3))), nopn N l ((N (119 + (l * 7 + 1)))), (N :: A).take 12) := (tif_f (fun hh => hh h1)).trans (tif_f (fun hh => hh hw))
    rw [er]
    have h14 := logi_lt hG.1.1 hG.1.2.2 h1 hw.2.1
    have hg : geo N (nopn N l ((N (119 + (l * 7 + 1))))) := geo_nopn ⟨h1.1, by omega⟩ h14
    exact ⟨⟨rfl, rfl, rfl⟩, ⟨_, rfl, fun _ => rfl⟩, h0, rfv_up hV hG.1.1 (hgeo_g hg) hws h395 h8 hH (kfr_e hI.1 (fr_j hf1 (by decide)) (fun j => fr_c hf1 (by decide))) (fun j hj => by rcases hj with rfl | rfl | rfl <;> exact fr_j hf (by decide)) (fun k j hk => by rcases hk with rfl | rfl | rfl <;> exact fr_c hf (by decide)) (lawr_b hV.1.2.1)⟩
theorem rr_years (hd : 22 ≤ d) (hE : E0 n K R) (hT : jT fun j => M 227 (395 + j)) (hS6 : NSb 6 N) (hG : GJ N) (hV : RFV N lw A im t w f M) (hy : gm_ir y) : gm_Wp X LX d bc bs 320 0 (gm_ent 320 [gm_vr 226, gm_vi y]) [] n K R M (RQ n K R (ap_years lw N A y) lw im t w f) := by
  have hLG := lawg_of hV.1.2.1 hT
  refine ra_320 (φ := aphi lw N (hts (N 13))) (FI := FIR (M 227) lw N (hts (N 13))) (Ψ := fun N2 => apsi lw N2 (hts (N 13))) (o := aout N (hts (N 13)) (aphi lw N (hts (N 13)))) (dd := adp N (hts (N 13)) (aphi lw N (hts (N 13)))) hd hE hV.1.1 hG.1.1 hG.1.2.2 (fun N2 hg hN2 => flr_a hE hLG (hgeo_g hg) hG.1.1 hN2 (nsb_geo (hgeo_g hg) hG.1.1 hS6)) ⟨hV.2.1, fun _ _ => rfl⟩ (fun N2 hg hN2 => mor_a hE hLG hN2) (fun M1 M2 hI hf h395 h8 => ⟨kfr_e hI.1 (fr_c hf (by decide)) (fun j => fr_c hf (by decide)), fun j hj => by
    rcases hj with hj | rfl
    · exact (h395 j hj).trans (hI.2 j (Or.inl hj))
    · exact h8.trans (hI.2 8 (Or.inr rfl))⟩) (fun l _ _ => aout_s l) hV.1.2.2 hy (fun h M2 hf h0 => ?_) (fun h M2 hf hI hH hws h395 h8 h0 => ?_)
  · exact rq_0 (tif_t h) (by decide) h0 (rfv_fr hV hf (by decide))
  · have er : ap_years lw N A y = (0, (ap_yrs lw N y).2, (ap_yrs lw N y).1, (N :: A).take 12) := tif_f (fun hh => hh h)
    rw [er]
    have hh9 : N 9 + (y.toNat : Int) ≤ 299 := by omega
    obtain ⟨-, -, hg, -⟩ := yrs_i (Ψ := fun N2 => apsi lw N2 (hts (N 13))) (o := aout N (hts (N 13)) (aphi lw N (hts (N 13)))) (dd := adp N (hts (N 13)) (aphi lw N (hts (N 13)))) hG.1.1 hG.1.2.2 y.toNat hh9
    have hg : geo N (ap_yrs lw N y).1 := hg
    exact ⟨⟨rfl, rfl, rfl⟩, ⟨_, rfl, fun _ => rfl⟩, h0, rfv_up hV hG.1.1 (hgeo_g hg) hws h395 h8 hH hI.1 (fun j hj => by rcases hj with rfl | rfl | rfl <;> exact fr_j hf (by decide)) (fun k j hk => by rcases hk with rfl | rfl | rfl <;> exact fr_c hf (by decide)) (lawr_b hV.1.2.1)⟩
theorem rr_undo (hE : E0 n K R) (hG : GJ N) (hA : ∀ N1 ∈ A, GJ N1 ∧ hgeo N N1) (hV : RFV N lw A im t w f M) : gm_Wp X LX d bc bs 238 0 (gm_ent 238 [gm_vr 226]) [] n K R M (RC n K R (.inl (some (gm_vi (ap_undo N A).1))) (ap_undo N A).2.1 lw (ap_undo N A).2.2 im t w f) := by
  refine ud_c238 hE hV.1.2.2 (fun hA0 => ?_) (fun N0 A1 M2 hA0 hH hws h8 h395 h0 hf => ?_)
  · subst hA0
    exact ⟨⟨rfl, rfl, rfl⟩, rfl, rfv_fr hV (W := [((226 : Nat), some (0 : Int))]) (fr_p fr_0 (Or.inr (by decide))) (by decide)⟩
  · subst hA0
    exact ⟨⟨rfl, rfl, rfl⟩, rfl, rfv_up hV hG.1.1 (hA N0 List.mem_cons_self).2 hws h395 h8 hH (kfr_e hV.2.1 (fr_j hf (by decide)) (fun j => fr_c hf (by decide))) (fun j hj => by rcases hj with rfl | rfl | rfl <;> exact fr_j hf (by decide)) (fun k j hk => by rcases hk with rfl | rfl | rfl <;> exact fr_c hf (by decide)) (lawr_b hV.1.2.1)⟩
theorem rr_image (hE : E0 n K R) (hV : RFV N lw A im t w f M) : gm_Wp X LX d bc bs 236 0 (gm_ent 236 [gm_vr 226]) [] n K R M (RC n K R (.inl none) N lw A (some (N, lw)) t w f) := by
  refine ig_c236 hE (fun M2 hf h228 h5 h0 => ?_)
  have e7 : M2 227 = M 227 := funext fun j => fr_c hf (by decide)
  refine ⟨⟨rfl, rfl, rfl⟩, rfl, ⟨⟨by rw [e7]; exact hV.1.1.1, fun y y0 y1 => by rw [fr_c hf (by decide)]; exact hV.1.1.2 y y0 y1⟩, by rw [e7]; exact hV.1.2.1, by rw [e7]; exact hisr_w hV.1.2.2 hf (by decide)⟩, kfr_e hV.2.1 (fr_j hf (by decide)) (fun j => fr_c hf (by decide)), Or.inr ⟨h5, N, lw, rfl, (ws_ext (fun j j0 j1 => h228 j j0 (by omega))).trans hV.1.1.1, lawr_cg hV.1.2.1 (fun j hj h1 => h228 j (by omega) h1)⟩, ⟨(fr_j hf (by decide)).trans hV.2.2.2.1.1, (fr_j hf (by decide)).trans hV.2.2.2.1.2⟩, fun j j0 j1 => (fr_c hf (by decide)).trans (hV.2.2.2.2 j j0 j1)⟩
theorem hisr_nil {g8 : Int} (h : M 226 6 = 0) : HISR [] g8 M := ⟨⟨h, by decide⟩, fun i N1 hi => by simp at hi⟩
theorem kfr_new {φ : Int → Int → Int → Int} (h : M 226 26 = -1) (hb : ∀ j, 0 ≤ j → j < 29700 → 0 ≤ M 235 j ∧ M 235 j ≤ 31) : KFR N φ M := ⟨by rw [h]; decide, hb, fun r y h0 => by rw [h] at h0; exact absurd h0 (by decide)⟩
theorem rr_back (hd : 1 ≤ d) (hE : E0 n K R) (hV : RFV N lw A im t w f M) : gm_Wp X LX d bc bs 237 0 (gm_ent 237 [gm_vr 226]) [] n K R M (RC n K R (.inl (some (gm_vi (ap_back N lw A im).1))) (ap_back N lw A im).2.1 (ap_back N lw A im).2.2.1 (ap_back N lw A im).2.2.2 im t w f) := by
  rcases hV.2.2.1 with ⟨h5, hi⟩ | ⟨h5, NI, lI, hi, hc, hl⟩
  · subst hi
    exact bk_c237 (NI := N) hd hE (Or.inl h5) (fun h => absurd (h5.symm.trans h) (by decide)) (fun _ => ⟨⟨rfl, rfl, rfl⟩, rfl, rfv_fr hV (W := [((226 : Nat), some (0 : Int))]) (fr_p fr_0 (Or.inr (by decide))) (by decide)⟩) (fun h => absurd (h5.symm.trans h) (by decide))
  · subst hi
    refine bk_c237 (NI := NI) hd hE (Or.inr h5) (fun _ => hc) (fun h => absurd (h5.symm.trans h) (by decide)) (fun _ M2 hf hT h227 h1244 h26 h6 h0 => ?_)
    have e8 : M2 228 = M 228 := funext fun j => fr_c hf (by decide)
    exact ⟨⟨rfl, rfl, rfl⟩, rfl, ⟨hT, lawr_cg hl (fun j hj h1 => h227 j hj h1), hisr_nil h6⟩, kfr_new h26 (fun j j0 j1 => by rw [fr_c hf (by decide)]; exact hV.2.1.2.1 j j0 j1), Or.inr ⟨(fr_j hf (by decide)).trans h5, NI, lI, rfl, by rw [e8]; exact hc, by rw [e8]; exact hl⟩, ⟨(fr_j hf (by decide)).trans hV.2.2.2.1.1, (fr_j hf (by decide)).trans hV.2.2.2.1.2⟩, fun j j0 j1 => (fr_c hf (by decide)).trans (hV.2.2.2.2 j j0 j1)⟩
theorem rr_valley (hd : 14 ≤ d) (hE : E0 n K R) (hF : VF f t) (hf9 : M 231 = f) (hG : GJ N) (hV : RFV N lw A im t w f M) : gm_Wp X LX d bc bs 242 0 (gm_ent 242 [gm_vr 226]) [] n K R M (RV n K R (ap_valley f t N A).1 (ap_valley f t N A).2.1 (ap_valley f t N A).2.2.1 lw (ap_valley f t N A).2.2.2.1 im 0 (ap_valley f t N A).2.2.2.2 f) := by
  have hsame : ∀ {M2 : gm_M} {w2 : Int}, fr [((229 : Nat), none), ((226 : Nat), some (13 : Int)), ((226 : Nat), some (0 : Int)), ((226 : Nat), some (10 : Int)), ((226 : Nat), some (8 : Int)), ((226 : Nat), some (15 : Int)), ((226 : Nat), some (9 : Int)), ((226 : Nat), some (11 : Int)), ((227 : Nat), none)] M M2 → (∀ j, 0 ≤ j → j < 1244 → M2 227 j = M 227 j) → M2 226 13 = w2 → M2 226 8 = 0 → RFV N lw A im 0 w2 f M2 := fun {M2 w2} hf h227 h13 h8 => by
    have e8 : M2 228 = M 228 := funext fun j => fr_c hf (by decide)
    refine ⟨⟨⟨(ws_ext (fun j j0 j1 => h227 j j0 (by omega))).trans hV.1.1.1, fun y y0 y1 => by rw [fr_c hf (by decide)]; exact hV.1.1.2 y y0 y1⟩, lawr_cg hV.1.2.1 (fun j hj h1 => h227 j (by omega) h1), by rw [h227 8 (by decide) (by decide)]; exact hisr_w hV.1.2.2 hf (by decide)⟩, kfr_e hV.2.1 (fr_j hf (by decide)) (fun j => fr_c hf (by decide)), ?_, ⟨h8, h13⟩, fun j j0 j1 => (fr_c hf (by decide)).trans (hV.2.2.2.2 j j0 j1)⟩
    rw [fr_j (j := 5) hf (by decide), e8]
    exact hV.2.2.1
  refine rv_242 hd hE hF hf9 hV.2.2.2.1.1 hV.1.1 hG.1 (fun M2 hf h227 hv h13 h8 h0 => ?_) (fun M2 hf h227 hv h7 h13 h8 h0 => ?_) (fun M2 hf hv h7 hGI hT hB h13 h8 h0 h6 h26 => ?_)
  · have er : ap_valley f t N A = (1, 0, N, A, (v_val f t N).2.1) := tif_t hv
    rw [er]
    exact ⟨⟨rfl, rfl, rfl⟩, ⟨_, rfl, fun e => absurd (show (1 : Int) = 0 from e) (by decide)⟩, h0, hsame hf h227 h13 h8⟩
  · have er : ap_valley f t N A = (2, 0, N, A, -1) := (tif_f (fun hh => hh hv)).trans (tif_t h7)
    rw [er]
    exact ⟨⟨rfl, rfl, rfl⟩, ⟨_, rfl, fun e => absurd (show (2 : Int) = 0 from e) (by decide)⟩, h0, hsame hf h227 h13 h8⟩
  · have er : ap_valley f t N A = (0, N 7 + 1, nup (v_val f t N).2.2 7 (N 7 + 1), [], -1) := (tif_f (fun hh => hh hv)).trans (tif_f (by omega))
    rw [er]
    have e8 : M2 228 = M 228 := funext fun j => fr_c hf (by decide)
    refine ⟨⟨rfl, rfl, rfl⟩, ⟨_, rfl, fun _ => rfl⟩, h0, ⟨hT, lawr_cg hV.1.2.1 (fun j hj h1 => ?_), hisr_nil h6⟩, kfr_new h26 (fun j j0 j1 => by rw [fr_c hf (by decide)]; exact hV.2.1.2.1 j j0 j1), ?_, ⟨h8, h13⟩, fun j j0 j1 => (fr_c hf (by decide)).trans (hV.2.2.2.2 j j0 j1)⟩
    · rcases hj with hj | rfl
      · exact hB.1 j hj
      · exact hB.2
    · rw [fr_j (j := 5) hf (by decide), e8]
      exact hV.2.2.1
theorem rr_law (hd : 36 ≤ d) (hE : E0 n K R) (hF : VF f t) (hf9 : M 231 = f) (hV : RFV N lw A im t w f M) : gm_Wp X LX d bc bs 283 0 (gm_ent 283 [gm_vr 226]) [] n K R M (RV n K R (ap_law f t lw A).1 (ap_law f t lw A).2.1 N (ap_law f t lw A).2.2.1 (ap_law f t lw A).2.2.2.1 im 0 (ap_law f t lw A).2.2.2.2 f) := by
  refine rl_283 hd hE hF hf9 hV.2.2.2.1.1 hV.1.1 (fun M2 hf h227 hg h13 h8 h0 => ?_) (fun M2 hf hg hLR h395 h1 hT h13 h8 h0 h6 h26 => ?_)
  · have er : ap_law f t lw A = (1, 0, lw, A, (g_law f t).2) := tif_t hg
    rw [er]
    have e8 : M2 228 = M 228 := funext fun j => fr_c hf (by decide)
    refine ⟨⟨rfl, rfl, rfl⟩, ⟨_, rfl, fun e => absurd (show (1 : Int) = 0 from e) (by decide)⟩, h0, ⟨⟨(ws_ext (fun j j0 j1 => h227 j (by omega))).trans hV.1.1.1, fun y y0 y1 => by rw [fr_c hf (by decide)]; exact hV.1.1.2 y y0 y1⟩, lawr_cg hV.1.2.1 (fun j hj h1 => h227 j h1), by rw [h227 8 (by decide)]; exact hisr_w hV.1.2.2 hf (by decide)⟩, kfr_e hV.2.1 (fr_j hf (by decide)) (fun j => fr_c hf (by decide)), ?_, ⟨h8, h13⟩, fun j j0 j1 => (fr_c hf (by decide)).trans (hV.2.2.2.2 j j0 j1)⟩
    rw [fr_j (j := 5) hf (by decide), e8]
    exact hV.2.2.1
  · have er : ap_law f t lw A = (0, (g_law f t).2, some (s_law f t), [], -1) := tif_f (fun hh => hh hg)
    rw [er]
    have e8 : M2 228 = M 228 := funext fun j => fr_c hf (by decide)
    have hW := s_law_w hF.1.1 hg
    obtain ⟨r1, r2⟩ := hLR hW.1
    refine ⟨⟨rfl, rfl, rfl⟩, ⟨_, rfl, fun _ => rfl⟩, h0, ⟨hT, ⟨(fun e => nomatch e), fun ls e => ?_⟩, hisr_nil h6⟩, kfr_new h26 (fun j j0 j1 => by rw [fr_c hf (by decide)]; exact hV.2.1.2.1 j j0 j1), ?_, ⟨h8, h13⟩, fun j j0 j1 => (fr_c hf (by decide)).trans (hV.2.2.2.2 j j0 j1)⟩
    · cases e
      exact ⟨⟨h1, h395.trans (s_law_len hg).symm⟩, hW, r1, r2⟩
    · rw [fr_j (j := 5) hf (by decide), e8]
      exact hV.2.2.1
end RA9
end
/-! 7c10.rf -/
section
/-! FEED AND END of the reference upon the abstract state. -/
section RF10
variable {X : Int → Int} {LX d bc bs n : Nat} {K : gm_K} {R : gm_R} {M M2 : gm_M} {N : Int → Int} {lw : Option (List lln)} {A : List (Int → Int)} {im : Option ((Int → Int) × Option (List lln))} {t t2 w x : Int} {f f2 a : Int → Int}
theorem rfv_tape (hV : RFV N lw A im t w f M) (h8 : M2 226 8 = t2) (hf : ∀ j, 0 ≤ j → j < 400 → M2 231 j = f2 j) (e : ∀ k j, rK k j → ¬ k = 231 → ¬ (k = 226 ∧ j = 8) → M2 k j = M k j) : RFV N lw A im t2 w f2 M2 := by
  obtain ⟨⟨hT, hL, hH⟩, hk, hi, ht, -⟩ := hV
  have e7 : M2 227 = M 227 := funext fun j => e 227 j (by unfold rK; omega) (by omega) (by omega)
  have e8 : M2 228 = M 228 := funext fun j => e 228 j (by unfold rK; omega) (by omega) (by omega)
  refine ⟨⟨⟨by rw [e7]; exact hT.1, fun y y0 y1 => ?_⟩, by rw [e7]; exact hL, ?_⟩, kfr_e hk (e 226 26 (by unfold rK; omega) (by omega) (by omega)) (fun j => e 235 j (by unfold rK; omega) (by omega) (by omega)), ?_, ⟨h8, ?_⟩, hf⟩
  · rw [e 234 y (by unfold rK; omega) (by omega) (by omega)]
    exact hT.2 y y0 y1
  · rw [e7]
    exact hisr_e hH (e 226 6 (by unfold rK; omega) (by omega) (by omega)) (fun j => e 230 j (by unfold rK; omega) (by omega) (by omega))
  · rw [e 226 5 (by unfold rK; omega) (by omega) (by omega), e8]
    exact hi
  · rw [e 226 13 (by unfold rK; omega) (by omega) (by omega)]; exact ht.2
theorem ff_x {T : Int} {F V : Int → Int} {k : Nat} {j : Int} (h : rK k j) (h1 : ¬ k = 231) (h2 : ¬ (k = 226 ∧ j = 8)) : ff M T F V k j = M k j := by
  unfold rK at h
  unfold ff
  by_cases h3 : k = 226
  · rw [if_pos h3, if_neg (by omega), if_neg (by omega)]
  · rw [if_neg h3, if_neg h1, if_neg (by omega)]
theorem ff_231 {T : Int} {F V : Int → Int} {j : Int} : ff M T F V 231 j = F j := by unfold ff; rw [if_neg (by decide), if_pos rfl]
theorem rr_feed (hE : E0 n K R) (ht0 : 0 ≤ t ∧ t ≤ 400) (hV : RFV N lw A im t w f M) : gm_Wp X LX d bc bs 239 0 (gm_ent 239 [gm_vr 226, gm_vi (a 0), gm_vi (a 1), gm_vi (a 2), gm_vi (a 3), gm_vi (a 4)]) [] n K R M (RC n K R (.inl (some (gm_vi (ap_feed a t f).1))) N lw A im (ap_feed a t f).2.1 w (ap_feed a t f).2.2) := by
  have ht := hV.2.2.2.1.1
  refine fd_c239 (a := a) (e0k hE (k := 226) (c := 11) (by decide +kernel)) (e0a hE (k := 231) (q := ((1 : Nat), (400 : Nat))) (by decide +kernel)) (e0a hE (k := 232) (q := ((0 : Nat), (5 : Nat))) (by decide +kernel)) (e0r hE (k := 226) (j := 7) (r := 231) (by decide +kernel)) (e0r hE (k := 226) (j := 14) (r := 232) (by decide +kernel)) (by rw [ht]; exact ht0) (fun h => ?_) (fun V h => ?_)
  · rw [ht] at h
    have er : ap_feed a t f = (-1, t, f) := tif_t h
    rw [er]
    exact ⟨⟨rfl, rfl, rfl⟩, rfl, rfv_tape hV (ff_8.trans ht) (fun j j0 j1 => ff_231.trans (hV.2.2.2.2 j j0 j1)) (fun k j h1 h2 h3 => ff_x h1 h2 h3)⟩
  · rw [ht] at h
    have er : ap_feed a t f = (t + 20, t + 20, fdc a t 20 f) := tif_f (by omega)
    rw [er, ht]
    refine ⟨⟨rfl, rfl, rfl⟩, rfl, rfv_tape hV ff_8 (fun j j0 j1 => ff_231.trans ?_) (fun k j h1 h2 h3 => ff_x h1 h2 h3)⟩
    show fdc a t 20 (M 231) j = fdc a t 20 f j
    unfold fdc
    by_cases h9 : t ≤ j ∧ j < t + 20
    · rw [if_pos h9, if_pos h9]
    · rw [if_neg h9, if_neg h9]
      exact hV.2.2.2.2 j j0 j1
end RF10
end
/-! 7c11.gj -/
section
/-! WHAT THE ABSTRACT STATE ALWAYS IS stays by every act. -/
section GJ11
variable {N N' : Int → Int} {lw : Option (List lln)} {A : List (Int → Int)} {im : Option ((Int → Int) × Option (List lln))} {t w x y a b p l : Int} {f : Int → Int} {e : Int}
theorem ir_nup {i v : Int} (h : irN N) (hv : gm_ir v) : irN (nup N i v) := fun j => by
  unfold nup
  split
  · exact hv
  · exact h j
theorem tx_u_b {f : Int → Int} {e b : Int} : ∀ (n : Nat) (p v : Int), b ≤ p → (v = -1 ∨ (0 ≤ v ∧ ((p - b = 0 ∧ v < 1) ∨ (p - b = 1 ∧ v < 10) ∨ (p - b = 2 ∧ v < 100) ∨ (p - b = 3 ∧ v < 1000) ∨ (4 ≤ p - b ∧ v < 10000)))) → -1 ≤ tx_u f e 4 b n p v ∧ tx_u f e 4 b n p v ≤ 9999 := by
  intro n
  induction n with
  | zero =>
    intro p v hp hv
    show -1 ≤ v ∧ v ≤ 9999
    omega
  | succ n ih =>
    intro p v hp hv
    show -1 ≤ (if p < e ∧ tx_d f p = true then tx_u f e 4 b n (p + 1) (if p - b < 4 ∧ ¬ v = -1 then v * 10 + f p - 48 else -1) else v) ∧ (if p < e ∧ tx_d f p = true then tx_u f e 4 b n (p + 1) (if p - b < 4 ∧ ¬ v = -1 then v * 10 + f p - 48 else -1) else v) ≤ 9999
    by_cases h : p < e ∧ tx_d f p = true
    · rw [if_pos h]
      have hd := of_decide_eq_true h.2
      refine ih (p + 1) _ (by omega) ?_
      by_cases h2 : p - b < 4 ∧ ¬ v = -1
      · rw [if_pos h2]
        omega
      · rw [if_neg h2]
        exact Or.inl rfl
    · rw [if_neg h]
      omega
theorem tx_v_ir {f : Int → Int} {e b : Int} : gm_ir (tx_v f e 4 b) := by
  unfold tx_v
  split
  · exact ⟨by decide, by decide⟩
  split
  · exact ⟨by decide, by decide⟩
  split
  · have := tx_u_b (f := f) (e := e) (b := b) (e - b).toNat b 0 (Int.le_refl _) (Or.inr ⟨by decide, Or.inl ⟨by omega, by decide⟩⟩)
    exact ⟨by omega, by omega⟩
  · exact ⟨by decide, by decide⟩
theorem ir_s {v : Int} (h : 0 ≤ v ∧ v ≤ 300) : gm_ir (v + 1) := ⟨by omega, by omega⟩
theorem ir_thr {f9 t9 l9 r9 : Int} (h : irN N) (h4 : 0 ≤ N 4 ∧ N 4 ≤ 24) (hf : gm_ir f9) (ht : gm_ir t9) (hl : gm_ir l9) (hr : gm_ir r9) : irN (nthr N f9 t9 l9 r9) := by
  unfold nthr
  exact ir_nup (ir_nup (ir_nup (ir_nup (ir_nup (ir_nup (ir_nup (ir_nup h (ir_s ⟨h4.1, by omega⟩)) hf) ht) hl) (h 9)) hr) ⟨by decide, by decide⟩) ⟨by decide, by decide⟩
theorem ir_per {l9 r9 w9 : Int} (h : irN N) (h3 : 0 ≤ N 3 ∧ N 3 ≤ 8) (hl : gm_ir l9) (hr : gm_ir r9) (hw : gm_ir w9) : irN (nper N l9 r9 w9) := by
  unfold nper
  exact ir_nup (ir_nup (ir_nup (ir_nup h (ir_s ⟨h3.1, by omega⟩)) hl) hr) hw
theorem ir_opn (h : irN N) (h14 : 0 ≤ N 14 ∧ N 14 ≤ 24) (hl : gm_ir l) (hp : gm_ir p) : irN (nopn N l p) := by
  unfold nopn
  exact ir_nup (ir_nup (ir_nup (ir_nup (ir_nup (ir_nup h hp) (h 9)) (ir_s ⟨h14.1, by omega⟩)) (h 9)) hl) hp
theorem v_sp_ir : ∀ (t : Nat) (N : Int → Int) (a b : Int), irN N → irN (v_sp f e t N a b).2.2 := by
  intro t
  induction t with
  | zero => exact fun N a b h => h
  | succ t ih => exact fun N a b h => tif_i (C := fun q : Bool × Int × (Int → Int) => irN q.2.2) (ih _ _ _ (ir_nup h tx_v_ir)) h
theorem v_line_ir (h : irN N) (hR : NR N) : irN (v_line f e N b).2.2 := by
  have T : ∀ {P : Prop} {a c : Bool × Int × (Int → Int)}, irN a.2.2 → irN c.2.2 → irN (tif P a c).2.2 := fun {P a c} ha hc => tif_i (C := fun q : Bool × Int × (Int → Int) => irN q.2.2) ha hc
  have c2 := hR.2.1.1
  have c5 := hR.2.1.2.1
  have c3 := hR.2.1.2.2.1
  have c4 := hR.2.1.2.2.2.1
  have c6 := hR.2.1.2.2.2.2.1
  unfold v_line
  refine T ?_ (T ?_ (T ?_ (T ?_ (T ?_ (T ?_ (T ?_ (T ?_ (T ?_ (T ?_ h)))))))))
  · exact T (T (ir_nup (ir_nup h tx_v_ir) tx_v_ir) h) h
  · exact T (T (ir_nup (ir_nup h tx_v_ir) ⟨by decide, by decide⟩) h) h
  · exact T h (T (v_sp_ir _ _ _ _ (ir_nup (ir_nup h (ir_s ⟨c2.1, by omega⟩)) tx_v_ir)) h)
  · exact T (T (T (ir_nup (ir_nup h tx_v_ir) tx_v_ir) h) h) h
  · exact T (ir_nup h tx_v_ir) h
  · exact T (ir_nup h tx_v_ir) h
  · exact T h (T (T (T (ir_nup (ir_nup (ir_nup (ir_nup h (ir_s ⟨c5.1, by omega⟩)) tx_v_ir) tx_v_ir) tx_v_ir) h) h) h)
  · exact T h (T (T (T (T (ir_per h c3 tx_v_ir tx_v_ir tx_v_ir) h) (ir_per h c3 tx_v_ir tx_v_ir ⟨by decide, by decide⟩)) h) h)
  · exact T h (T (T (ir_thr h c4 ⟨by decide, by decide⟩ ⟨by decide, by decide⟩ tx_v_ir tx_v_ir) h) h)
  · exact T h (v_sp_ir _ _ _ _ (ir_nup h (ir_s ⟨c6.1, by omega⟩)))
theorem v_txt_ir : ∀ (t : Nat) (N : Int → Int) (b : Int), GJ N → 0 ≤ b ∧ b ≤ e → (v_txt f e t N b).1 = true → irN (v_txt f e t N b).2.2 := by
  intro t
  induction t with
  | zero => exact fun N b _ _ h => by cases h
  | succ t ih =>
    intro N b h hb ht
    have q := v_line_b (f := f) (N := N) hb
    by_cases h1 : (v_line f e N b).1 = true
    · by_cases h2 : tx_k f e (v_line f e N b).2.1 = 256
      · rw [show v_txt f e (t + 1) N b = v_line f e N b by show tif _ _ _ = _; rw [tif_t h1, tif_t h2]]
        exact v_line_ir h.2 h.1.1
      · by_cases h3 : tx_k f e (v_line f e N b).2.1 = 59
        · rw [show v_txt f e (t + 1) N b = v_txt f e t (v_line f e N b).2.2 (tx_n f e (v_line f e N b).2.1) by show tif _ _ _ = _; rw [tif_t h1, tif_f h2, tif_t h3]] at ht ⊢
          have n1 := tx_nb (f := f) q.2
          exact ih _ _ ⟨v_line_g h.1 hb h1, v_line_ir h.2 h.1.1⟩ ⟨by omega, n1.2.1⟩ ht
        · rw [show v_txt f e (t + 1) N b = (false, (v_line f e N b).2.1, N) by show tif _ _ _ = _; rw [tif_t h1, tif_f h2, tif_f h3]] at ht
          cases ht
    · rw [show v_txt f e (t + 1) N b = (false, (v_line f e N b).2.1, N) from tif_f h1] at ht
      cases ht
theorem v_val_ir (h : GJ N) (he : 0 ≤ e) (ht : (v_val f e N).1 = true) : irN (v_val f e N).2.2 := by
  obtain ⟨g1, g2, -⟩ := tx_gb (f := f) he
  by_cases h1 : tx_k f e (tx_g f e 0) = 256
  · rw [show v_val f e N = (true, tx_g f e 0, N) from tif_t h1]
    exact h.2
  · rw [show v_val f e N = v_txt f e 14 N (tx_g f e 0) from tif_f h1] at ht ⊢
    exact v_txt_ir _ _ _ h ⟨g1, g2⟩ ht
theorem ym_ir {Ψ : (Int → Int) → Int → Int → Int → Int → Prop} {o dd : Int → Int} (hN : NR N) (hg : LOGI N) (hi : irN N) {s0 : Int} (h0 : 0 ≤ s0) : ∀ k : Nat, (k : Int) ≤ N 4 → irN (yrun Ψ o dd (N, s0) k).1 := by
  intro k
  induction k with
  | zero => exact fun _ => hi
  | succ k ih =>
    intro hk
    obtain ⟨i1, i2, i3, i4, -⟩ := ym_i (Ψ := Ψ) (o := o) (dd := dd) hN hg h0 k (by omega)
    have i := ih (by omega)
    have h4 := hN.2.1.2.2.2.1
    show irN (ystep Ψ o dd (k : Int) (yrun Ψ o dd (N, s0) k)).1
    generalize yrun Ψ o dd (N, s0) k = s at i i1 i2 i4 ⊢
    unfold ystep
    by_cases hw : WTS s.1 (k : Int) (o (k : Int)) ∧ ¬ opf s.1 (Ψ s.1) (k : Int) (dd (k : Int)) = -1
    · rw [tif_t hw]
      have hk4 : (0 : Int) ≤ (k : Int) ∧ (k : Int) < s.1 4 := by rw [i4]; omega
      have hr : 0 ≤ (s.1 (119 + ((k : Int) * 7 + 0))) := by
        have := (i1.2.2.2.2 (k : Int) hk4.1 hk4.2).1
        have := hw.1.1
        omega
      have hb := opf_b (ψ := Ψ s.1) (dp := dd (k : Int)) i1 hk4 hr
      have h3 := i1.2.1.2.2.1
      exact ir_opn i i1.2.1.2.2.2.2.2.1 ⟨by omega, by omega⟩ ⟨by omega, by omega⟩
    · rw [tif_f hw]
      exact i
theorem yrs_ir {Ψ : (Int → Int) → Int → Int → Int → Int → Prop} {o dd : Int → Int} (hN : NR N) (hg : LOGI N) (hi : irN N) : ∀ k : Nat, N 9 + (k : Int) ≤ 299 → irN (yrs Ψ o dd (N, 0) k).1 := by
  intro k
  induction k with
  | zero => exact fun _ => hi
  | succ k ih =>
    intro hk
    obtain ⟨i1, i2, i3, i4, i5, i6, i7⟩ := yrs_i (Ψ := Ψ) (o := o) (dd := dd) hN hg k (by omega)
    have i := ih (by omega)
    show irN (yrun Ψ o dd (nyr (yrs Ψ o dd (N, 0) k).1, 0) ((yrs Ψ o dd (N, 0) k).1 4).toNat).1
    have h9 := hN.1.2.2.2.2.2
    have h4 := i1.2.1.2.2.2.1
    have e4 : nyr (yrs Ψ o dd (N, 0) k).1 4 = (yrs Ψ o dd (N, 0) k).1 4 := nup_ne (by decide)
    refine ym_ir (nr_nyr i1 (by omega)) (logi_nyr i2) ?_ (Int.le_refl 0) _ (by rw [e4]; omega)
    unfold nyr
    exact ir_nup i ⟨by omega, by omega⟩
/-- one more is remembered -/
theorem ra_take (hG : GJ N) (hA : ∀ N1 ∈ A, GJ N1 ∧ hgeo N N1) (hg : hgeo N N') : ∀ N1 ∈ (N :: A).take 12, GJ N1 ∧ hgeo N' N1 := fun N1 h => by
  rcases List.mem_cons.mp (List.mem_of_mem_take h) with rfl | h
  · exact ⟨hG, hgeo_s hg⟩
  · exact ⟨(hA N1 h).1, hgeo_t (hgeo_s hg) (hA N1 h).2⟩
theorem ra_post (h : RA N lw A im t w f) (ha : gm_ir a) (hb : gm_ir b) : RA (ap_post N A a b).2.2.1 lw (ap_post N A a b).2.2.2 im t w f := by
  obtain ⟨hG, hL, hA, hrest⟩ := h
  unfold ap_post
  by_cases h1 : ¬ ((0 ≤ a ∧ a < N 3) ∧ (0 ≤ b ∧ b < N 3))
  · rw [tif_t h1]; exact ⟨hG, hL, hA, hrest⟩
  rw [tif_f h1]
  by_cases h2 : a = b
  · rw [tif_t h2]; exact ⟨hG, hL, hA, hrest⟩
  rw [tif_f h2]
  by_cases h3 : N 4 = 24
  · rw [tif_t h3]; exact ⟨hG, hL, hA, hrest⟩
  rw [tif_f h3]
  have h1 := Classical.not_not.mp h1
  have h4 := hG.1.1.2.1.2.2.2.1
  have hP := hG.1.1.2.2.2.1 a h1.1.1 h1.1.2
  exact ⟨⟨gi_nthr hG.1 (by omega) ⟨by omega, h1.1.2⟩ ⟨by omega, h1.2.2⟩ hP.1 hP.2.1 (fun _ => h1.2.1), ir_thr hG.2 h4 ha hb (hG.2 _) (hG.2 _)⟩, hL, ra_take hG hA (hgeo_thr h4.1), hrest⟩
theorem ra_watch (h : RA N lw A im t w f) (hl : gm_ir l) : RA (ap_watch N A p l).2.2.1 lw (ap_watch N A p l).2.2.2 im t w f := by
  obtain ⟨hG, hL, hA, hrest⟩ := h
  unfold ap_watch
  by_cases h1 : ¬ ((0 ≤ p ∧ p < N 3) ∧ (l = -1 ∨ (0 ≤ l ∧ l < N 0)))
  · rw [tif_t h1]; exact ⟨hG, hL, hA, hrest⟩
  rw [tif_f h1]
  have h1 := Classical.not_not.mp h1
  have h0 := hG.1.1.1.1
  refine ⟨⟨gi_nwat hG.1 h1.1 ⟨by omega, by omega⟩, ?_⟩, hL, ra_take hG hA (hgeo_wat h1.1.1), hrest⟩
  show irN (nwat N p l)
  unfold nwat
  exact ir_nup hG.2 hl
theorem ra_open (h : RA N lw A im t w f) : RA (ap_open lw N A l).2.2.1 lw (ap_open lw N A l).2.2.2 im t w f := by
  obtain ⟨hG, hL, hA, hrest⟩ := h
  unfold ap_open
  by_cases h1 : ¬ (0 ≤ l ∧ l < N 4)
  · rw [tif_t h1]; exact ⟨hG, hL, hA, hrest⟩
  rw [tif_f h1]
  by_cases h2 : ¬ WTS N l (aout N (hts (N 13)) (aphi lw N (hts (N 13))) l)
  · rw [tif_t h2]; exact ⟨hG, hL, hA, hrest⟩
  rw [tif_f h2]
  have h1 := Classical.not_not.mp h1
  have h2 := Classical.not_not.mp h2
  have h4 := hG.1.1.2.1.2.2.2.1
  have h3 := hG.1.1.2.1.2.2.1
  have hB := hG.1.1.2.2.2.2 l h1.1 h1.2
  have h14 := logi_lt hG.1.1 hG.1.2.2 h1 h2.2.1
  have hl24 : 0 ≤ l ∧ l < 24 := ⟨h1.1, by omega⟩
  have w0 := h2.1
  have hp : 0 ≤ (N (119 + (l * 7 + 1))) ∧ (N (119 + (l * 7 + 1))) < N 3 := ⟨hB.2.2.2.2.2.2.2 (by omega), hB.2.1.2⟩
  have hg : geo N (nopn N l ((N (119 + (l * 7 + 1))))) := geo_nopn hl24 h14
  exact ⟨⟨⟨nr_nopn hG.1.1 h1 h14 hp, ns_geo hg hG.1.1 hG.1.2.1, logi_nopn hG.1.1 hG.1.2.2 h1 h2.2.1 (by omega)⟩, ir_opn hG.2 ⟨h14.1, by omega⟩ ⟨by omega, by omega⟩ (hG.2 _)⟩, hL, ra_take hG hA (hgeo_g hg), hrest⟩
theorem ra_years (h : RA N lw A im t w f) : RA (ap_years lw N A y).2.2.1 lw (ap_years lw N A y).2.2.2 im t w f := by
  obtain ⟨hG, hL, hA, hrest⟩ := h
  unfold ap_years
  by_cases h1 : ¬ (1 ≤ y ∧ y ≤ 50 ∧ y ≤ 299 - N 9)
  · rw [tif_t h1]; exact ⟨hG, hL, hA, hrest⟩
  rw [tif_f h1]
  have h1 := Classical.not_not.mp h1
  have hh9 : N 9 + (y.toNat : Int) ≤ 299 := by omega
  obtain ⟨i1, i2, hg, -⟩ := yrs_i (Ψ := fun N2 => apsi lw N2 (hts (N 13))) (o := aout N (hts (N 13)) (aphi lw N (hts (N 13)))) (dd := adp N (hts (N 13)) (aphi lw N (hts (N 13)))) hG.1.1 hG.1.2.2 y.toNat hh9
  have ii := yrs_ir (Ψ := fun N2 => apsi lw N2 (hts (N 13))) (o := aout N (hts (N 13)) (aphi lw N (hts (N 13)))) (dd := adp N (hts (N 13)) (aphi lw N (hts (N 13)))) hG.1.1 hG.1.2.2 hG.2 y.toNat hh9
  exact ⟨⟨⟨i1, ns_geo hg hG.1.1 hG.1.2.1, i2⟩, ii⟩, hL, ra_take hG hA (hgeo_g hg), hrest⟩
theorem ra_undo (h : RA N lw A im t w f) : RA (ap_undo N A).2.1 lw (ap_undo N A).2.2 im t w f := by
  obtain ⟨hG, hL, hA, hrest⟩ := h
  cases A with
  | nil => exact ⟨hG, hL, hA, hrest⟩
  | cons N0 A1 =>
    have h0 := hA N0 List.mem_cons_self
    exact ⟨h0.1, hL, fun N1 h1 => ⟨(hA N1 (List.mem_cons_of_mem _ h1)).1, hgeo_t (hgeo_s h0.2) (hA N1 (List.mem_cons_of_mem _ h1)).2⟩, hrest⟩
theorem ra_image (h : RA N lw A im t w f) : RA N lw A (some (N, lw)) t w f := by
  obtain ⟨hG, hL, hA, hi, hrest⟩ := h
  refine ⟨hG, hL, hA, fun NI lI e => ?_, hrest⟩
  cases e
  exact ⟨hG, hL⟩
theorem ra_back (h : RA N lw A im t w f) : RA (ap_back N lw A im).2.1 (ap_back N lw A im).2.2.1 (ap_back N lw A im).2.2.2 im t w f := by
  obtain ⟨hG, hL, hA, hi, hrest⟩ := h
  cases im with
  | none => exact ⟨hG, hL, hA, hi, hrest⟩
  | some q =>
    obtain ⟨g1, g2⟩ := hi q.1 q.2 rfl
    exact ⟨g1, g2, (fun N1 h1 => nomatch h1), hi, hrest⟩
theorem ra_valley (h : RA N lw A im t w f) : RA (ap_valley f t N A).2.2.1 lw (ap_valley f t N A).2.2.2.1 im 0 (ap_valley f t N A).2.2.2.2 f := by
  obtain ⟨hG, hL, hA, hi, ht, hw, hf⟩ := h
  unfold ap_valley
  by_cases h1 : ¬ (v_val f t N).1 = true
  · rw [tif_t h1]
    have := v_val_b (f := f) (N := N) ht.1
    exact ⟨hG, hL, hA, hi, ⟨by decide, by decide⟩, ⟨by show -1 ≤ (v_val f t N).2.1; omega, by show (v_val f t N).2.1 ≤ 400; omega⟩, hf⟩
  rw [tif_f h1]
  by_cases h2 : N 7 = 12
  · rw [tif_t h2]
    exact ⟨hG, hL, hA, hi, ⟨by decide, by decide⟩, (show (-1 : Int) ≤ -1 ∧ (-1 : Int) ≤ 400 from ⟨by decide, by decide⟩), hf⟩
  rw [tif_f h2]
  have h1 := Classical.not_not.mp h1
  have h7 := hG.1.1.2.1.2.2.2.2.2.2.1
  exact ⟨⟨gi_7 (v_val_g hG.1 ht.1 h1) ⟨by omega, by omega⟩, ir_nup (v_val_ir hG ht.1 h1) ⟨by omega, by omega⟩⟩, hL, (fun N1 h => nomatch h), hi, ⟨by decide, by decide⟩, (show (-1 : Int) ≤ -1 ∧ (-1 : Int) ≤ 400 from ⟨by decide, by decide⟩), hf⟩
theorem ra_law (h : RA N lw A im t w f) : RA N (ap_law f t lw A).2.2.1 (ap_law f t lw A).2.2.2.1 im 0 (ap_law f t lw A).2.2.2.2 f := by
  obtain ⟨hG, hL, hA, hi, ht, hw, hf⟩ := h
  obtain ⟨b0, b1, b2⟩ := g_law_b (f := f) (e := t) ht.1
  unfold ap_law
  by_cases h1 : ¬ (g_law f t).1 = true
  · rw [tif_t h1]
    have b2 := b2 h1
    exact ⟨hG, hL, hA, hi, ⟨by decide, by decide⟩, ⟨by show -1 ≤ (g_law f t).2; omega, by show (g_law f t).2 ≤ 400; omega⟩, hf⟩
  rw [tif_f h1]
  have h1 := Classical.not_not.mp h1
  refine ⟨hG, fun ls e => ?_, (fun N1 h => nomatch h), hi, ⟨by decide, by decide⟩, (show (-1 : Int) ≤ -1 ∧ (-1 : Int) ≤ 400 from ⟨by decide, by decide⟩), hf⟩
  cases e
  exact s_law_w ht.1 h1
theorem ra_feed {a : Int → Int} (h : RA N lw A im t w f) : RA N lw A im (ap_feed a t f).2.1 w (ap_feed a t f).2.2 := by
  obtain ⟨hG, hL, hA, hi, ht, hw, hf⟩ := h
  unfold ap_feed
  by_cases h1 : 381 ≤ t
  · rw [tif_t h1]; exact ⟨hG, hL, hA, hi, ht, hw, hf⟩
  rw [tif_f h1]
  refine ⟨hG, hL, hA, hi, (show 0 ≤ t + 20 ∧ t + 20 ≤ 400 from ⟨by omega, by omega⟩), hw, fun j j0 j1 => ?_⟩
  show -128 ≤ fdc a t 20 f j ∧ fdc a t 20 f j ≤ 127
  unfold fdc
  split
  · exact fb_ir
  · exact hf j j0 j1
theorem ra_end (h : RA N lw A im t w f) : RA N lw A im (ap_end x t).2 w f := by
  obtain ⟨hG, hL, hA, hi, ht, hw, hf⟩ := h
  unfold ap_end
  by_cases h1 : x < 0 ∨ t < x
  · rw [tif_t h1]; exact ⟨hG, hL, hA, hi, ht, hw, hf⟩
  rw [tif_f h1]
  exact ⟨hG, hL, hA, hi, ⟨by omega, by omega⟩, hw, hf⟩
end GJ11
end
/-! 7c12.dt -/
section
/-! ONE HEAP TOLD TWICE: what the class and the reference hold, by the row's numbers. -/
section DT12
variable {n n2 : Nat} {K1 K2 : gm_K} {R2 : gm_R} {M1 M2 : gm_M} {N : Int → Int} {lw : Option (List lln)} {A : List (Int → Int)} {im : Option ((Int → Int) × Option (List lln))} {t w : Int} {f : Int → Int}
/-- the numbers of an array, of an object's field, by the types -/
noncomputable def tyA (k len : Nat) : Bool := ((p2_O.1 k == some (0, len)) || (p2_O.1 k == some (1, len))) && (gm_tyr p2_O k 0 ((len : Int) - 1)).isSome
noncomputable def tyF (k c j : Nat) : Bool := (p2_O.1 k == some (c + 4, 0)) && (decide (j < gm_nf c) && (!gm_isr c j && (gm_tyr p2_O k (j : Int) (j : Int)).isSome))
theorem dw_x {x y : Int} (h : Int32.ofInt x = Int32.ofInt y) (hy : gm_ir y) : y = gm_w x := by
  have := dt_w h
  rw [this]
  exact (gm_w_id hy.1 hy.2).symm
theorem dw_i {x : Int} (h : gm_ir x) : gm_w x = x := gm_w_id h.1 h.2
theorem dw_a {k len : Nat} {j : Int} (hd : dt_m n K1 M1 K2 M2) (hn : 245 ≤ n) (hK : ∀ k, 1 ≤ k → k ≤ n → K1 k = K2 k) (hF : gm_Fx p2_O n2 K2 R2 M2) (hb : tyA k len = true) (j0 : 0 ≤ j) (j1 : j < (len : Int)) : M2 k j = gm_w (M1 k j) := by
  simp only [tyA, Bool.and_eq_true, Bool.or_eq_true, beq_iff_eq] at hb
  obtain ⟨hq, hs⟩ := hb
  obtain ⟨q, hs⟩ := Option.isSome_iff_exists.mp hs
  have hir := ((gm_tyr_s hF hs).2 j j0 (by omega)).1
  obtain ⟨u, rfl⟩ : ∃ u : Nat, j = (u : Int) := ⟨j.toNat, by omega⟩
  have hk : (1 ≤ k ∧ k ≤ 245) ∧ (K2 k = (0, len) ∨ K2 k = (1, len)) := by
    rcases hq with hq | hq
    · have := bg_O1 hq
      exact ⟨⟨(hF.1 k _ hq).1, by omega⟩, Or.inl (hF.1 k _ hq).2.2⟩
    · have := bg_O1 hq
      exact ⟨⟨(hF.1 k _ hq).1, by omega⟩, Or.inr (hF.1 k _ hq).2.2⟩
  have e := hK k hk.1.1 (by omega)
  refine dw_x ((hd k hk.1.1 (by omega) e).1 ?_ u ?_) hir
  · rw [e]
    rcases hk.2 with h | h <;> rw [h]
    · exact Or.inl rfl
    · exact Or.inr rfl
  · rw [e]
    rcases hk.2 with h | h <;> rw [h] <;> show u < len <;> omega
theorem dw_f {k c j : Nat} (hd : dt_m n K1 M1 K2 M2) (hn : 245 ≤ n) (hK : ∀ k, 1 ≤ k → k ≤ n → K1 k = K2 k) (hF : gm_Fx p2_O n2 K2 R2 M2) (hb : tyF k c j = true) : M2 k (j : Int) = gm_w (M1 k (j : Int)) := by
  simp only [tyF, Bool.and_eq_true, beq_iff_eq, decide_eq_true_eq, Bool.not_eq_true'] at hb
  obtain ⟨hq, hj, hr, hs⟩ := hb
  obtain ⟨q, hs⟩ := Option.isSome_iff_exists.mp hs
  have hir := ((gm_tyr_s hF hs).2 (j : Int) (Int.le_refl _) (Int.le_refl _)).1
  have hk := bg_O1 hq
  obtain ⟨k1, k2, k3⟩ := hF.1 k _ hq
  have e := hK k k1 (by omega)
  exact dw_x ((hd k k1 (by omega) e).2.2 c j (by rw [e, k3]) hj (by rw [hr]; decide)) hir
/-- a State's cells -/
noncomputable def blk (b : Nat) : Bool := (List.range 8).all (fun j => tyF b 1 j) && ((tyF (b + 1) 2 3 && (tyF (b + 3) 2 3 && (tyF (b + 5) 2 3 && (tyF (b + 7) 2 3 && (tyF (b + 9) 2 3 && tyF (b + 11) 2 3))))) && (tyA (b + 2) 56 && (tyA (b + 4) 24 && (tyA (b + 6) 24 && (tyA (b + 8) 168 && (tyA (b + 10) 36 && tyA (b + 12) 72))))))
theorem cs_dt {b : Nat} (hd : dt_m n K1 M1 K2 M2) (hn : 245 ≤ n) (hK : ∀ k, 1 ≤ k → k ≤ n → K1 k = K2 k) (hF : gm_Fx p2_O n2 K2 R2 M2) (hb : blk b = true) (hc : cs M1 b = N) (hi : irN N) : cs M2 b = N := by
  simp only [blk, Bool.and_eq_true] at hb
  obtain ⟨hf, ⟨s1, s3, s5, s7, s9, s11⟩, a2, a4, a6, a8, a10, a12⟩ := hb
  have ff : ∀ j : Nat, j < 8 → M2 b (j : Int) = gm_w (M1 b (j : Int)) := fun j hj => dw_f hd hn hK hF (List.all_eq_true.mp hf j (List.mem_range.mpr hj))
  have key : ∀ i, (0 ≤ i ∧ i < 395 ∧ ¬ i = 8) → M2 (b + (pl i).1) (pl i).2 = gm_w (M1 (b + (pl i).1) (pl i).2) := fun i h => by
    rcases pl_cases h with h | h | h | h | h | h | h | h | h | h | h | h | h | h | h | h | h | h | h | h
    · subst h; exact ff 0 (by decide)
    · subst h; exact ff 1 (by decide)
    · subst h; exact dw_f hd hn hK hF s1
    · subst h; exact dw_f hd hn hK hF s5
    · subst h; exact dw_f hd hn hK hF s7
    · subst h; exact dw_f hd hn hK hF s3
    · subst h; exact dw_f hd hn hK hF s9
    · subst h; exact ff 7 (by decide)
    · subst h; exact ff 6 (by decide)
    · subst h; exact ff 2 (by decide)
    · subst h; exact ff 3 (by decide)
    · subst h; exact ff 4 (by decide)
    · subst h; exact ff 5 (by decide)
    · subst h; exact dw_f hd hn hK hF s11
    · rw [pl_2 h]; exact dw_a hd hn hK hF a2 (by show 0 ≤ i - 15; omega) (by show i - 15 < 56; omega)
    · rw [pl_4 h]; exact dw_a hd hn hK hF a4 (by show 0 ≤ i - 71; omega) (by show i - 71 < 24; omega)
    · rw [pl_6 h]; exact dw_a hd hn hK hF a6 (by show 0 ≤ i - 95; omega) (by show i - 95 < 24; omega)
    · rw [pl_8 h]; exact dw_a hd hn hK hF a8 (by show 0 ≤ i - 119; omega) (by show i - 119 < 168; omega)
    · rw [pl_10 h]; exact dw_a hd hn hK hF a10 (by show 0 ≤ i - 287; omega) (by show i - 287 < 36; omega)
    · rw [pl_12 h]; exact dw_a hd hn hK hF a12 (by show 0 ≤ i - 323; omega) (by show i - 323 < 72; omega)
  funext i
  by_cases h : 0 ≤ i ∧ i < 395 ∧ ¬ i = 8
  · rw [cs_pl h, key i h, ← cs_pl (M := M1) (b := b) h, hc]
    exact dw_i (hi i)
  · rw [← hc, cs_no h, cs_no h]
theorem blk_h : (List.range 12).all (fun p => blk (44 + 13 * p)) = true := by decide +kernel
theorem blk_3 : blk 3 = true ∧ blk 29 = true := by decide +kernel
theorem dt_c1 : tyF 1 0 1 = true ∧ tyF 1 0 2 = true ∧ tyF 1 0 6 = true ∧ tyF 1 0 15 = true := by decide +kernel
theorem dt_c2 : tyF 42 3 1 = true ∧ tyF 42 3 2 = true ∧ tyF 200 4 6 = true ∧ tyF 220 2 3 = true := by decide +kernel
theorem dt_c3 : tyA 2 400 = true ∧ tyA 201 300 = true ∧ tyA 202 594 = true ∧ tyA 203 300 = true ∧ tyA 221 48 = true := by decide +kernel
theorem dt_c4 : p2_O.1 205 = some (2, 14850) := by decide +kernel
theorem fld_cg {x y s : Int} (h : Int64.ofInt x = Int64.ofInt y) : fld x s = fld y s := by unfold fld ll_ushr; rw [h]
theorem outr_w {h : Int → Int} {φ : Int → Int → Int → Int} {l o d : Int} (hN : NR N) (hφ : ∀ l r y, 0 ≤ φ l r y ∧ φ l r y ≤ 30) (hh : ∀ y, 0 ≤ y → y < 300 → 0 ≤ h y ∧ h y ≤ 9) (hl : 0 ≤ l ∧ l < N 4) (ho : OUTR N h φ l o d) : OUTR N h φ l (gm_w o) (gm_w d) := by
  obtain ⟨b0, b1, b2, b3, b4, -⟩ := hN.2.2.2.2 l hl.1 hl.2
  have b9 := hN.1.2.2.2.2.2
  have b1' := hN.1.2.1
  have ob := OUTR_b ho b3.1
  have e : gm_w o = o := gm_w_id (by omega) (by omega)
  rw [e]
  rcases ho with ho | ⟨j, h1, h2, h3, h4, h5⟩
  · exact Or.inl ho
  · refine Or.inr ⟨j, h1, h2, h3, h4, ?_⟩
    have := (nwy_b (lane := (N (119 + (l * 7 + 2)))) (rock := (if (N (119 + (l * 7 + 0))) = -1 then 1 else 0)) (wo := -1) hN hφ hh b3.1 (r0 := (N (119 + (l * 7 + 4)))) ⟨b4.1, by omega⟩ j (by omega)).2
    rw [h5]
    exact gm_w_id (by omega) (by omega)
theorem clv_dt (hd : dt_m n K1 M1 K2 M2) (hn : 245 ≤ n) (hK : ∀ k, 1 ≤ k → k ≤ n → K1 k = K2 k) (hF : gm_Fx p2_O n2 K2 R2 M2) (hR : RA N lw A im t w f) (hV : CLV N lw A im t w f M1) : CLV N lw A im t w f M2 := by
  obtain ⟨hG, hL, hA, hI, ht9, hw9, hf9⟩ := hR
  obtain ⟨⟨hT, hH⟩, h15, hk, hi, ht, hf⟩ := hV
  have e1 : ∀ j : Nat, (j = 1 ∨ j = 2 ∨ j = 6 ∨ j = 15) → M2 1 (j : Int) = gm_w (M1 1 (j : Int)) := fun j hj => by
    rcases hj with rfl | rfl | rfl | rfl
    · exact dw_f hd hn hK hF dt_c1.1
    · exact dw_f hd hn hK hF dt_c1.2.1
    · exact dw_f hd hn hK hF dt_c1.2.2.1
    · exact dw_f hd hn hK hF dt_c1.2.2.2
  have e15 : M2 1 15 = gm_w (M1 1 15) := e1 15 (by decide)
  have e6 : M2 1 6 = gm_w (M1 1 6) := e1 6 (by decide)
  have e11 : M2 1 1 = gm_w (M1 1 1) := e1 1 (by decide)
  have e12 : M2 1 2 = gm_w (M1 1 2) := e1 2 (by decide)
  have e200 : M2 200 6 = gm_w (M1 200 6) := dw_f hd hn hK hF dt_c2.2.2.1
  have e421 : M2 42 1 = gm_w (M1 42 1) := dw_f hd hn hK hF dt_c2.1
  have e422 : M2 42 2 = gm_w (M1 42 2) := dw_f hd hn hK hF dt_c2.2.1
  have e220 : M2 220 3 = gm_w (M1 220 3) := dw_f hd hn hK hF dt_c2.2.2.2
  refine ⟨⟨⟨cstF hF, cs_dt hd hn hK hF blk_3.1 hT.2.1 hG.2, fun y y0 y1 => ?_, fun l r l0 l1 r0 r1 => ?_⟩, ?_⟩, ?_, fun hlw => ?_, ?_, ⟨?_, ?_⟩, fun j j0 j1 => ?_⟩
  · obtain ⟨b1, b2, b3, b4⟩ := hT.2.2.1 y y0 y1
    rw [dw_a hd hn hK hF dt_c3.2.1 y0 (by omega), dw_a hd hn hK hF dt_c3.2.2.2.1 y0 (by omega), b1, dw_i b3, dw_i ⟨by omega, by omega⟩]
    exact ⟨rfl, b2, b3, b4⟩
  · have := spd_b hG.1.1 hG.1.2.1 (r := r) l0
    rw [dw_a hd hn hK hF dt_c3.2.2.1 (by omega) (by omega), hT.2.2.2 l r l0 l1 r0 r1]
    exact dw_i ⟨by omega, by omega⟩
  · obtain ⟨nx, h0, h1, h2, h3, h4⟩ := hH
    refine ⟨nx, h0, by rw [e421, h1]; exact dw_i ⟨by omega, by omega⟩, by rw [e422, h2]; exact dw_i ⟨by omega, by omega⟩, h3, fun i N1 hi9 => ?_⟩
    have hp : ((nx + 11 - (i : Int)) % 12).toNat < 12 := by omega
    exact cs_dt hd hn hK hF (List.all_eq_true.mp blk_h _ (List.mem_range.mpr hp)) (h4 i N1 hi9) (hA N1 (List.mem_of_getElem? hi9)).1.2
  · rw [e15]
    rcases h15 with h | ⟨h, he⟩
    · exact Or.inl (by rw [h]; decide)
    · refine Or.inr ⟨by rw [h]; decide, ?_⟩
      have h4 := hG.1.1.2.1.2.2.2.1
      refine ⟨by rw [e220, he.1]; exact dw_i ⟨by omega, by omega⟩, fun l l0 l1 => ?_⟩
      rw [dw_a hd hn hK hF dt_c3.2.2.2.2 (by omega) (by omega), dw_a hd hn hK hF dt_c3.2.2.2.2 (by omega) (by omega)]
      exact outr_w hG.1.1 aphi_b (fun _ _ _ => hts_b) ⟨l0, l1⟩ (he.2 l l0 l1)
  · have hk := hk hlw
    have e9 : M2 200 6 = M1 200 6 := by rw [e200]; exact dw_i ⟨by have := hk.1.1; omega, by have := hk.1.2; omega⟩
    refine ⟨by rw [e9]; exact hk.1, fun l r y l0 l1 r0 r1 y0 y1 => ?_⟩
    have b0 := hG.1.1.1.1
    have b1 := hG.1.1.1.2.1
    have ek : kv M2 ((l * 99 + r) * 300 + y) = kv M1 ((l * 99 + r) * 300 + y) := by
      unfold kv
      rw [e9]
      have k205 := hF.1 205 _ dt_c4
      have ee := hK 205 (by decide) (by omega)
      have hj : 0 ≤ ((l * 99 + r) * 300 + y) / 12 ∧ ((l * 99 + r) * 300 + y) / 12 < 14850 := by omega
      obtain ⟨u, hu⟩ : ∃ u : Nat, ((l * 99 + r) * 300 + y) / 12 = (u : Int) := ⟨(((l * 99 + r) * 300 + y) / 12).toNat, by omega⟩
      rw [hu]
      rw [fld_cg ((hd 205 (by decide) (by omega) ee).2.1 (by rw [ee, k205.2.2]) u (by rw [ee, k205.2.2]; show u < 14850; omega)).symm]
    rw [ek]
    exact hk.2 l r y l0 l1 r0 r1 y0 y1
  · rw [e6]
    rcases hi with ⟨h, hi⟩ | ⟨h, NI, lI, hi, hc⟩
    · exact Or.inl ⟨by rw [h]; decide, hi⟩
    · exact Or.inr ⟨by rw [h]; decide, NI, lI, hi, cs_dt hd hn hK hF blk_3.2 hc (hI NI lI hi).1.2⟩
  · rw [e11, ht.1]
    exact dw_i ⟨by omega, by omega⟩
  · rw [e12, ht.2]
    exact dw_i ⟨by omega, by omega⟩
  · rw [dw_a hd hn hK hF dt_c3.1 j0 (by omega), hf j j0 j1]
    have := hf9 j j0 j1
    exact dw_i ⟨by omega, by omega⟩
end DT12
end
/-! 7c13.dr -/
section
/-! ONE HEAP TOLD TWICE: the reference. -/
theorem pwf_b {p : Int × Int} (h : pwf p) : (0 ≤ p.1 ∧ p.1 ≤ 16) ∧ gm_ir p.2 := by
  rcases h with ⟨⟨h1, h2⟩, h3⟩ | ⟨h1, h2, h3⟩
  · exact ⟨⟨h1, by omega⟩, ⟨by omega, by omega⟩⟩
  · exact ⟨⟨by omega, by omega⟩, ⟨by omega, by omega⟩⟩
theorem rps_b {c : Int × Int} : ∀ ps : List (Int × Int), (∀ p ∈ ps, pwf p) → c ∈ rps ps → (0 ≤ c.1 ∧ c.1 ≤ 16) ∧ gm_ir c.2 := by
  intro ps
  induction ps with
  | nil => intro _ hm; cases hm
  | cons q qs ih =>
    intro hp hm
    have hm : c ∈ q :: (11, 0) :: rps qs := hm
    rcases List.mem_cons.mp hm with rfl | hm
    · exact pwf_b (hp _ List.mem_cons_self)
    · rcases List.mem_cons.mp hm with rfl | hm
      · exact ⟨⟨by decide, by decide⟩, ⟨by decide, by decide⟩⟩
      · exact ih (fun p hp2 => hp p (List.mem_cons_of_mem _ hp2)) hm
theorem rpt_b {c : Int × Int} {ps : List (Int × Int)} (hp : ∀ p ∈ ps, pwf p) (hm : c ∈ rpt ps) : (0 ≤ c.1 ∧ c.1 ≤ 16) ∧ gm_ir c.2 := by
  cases ps with
  | nil => cases hm
  | cons q qs =>
    have hm : c ∈ q :: rps qs := hm
    rcases List.mem_cons.mp hm with rfl | hm
    · exact pwf_b (hp _ List.mem_cons_self)
    · exact rps_b qs (fun p hp2 => hp p (List.mem_cons_of_mem _ hp2)) hm
/-- the steps of a right law -/
theorem srds_b {B : Nat} : ∀ (ls : List lst) (h k : Nat), shg B ls h k → ∀ c ∈ srds ls, (0 ≤ c.1 ∧ c.1 ≤ 16) ∧ gm_ir c.2 := by
  intro ls
  induction ls with
  | nil => intro h k _ c hc; cases hc
  | cons s r ih =>
    intro h k hs c hc
    have hc : c ∈ srd s ++ srds r := hc
    rcases List.mem_append.mp hc with hc | hc
    · unfold srd at hc
      by_cases h0 : s.1 = 0
      · rw [if_pos h0] at hc
        have hw : cwf s.2.2.1 s.2.2.2 := by
          rcases hs with ⟨h1, -⟩ | ⟨h1, -⟩ | ⟨h1, -⟩
          · rcases h1 with ⟨-, hw⟩ | h1 | h1
            · exact hw
            · omega
            · omega
          · omega
          · omega
        rcases List.mem_append.mp hc with hc | hc
        · exact rpt_b hw.1 hc
        · rcases List.mem_append.mp hc with hc | hc
          · exact rpt_b hw.2.1 hc
          · rw [List.mem_singleton.mp hc]
            refine ⟨?_, (show (-2147483648 : Int) ≤ 0 from by decide), (show (0 : Int) < 2147483648 from by decide)⟩
            show 0 ≤ (if s.2.1 = true then (13 : Int) else 12) ∧ (if s.2.1 = true then (13 : Int) else 12) ≤ 16
            split <;> decide
      · rw [if_neg h0] at hc
        rw [List.mem_singleton.mp hc]
        refine ⟨?_, (show (-2147483648 : Int) ≤ 0 from by decide), (show (0 : Int) < 2147483648 from by decide)⟩
        show 0 ≤ s.1 ∧ s.1 ≤ 16
        rcases hs with ⟨h1, -⟩ | ⟨h1, -⟩ | ⟨h1, -⟩
        · rcases h1 with ⟨h1, -⟩ | h1 | h1 <;> omega
        · omega
        · omega
    · rcases hs with ⟨-, -, h2⟩ | ⟨-, -, h2⟩ | ⟨-, -, h2⟩
      · exact ih _ _ h2 c hc
      · exact ih _ _ h2 c hc
      · exact ih _ _ h2 c hc
section DR13
variable {n n2 : Nat} {K1 K2 : gm_K} {R2 : gm_R} {M1 M2 : gm_M} {N : Int → Int} {lw : Option (List lln)} {A : List (Int → Int)} {im : Option ((Int → Int) × Option (List lln))} {t w : Int} {f : Int → Int}
/-- a law told by numbers that go round -/
theorem lawr_w {W W2 : Int → Int} (h : LAWR lw W) (hT : jT fun j => W2 (395 + j)) (e : ∀ j, 0 ≤ j → j < 1244 → W2 j = gm_w (W j)) : LAWR lw W2 := by
  refine ⟨fun hn => by rw [e 8 (by decide) (by decide), h.1 hn]; decide, fun ls hs => ?_⟩
  obtain ⟨⟨a1, a2⟩, a3, a4, a5⟩ := h.2 ls hs
  have h12 := a3.1
  have e5 : W2 395 = (ls.length : Int) := by
    rw [e 395 (by decide) (by decide), a2]
    exact gm_w_id (by omega) (by omega)
  have hb : ∀ k : Nat, k < ls.length → 0 ≤ W2 (396 + 4 * (k : Int) + 2) := fun k hk => by
    have ht := (hT (k : Int) (by omega) (by omega) (by show (k : Int) < W2 (395 + 0); rw [show (395 : Int) + 0 = 395 by decide, e5]; omega)).1.1
    have ht : 0 ≤ W2 (395 + (3 + 4 * (k : Int))) := ht
    rw [show 395 + (3 + 4 * (k : Int)) = 396 + 4 * (k : Int) + 2 by omega] at ht
    exact ht
  refine ⟨⟨by rw [e 8 (by decide) (by decide), a1]; decide, e5⟩, a3, fun k x hx => ?_, fun k x hx => ?_⟩
  · have hk := (List.getElem?_eq_some_iff.mp hx).1
    obtain ⟨b0, b1, b2, b3⟩ := a4 k x hx
    obtain ⟨c0, c1⟩ := a5 k x hx
    obtain ⟨w0, w1, w2⟩ := a3.2 k x hx
    rw [e (396 + 4 * (k : Int)) (by omega) (by omega), e (396 + 4 * (k : Int) + 1) (by omega) (by omega), e (396 + 4 * (k : Int) + 2) (by omega) (by omega), e (396 + 4 * (k : Int) + 3) (by omega) (by omega), b0, b1]
    refine ⟨gm_w_id (by omega) (by omega), ?_, fun hn => by rw [b2 hn], fun t ht => ?_⟩
    · split
      · decide
      · exact gm_w_id (by omega) (by omega)
    · obtain ⟨d1, d2⟩ := b3 t ht
      have hsh := w2 t ht
      rw [d1]
      cases hl : srds t with
      | nil => exact ⟨by rw [show ((([] : List (Int × Int)).length : Nat) : Int) = 0 by rfl, Int.add_zero, Int.add_zero], fun j v hv => by simp at hv⟩
      | cons q qs =>
        have hlen : (srds t).length = qs.length + 1 := by rw [hl]; rfl
        have hz := c1 t ht (qs.length) ((srds t)[qs.length]'(by omega)) (List.getElem?_eq_getElem (by omega))
        have eb : gm_w (W (396 + 4 * (k : Int) + 2)) = W (396 + 4 * (k : Int) + 2) := gm_w_id (by omega) (by omega)
        rw [eb, ← hl, hlen]
        refine ⟨gm_w_id (by omega) (by omega), fun j v hv => ?_⟩
        have hj := c1 t ht j v hv
        obtain ⟨g1, g2⟩ := d2 j v hv
        obtain ⟨v1, v2⟩ := srds_b t 0 1 hsh v (List.mem_of_getElem? hv)
        rw [e _ (by omega) (by omega), e _ (by omega) (by omega), g1, g2]
        exact ⟨gm_w_id (by omega) (by omega), dw_i v2⟩
  · have hk := (List.getElem?_eq_some_iff.mp hx).1
    obtain ⟨c0, c1⟩ := a5 k x hx
    refine ⟨hb k hk, fun t ht j v hv => ?_⟩
    have hj := c1 t ht j v hv
    rw [e (396 + 4 * (k : Int) + 2) (by omega) (by omega), gm_w_id (by omega) (by omega)]
    exact hj
theorem dr_c1 : tyA 227 2093 = true ∧ tyA 228 1244 = true ∧ tyA 231 400 = true ∧ tyA 234 300 = true ∧ tyA 235 29700 = true := by decide +kernel
theorem dr_c2 : tyF 226 11 5 = true ∧ tyF 226 11 6 = true ∧ tyF 226 11 8 = true ∧ tyF 226 11 13 = true ∧ tyF 226 11 26 = true := by decide +kernel
theorem dr_c3 : p2_O.1 230 = some (0, 4740) := by decide +kernel
set_option maxRecDepth 100000 in
theorem fl_ty_cov {hi : Int} : ∀ (l : List (Int × Int × Int × Int)) (lo : Int), (fl_ty hi l lo).isSome = true → ∀ j, lo ≤ j → j ≤ hi → ∃ r ∈ l, r.1 ≤ j ∧ j ≤ r.2.1 := by
  intro l
  induction l with
  | nil => intro lo h; exact (Bool.false_ne_true h).elim
  | cons r l ih =>
    intro lo h j j0 j1
    have h : (fl_if (fl_if (fl_le r.1 lo) (fl_le lo r.2.1) false) (fl_if (fl_le hi r.2.1) (some (r.2.2.1, r.2.2.2)) (fl_tj r (fl_ty hi l (r.2.1 + 1)))) (fl_ty hi l lo)).isSome = true := h
    cases e1 : fl_if (fl_le r.1 lo) (fl_le lo r.2.1) false with
    | false =>
      rw [e1] at h
      obtain ⟨x, hx, h2⟩ := ih lo h j j0 j1
      exact ⟨x, List.mem_cons_of_mem _ hx, h2⟩
    | true =>
      rw [e1] at h
      have h : (fl_if (fl_le hi r.2.1) (some (r.2.2.1, r.2.2.2)) (fl_tj r (fl_ty hi l (r.2.1 + 1)))).isSome = true := h
      rw [fl_and, fl_le_eq, fl_le_eq, Bool.and_eq_true, decide_eq_true_eq, decide_eq_true_eq] at e1
      by_cases hj : j ≤ r.2.1
      · exact ⟨r, List.mem_cons_self, by omega, hj⟩
      · cases e2 : fl_le hi r.2.1 with
        | true =>
          rw [fl_le_eq, decide_eq_true_eq] at e2
          exact absurd j1 (by omega)
        | false =>
          rw [e2] at h
          have h : (fl_tj r (fl_ty hi l (r.2.1 + 1))).isSome = true := h
          cases hq : fl_ty hi l (r.2.1 + 1) with
          | none => rw [hq] at h; exact (Bool.false_ne_true h).elim
          | some p =>
            obtain ⟨x, hx, h2⟩ := ih (r.2.1 + 1) (by rw [hq]; rfl) j (by omega) j1
            exact ⟨x, List.mem_cons_of_mem _ hx, h2⟩
theorem dr_c4 : (List.range 395).all (fun j => p2_ty.any fun r => decide (r.1 ≤ (j : Int)) && decide ((j : Int) ≤ r.2.1)) = true := List.all_eq_true.mpr fun j hj => by
  have hj := List.mem_range.mp hj
  obtain ⟨r, hr, h1, h2⟩ := fl_ty_cov (hi := 394) p2_ty 0 (by decide +kernel) (j : Int) (by omega) (by omega)
  refine List.any_eq_true.mpr ⟨r, hr, ?_⟩
  show (decide (r.1 ≤ (j : Int)) && decide ((j : Int) ≤ r.2.1)) = true
  rw [Bool.and_eq_true]
  exact ⟨decide_eq_true h1, decide_eq_true h2⟩
theorem ws_w {W W2 : Int → Int} (h : ws W = N) (hi : irN N) (e : ∀ j, 0 ≤ j → j < 395 → W2 j = gm_w (W j)) : ws W2 = N := by
  funext j
  by_cases hj : 0 ≤ j ∧ j < 395 ∧ ¬ j = 8
  · have h1 : ws W j = N j := by rw [h]
    unfold ws at h1 ⊢
    rw [if_pos hj] at h1 ⊢
    rw [e j hj.1 hj.2.1, h1]
    exact dw_i (hi j)
  · rw [← h]
    unfold ws
    rw [if_neg hj, if_neg hj]
theorem rfv_dt (hd : dt_m n K1 M1 K2 M2) (hn : 245 ≤ n) (hK : ∀ k, 1 ≤ k → k ≤ n → K1 k = K2 k) (hF : gm_Fx p2_O n2 K2 R2 M2) (hR : RA N lw A im t w f) (hV : RFV N lw A im t w f M1) : RFV N lw A im t w f M2 := by
  obtain ⟨hG, hL, hA, hI, ht9, hw9, hf9⟩ := hR
  obtain ⟨⟨hT, hLR, hH⟩, hk, hi, ht, hf⟩ := hV
  have hJ : jP p2_ty (M2 227) (M2 228) (M2 229) (M2 230) := hF.2.2.2.2
  have e7 : ∀ j, 0 ≤ j → j < 1244 → M2 227 j = gm_w (M1 227 j) := fun j j0 j1 => dw_a hd hn hK hF dr_c1.1 j0 (by omega)
  have e8 : ∀ j, 0 ≤ j → j < 1244 → M2 228 j = gm_w (M1 228 j) := fun j j0 j1 => dw_a hd hn hK hF dr_c1.2.1 j0 (by omega)
  have f5 : M2 226 5 = gm_w (M1 226 5) := dw_f hd hn hK hF dr_c2.1
  have f6 : M2 226 6 = gm_w (M1 226 6) := dw_f hd hn hK hF dr_c2.2.1
  have f8 : M2 226 8 = gm_w (M1 226 8) := dw_f hd hn hK hF dr_c2.2.2.1
  have f13 : M2 226 13 = gm_w (M1 226 13) := dw_f hd hn hK hF dr_c2.2.2.2.1
  have f26 : M2 226 26 = gm_w (M1 226 26) := dw_f hd hn hK hF dr_c2.2.2.2.2
  have l8 : M1 227 8 = 0 ∨ M1 227 8 = 1 := by
    cases hlw : lw with
    | none => exact Or.inl (hLR.1 hlw)
    | some ls => exact Or.inr (hLR.2 ls hlw).1.1
  have g8 : M2 227 8 = M1 227 8 := by
    rw [e7 8 (by decide) (by decide)]
    rcases l8 with h | h <;> rw [h] <;> decide
  refine ⟨⟨⟨ws_w hT.1 hG.2 (fun j j0 j1 => e7 j j0 (by omega)), fun y y0 y1 => ?_⟩, lawr_w hLR hJ.2.2.1 e7, ?_⟩, ?_, ?_, ⟨?_, ?_⟩, fun j j0 j1 => ?_⟩
  · obtain ⟨b1, b2⟩ := hT.2 y y0 y1
    rw [dw_a hd hn hK hF dr_c1.2.2.2.1 y0 (by omega), b1]
    exact ⟨dw_i ⟨by omega, by omega⟩, b2⟩
  · obtain ⟨⟨h1, h2⟩, h3⟩ := hH
    have e30 : ∀ (y j : Int), 0 ≤ y → y < 12 → 0 ≤ j → j < 395 → M2 230 (395 * y + j) = gm_w (M1 230 (395 * y + j)) := fun y j y0 y1 j0 j1 => by
      obtain ⟨u, rfl⟩ : ∃ u : Nat, j = (u : Int) := ⟨j.toNat, by omega⟩
      obtain ⟨r, hr, hr2⟩ := List.any_eq_true.mp (List.all_eq_true.mp dr_c4 u (List.mem_range.mpr (by omega)))
      simp only [Bool.and_eq_true, decide_eq_true_eq] at hr2
      have hir := (hJ.2.1 y y0 y1 r hr (u : Int) hr2.1 hr2.2 j0 j1).1
      obtain ⟨q, hq⟩ : ∃ q : Nat, 395 * y + (u : Int) = (q : Int) := ⟨(395 * y + (u : Int)).toNat, by omega⟩
      have k230 := hF.1 230 _ dr_c3
      have ee := hK 230 (by decide) (by omega)
      rw [hq] at hir ⊢
      exact dw_x ((hd 230 (by decide) (by omega) ee).1 (by rw [ee, k230.2.2]; exact Or.inl rfl) q (by rw [ee, k230.2.2]; show q < 4740; omega)) hir
    refine ⟨⟨by rw [f6, h1]; exact gm_w_id (by omega) (by omega), h2⟩, fun i N1 hi9 => ?_⟩
    obtain ⟨c1, c2⟩ := h3 i N1 hi9
    have hil := (List.getElem?_eq_some_iff.mp hi9).1
    refine ⟨ws_w c1 (hA N1 (List.mem_of_getElem? hi9)).1.2 (fun j j0 j1 => e30 _ j (by omega) (by omega) j0 j1), ?_⟩
    rw [e30 _ 8 (by omega) (by omega) (by decide) (by decide), c2, g8]
    rcases l8 with h | h <;> rw [h] <;> decide
  · have c26 : M2 226 26 = M1 226 26 := by rw [f26]; exact dw_i ⟨by have := hk.1.1; omega, by have := hk.1.2; omega⟩
    have c35 : ∀ j, 0 ≤ j → j < 29700 → M2 235 j = M1 235 j := fun j j0 j1 => by
      have := hk.2.1 j j0 j1
      rw [dw_a hd hn hK hF dr_c1.2.2.2.2 j0 (by omega)]
      exact dw_i ⟨by omega, by omega⟩
    have b1 := hG.1.1.1.2.1
    refine ⟨by rw [c26]; exact hk.1, fun j j0 j1 => by rw [c35 j j0 j1]; exact hk.2.1 j j0 j1, fun r y l0 l1 r0 r1 y0 y1 => ?_⟩
    rw [c26] at l0 l1 ⊢
    rw [c35 _ (by omega) (by omega)]
    exact hk.2.2 r y l0 l1 r0 r1 y0 y1
  · rw [f5]
    rcases hi with ⟨h, hi⟩ | ⟨h, NI, lI, hi, hc, hl⟩
    · exact Or.inl ⟨by rw [h]; decide, hi⟩
    · exact Or.inr ⟨by rw [h]; decide, NI, lI, hi, ws_w hc (hI NI lI hi).1.2 (fun j j0 j1 => e8 j j0 (by omega)), lawr_w hl hJ.2.2.2.1 e8⟩
  · rw [f8, ht.1]
    exact dw_i ⟨by omega, by omega⟩
  · rw [f13, ht.2]
    exact dw_i ⟨by omega, by omega⟩
  · rw [dw_a hd hn hK hF dr_c1.2.2.1 j0 (by omega), hf j j0 j1]
    have := hf9 j j0 j1
    exact dw_i ⟨by omega, by omega⟩
end DR13
end
/-! 7c14.hl -/
section
/-! ONE HEAP TOLD TWICE: the law's own methods, by what they call. -/
section HL14
variable {X : Int → Int} {LX d bc bs n : Nat} {K : gm_K} {R : gm_R} {M : gm_M} {Q : gm_Q}
theorem hl_70_0 : gm_hit (gm_ow 70) 3 0 false (gm_hh 70) = some (some 11) := by decide +kernel
theorem hl_70_1 : gm_hit (gm_ow 70) 3 1 false (gm_hh 70) = some (some 14) := by decide +kernel
theorem hl_70 (k1 : (1 ≤ 1 ∧ 1 ≤ n) ∧ (K 1).1 = 0 + 4) (h : gm_Wp X LX d bc bs 71 0 (gm_ent 71 [gm_vr 1]) [] n K R M (hQ [(0, 1), (1, 2)] Q)) : gm_Wp X LX (d + 1) bc bs 70 0 (gm_ent 70 [gm_vr 1, gm_vr 245]) [] n K R M Q := by
  refine gm_sz (gm_p_load (pc := 0) (i := .aload_n 1) (sr := 2) (j := 1) (by decide +kernel) rfl rfl rfl) ?_
  refine gm_sz (gm_p_const (pc := 1) (i := .iconst 0) (v := gm_vi 0) (by decide +kernel) (by decide +kernel)) ?_
  refine gm_sz (gm_p_load (pc := 2) (i := .aload_n 0) (sr := 2) (j := 0) (by decide +kernel) rfl rfl rfl) ?_
  refine gm_c_virtH (k := 1) (ci := 0) (mj := 71) (ix := 7) (pc := 3) (as := []) (st := [gm_vi 0, gm_vr 245]) (d' := d) (bc' := bc) (bs' := bs) (by decide +kernel) (by decide +kernel) (by decide +kernel) k1.1 k1.2 (by decide) (by decide +kernel) (show 0 = gm_na 71 by decide +kernel) fw_c0 (show 0 + 1 ≤ gm_ml 71 by decide +kernel) (Nat.le_of_ble_eq_true rfl) (Nat.le_refl _) (Nat.le_refl _) (Nat.le_refl _) ?_
  refine gm_Wp_mono (fun o n1 K1 R1 M1 hq => ?_) h
  obtain ⟨⟨hn, hK⟩, hq⟩ := hq
  rcases hq with ⟨v, rfl, hq⟩ | ⟨i, hi, rfl, hq⟩
  · show gm_Wp X LX (d + 1) _ _ 70 6 (gm_ent 70 [gm_vr 1, gm_vr 245]) [gm_vi v, gm_vi 0, gm_vr 245] n1 K1 R1 M1 Q
    refine gm_sz (gm_p_i2l (pc := 6) (by decide +kernel)) ?_
    refine gm_sz (gm_p_last (pc := 7) (k := 245) (by decide +kernel) ⟨by decide, hn⟩ (by rw [hK]) (by rw [hK]; decide)) ?_
    refine gm_sz (gm_p_goto (pc := 8) (off := 9) (by decide +kernel) (by decide)) ?_
    refine gm_sz (gm_p_const (pc := 17) (i := .iconst 0) (v := gm_vi 0) (by decide +kernel) (by decide +kernel)) ?_
    exact gm_r_int (pc := 18) (by decide +kernel) (Or.inl (by decide +kernel)) hq
  · simp only [List.mem_cons, List.not_mem_nil, or_false] at hi
    rcases hi with rfl | rfl
    · show (match gm_hit (gm_ow 70) 3 0 false (gm_hh 70) with
      | some (some h) => gm_Wp X LX (d + 1) _ _ 70 h (gm_ent 70 [gm_vr 1, gm_vr 245]) [gm_vo 4000] n1 K1 R1 M1 Q
      | some none => Q (.inr 0) n1 K1 R1 M1
      | none => False)
      rw [hl_70_0]
      show gm_Wp X LX (d + 1) _ _ 70 11 (gm_ent 70 [gm_vr 1, gm_vr 245]) [gm_vo 4000] n1 K1 R1 M1 Q
      refine gm_sz (gm_p_stor (pc := 11) (i := .astore_n 2) (sr := 2) (j := 2) (by decide +kernel) rfl (show 3 ≤ _ from Nat.le_of_ble_eq_true rfl) rfl) ?_
      refine gm_sz (gm_p_const (pc := 12) (i := .iconst 1) (v := gm_vi 1) (by decide +kernel) (by decide +kernel)) ?_
      exact gm_r_int (pc := 13) (by decide +kernel) (Or.inl (by decide +kernel)) hq
    · show (match gm_hit (gm_ow 70) 3 1 false (gm_hh 70) with
      | some (some h) => gm_Wp X LX (d + 1) _ _ 70 h (gm_ent 70 [gm_vr 1, gm_vr 245]) [gm_vo 4000] n1 K1 R1 M1 Q
      | some none => Q (.inr 1) n1 K1 R1 M1
      | none => False)
      rw [hl_70_1]
      show gm_Wp X LX (d + 1) _ _ 70 14 (gm_ent 70 [gm_vr 1, gm_vr 245]) [gm_vo 4000] n1 K1 R1 M1 Q
      refine gm_sz (gm_p_stor (pc := 14) (i := .astore_n 2) (sr := 2) (j := 2) (by decide +kernel) rfl (show 3 ≤ _ from Nat.le_of_ble_eq_true rfl) rfl) ?_
      refine gm_sz (gm_p_const (pc := 15) (i := .iconst 2) (v := gm_vi 2) (by decide +kernel) (by decide +kernel)) ?_
      exact gm_r_int (pc := 16) (by decide +kernel) (Or.inl (by decide +kernel)) hq
theorem hl_122_0 : gm_hit (gm_ow 122) 3 0 false (gm_hh 122) = some (some 11) := by decide +kernel
theorem hl_122 (k1 : (1 ≤ 1 ∧ 1 ≤ n) ∧ (K 1).1 = 0 + 4) (h : gm_Wp X LX d bc bs 123 0 (gm_ent 123 [gm_vr 1]) [] n K R M (hQ [(0, 1)] Q)) : gm_Wp X LX (d + 1) bc bs 122 0 (gm_ent 122 [gm_vr 1, gm_vr 245]) [] n K R M Q := by
  refine gm_sz (gm_p_load (pc := 0) (i := .aload_n 1) (sr := 2) (j := 1) (by decide +kernel) rfl rfl rfl) ?_
  refine gm_sz (gm_p_const (pc := 1) (i := .iconst 0) (v := gm_vi 0) (by decide +kernel) (by decide +kernel)) ?_
  refine gm_sz (gm_p_load (pc := 2) (i := .aload_n 0) (sr := 2) (j := 0) (by decide +kernel) rfl rfl rfl) ?_
  refine gm_c_virtH (k := 1) (ci := 0) (mj := 123) (ix := 17) (pc := 3) (as := []) (st := [gm_vi 0, gm_vr 245]) (d' := d) (bc' := bc) (bs' := bs) (by decide +kernel) (by decide +kernel) (by decide +kernel) k1.1 k1.2 (by decide) (by decide +kernel) (show 0 = gm_na 123 by decide +kernel) fw_c0 (show 0 + 1 ≤ gm_ml 123 by decide +kernel) (Nat.le_of_ble_eq_true rfl) (Nat.le_refl _) (Nat.le_refl _) (Nat.le_refl _) ?_
  refine gm_Wp_mono (fun o n1 K1 R1 M1 hq => ?_) h
  obtain ⟨⟨hn, hK⟩, hq⟩ := hq
  rcases hq with ⟨v, rfl, hq⟩ | ⟨i, hi, rfl, hq⟩
  · show gm_Wp X LX (d + 1) _ _ 122 6 (gm_ent 122 [gm_vr 1, gm_vr 245]) [gm_vi v, gm_vi 0, gm_vr 245] n1 K1 R1 M1 Q
    refine gm_sz (gm_p_i2l (pc := 6) (by decide +kernel)) ?_
    refine gm_sz (gm_p_last (pc := 7) (k := 245) (by decide +kernel) ⟨by decide, hn⟩ (by rw [hK]) (by rw [hK]; decide)) ?_
    refine gm_sz (gm_p_goto (pc := 8) (off := 6) (by decide +kernel) (by decide)) ?_
    refine gm_sz (gm_p_const (pc := 14) (i := .iconst 0) (v := gm_vi 0) (by decide +kernel) (by decide +kernel)) ?_
    exact gm_r_int (pc := 15) (by decide +kernel) (Or.inl (by decide +kernel)) hq
  · simp only [List.mem_cons, List.not_mem_nil, or_false] at hi
    rcases hi with rfl
    · show (match gm_hit (gm_ow 122) 3 0 false (gm_hh 122) with
      | some (some h) => gm_Wp X LX (d + 1) _ _ 122 h (gm_ent 122 [gm_vr 1, gm_vr 245]) [gm_vo 4000] n1 K1 R1 M1 Q
      | some none => Q (.inr 0) n1 K1 R1 M1
      | none => False)
      rw [hl_122_0]
      show gm_Wp X LX (d + 1) _ _ 122 11 (gm_ent 122 [gm_vr 1, gm_vr 245]) [gm_vo 4000] n1 K1 R1 M1 Q
      refine gm_sz (gm_p_stor (pc := 11) (i := .astore_n 2) (sr := 2) (j := 2) (by decide +kernel) rfl (show 3 ≤ _ from Nat.le_of_ble_eq_true rfl) rfl) ?_
      refine gm_sz (gm_p_const (pc := 12) (i := .iconst 1) (v := gm_vi 1) (by decide +kernel) (by decide +kernel)) ?_
      exact gm_r_int (pc := 13) (by decide +kernel) (Or.inl (by decide +kernel)) hq
theorem hl_149_3 : gm_hit (gm_ow 149) 5 3 false (gm_hh 149) = some (some 13) := by decide +kernel
theorem hl_149_0 : gm_hit (gm_ow 149) 5 0 false (gm_hh 149) = some (some 17) := by decide +kernel
theorem hl_149 {x0 x1 : Int} (k1 : (1 ≤ 1 ∧ 1 ≤ n) ∧ (K 1).1 = 0 + 4) (h : gm_Wp X LX d bc bs 150 0 (gm_ent 150 [gm_vr 1, gm_vi x0, gm_vi x1]) [] n K R M (hQ [(3, 1), (0, 2)] Q)) : gm_Wp X LX (d + 1) bc bs 149 0 (gm_ent 149 [gm_vr 1, gm_vi x0, gm_vi x1, gm_vr 245]) [] n K R M Q := by
  refine gm_sz (gm_p_load (pc := 0) (i := .aload_n 3) (sr := 2) (j := 3) (by decide +kernel) rfl rfl rfl) ?_
  refine gm_sz (gm_p_const (pc := 1) (i := .iconst 0) (v := gm_vi 0) (by decide +kernel) (by decide +kernel)) ?_
  refine gm_sz (gm_p_load (pc := 2) (i := .aload_n 0) (sr := 2) (j := 0) (by decide +kernel) rfl rfl rfl) ?_
  refine gm_sz (gm_p_load (pc := 3) (i := .iload_n 1) (sr := 0) (j := 1) (by decide +kernel) rfl rfl rfl) ?_
  refine gm_sz (gm_p_load (pc := 4) (i := .iload_n 2) (sr := 0) (j := 2) (by decide +kernel) rfl rfl rfl) ?_
  refine gm_c_virtH (k := 1) (ci := 0) (mj := 150) (ix := 45) (pc := 5) (as := [gm_vi x0, gm_vi x1]) (st := [gm_vi 0, gm_vr 245]) (d' := d) (bc' := bc) (bs' := bs) (by decide +kernel) (by decide +kernel) (by decide +kernel) k1.1 k1.2 (by decide) (by decide +kernel) (show 2 = gm_na 150 by decide +kernel) (fun v hv => by simp only [List.mem_cons, List.not_mem_nil, or_false] at hv; rcases hv with rfl | rfl <;> simp [gm_sort]) (show 2 + 1 ≤ gm_ml 150 by decide +kernel) (Nat.le_of_ble_eq_true rfl) (Nat.le_refl _) (Nat.le_refl _) (Nat.le_refl _) ?_
  refine gm_Wp_mono (fun o n1 K1 R1 M1 hq => ?_) h
  obtain ⟨⟨hn, hK⟩, hq⟩ := hq
  rcases hq with ⟨v, rfl, hq⟩ | ⟨i, hi, rfl, hq⟩
  · show gm_Wp X LX (d + 1) _ _ 149 8 (gm_ent 149 [gm_vr 1, gm_vi x0, gm_vi x1, gm_vr 245]) [gm_vi v, gm_vi 0, gm_vr 245] n1 K1 R1 M1 Q
    refine gm_sz (gm_p_i2l (pc := 8) (by decide +kernel)) ?_
    refine gm_sz (gm_p_last (pc := 9) (k := 245) (by decide +kernel) ⟨by decide, hn⟩ (by rw [hK]) (by rw [hK]; decide)) ?_
    refine gm_sz (gm_p_goto (pc := 10) (off := 11) (by decide +kernel) (by decide)) ?_
    refine gm_sz (gm_p_const (pc := 21) (i := .iconst 0) (v := gm_vi 0) (by decide +kernel) (by decide +kernel)) ?_
    exact gm_r_int (pc := 22) (by decide +kernel) (Or.inl (by decide +kernel)) hq
  · simp only [List.mem_cons, List.not_mem_nil, or_false] at hi
    rcases hi with rfl | rfl
    · show (match gm_hit (gm_ow 149) 5 3 false (gm_hh 149) with
      | some (some h) => gm_Wp X LX (d + 1) _ _ 149 h (gm_ent 149 [gm_vr 1, gm_vi x0, gm_vi x1, gm_vr 245]) [gm_vo 4000] n1 K1 R1 M1 Q
      | some none => Q (.inr 3) n1 K1 R1 M1
      | none => False)
      rw [hl_149_3]
      show gm_Wp X LX (d + 1) _ _ 149 13 (gm_ent 149 [gm_vr 1, gm_vi x0, gm_vi x1, gm_vr 245]) [gm_vo 4000] n1 K1 R1 M1 Q
      refine gm_sz (gm_p_stor (pc := 13) (i := .astore 4) (sr := 2) (j := 4) (by decide +kernel) rfl (show 5 ≤ _ from Nat.le_of_ble_eq_true rfl) rfl) ?_
      refine gm_sz (gm_p_const (pc := 15) (i := .iconst 1) (v := gm_vi 1) (by decide +kernel) (by decide +kernel)) ?_
      exact gm_r_int (pc := 16) (by decide +kernel) (Or.inl (by decide +kernel)) hq
    · show (match gm_hit (gm_ow 149) 5 0 false (gm_hh 149) with
      | some (some h) => gm_Wp X LX (d + 1) _ _ 149 h (gm_ent 149 [gm_vr 1, gm_vi x0, gm_vi x1, gm_vr 245]) [gm_vo 4000] n1 K1 R1 M1 Q
      | some none => Q (.inr 0) n1 K1 R1 M1
      | none => False)
      rw [hl_149_0]
      show gm_Wp X LX (d + 1) _ _ 149 17 (gm_ent 149 [gm_vr 1, gm_vi x0, gm_vi x1, gm_vr 245]) [gm_vo 4000] n1 K1 R1 M1 Q
      refine gm_sz (gm_p_stor (pc := 17) (i := .astore 4) (sr := 2) (j := 4) (by decide +kernel) rfl (show 5 ≤ _ from Nat.le_of_ble_eq_true rfl) rfl) ?_
      refine gm_sz (gm_p_const (pc := 19) (i := .iconst 2) (v := gm_vi 2) (by decide +kernel) (by decide +kernel)) ?_
      exact gm_r_int (pc := 20) (by decide +kernel) (Or.inl (by decide +kernel)) hq
theorem hl_151_3 : gm_hit (gm_ow 151) 5 3 false (gm_hh 151) = some (some 13) := by decide +kernel
theorem hl_151_0 : gm_hit (gm_ow 151) 5 0 false (gm_hh 151) = some (some 17) := by decide +kernel
theorem hl_151_1 : gm_hit (gm_ow 151) 5 1 false (gm_hh 151) = some (some 21) := by decide +kernel
theorem hl_151 {x0 x1 : Int} (k1 : (1 ≤ 1 ∧ 1 ≤ n) ∧ (K 1).1 = 0 + 4) (h : gm_Wp X LX d bc bs 152 0 (gm_ent 152 [gm_vr 1, gm_vi x0, gm_vi x1]) [] n K R M (hQ [(3, 1), (0, 2), (1, 3)] Q)) : gm_Wp X LX (d + 1) bc bs 151 0 (gm_ent 151 [gm_vr 1, gm_vi x0, gm_vi x1, gm_vr 245]) [] n K R M Q := by
  refine gm_sz (gm_p_load (pc := 0) (i := .aload_n 3) (sr := 2) (j := 3) (by decide +kernel) rfl rfl rfl) ?_
  refine gm_sz (gm_p_const (pc := 1) (i := .iconst 0) (v := gm_vi 0) (by decide +kernel) (by decide +kernel)) ?_
  refine gm_sz (gm_p_load (pc := 2) (i := .aload_n 0) (sr := 2) (j := 0) (by decide +kernel) rfl rfl rfl) ?_
  refine gm_sz (gm_p_load (pc := 3) (i := .iload_n 1) (sr := 0) (j := 1) (by decide +kernel) rfl rfl rfl) ?_
  refine gm_sz (gm_p_load (pc := 4) (i := .iload_n 2) (sr := 0) (j := 2) (by decide +kernel) rfl rfl rfl) ?_
  refine gm_c_virtH (k := 1) (ci := 0) (mj := 152) (ix := 48) (pc := 5) (as := [gm_vi x0, gm_vi x1]) (st := [gm_vi 0, gm_vr 245]) (d' := d) (bc' := bc) (bs' := bs) (by decide +kernel) (by decide +kernel) (by decide +kernel) k1.1 k1.2 (by decide) (by decide +kernel) (show 2 = gm_na 152 by decide +kernel) (fun v hv => by simp only [List.mem_cons, List.not_mem_nil, or_false] at hv; rcases hv with rfl | rfl <;> simp [gm_sort]) (show 2 + 1 ≤ gm_ml 152 by decide +kernel) (Nat.le_of_ble_eq_true rfl) (Nat.le_refl _) (Nat.le_refl _) (Nat.le_refl _) ?_
  refine gm_Wp_mono (fun o n1 K1 R1 M1 hq => ?_) h
  obtain ⟨⟨hn, hK⟩, hq⟩ := hq
  rcases hq with ⟨v, rfl, hq⟩ | ⟨i, hi, rfl, hq⟩
  · show gm_Wp X LX (d + 1) _ _ 151 8 (gm_ent 151 [gm_vr 1, gm_vi x0, gm_vi x1, gm_vr 245]) [gm_vi v, gm_vi 0, gm_vr 245] n1 K1 R1 M1 Q
    refine gm_sz (gm_p_i2l (pc := 8) (by decide +kernel)) ?_
    refine gm_sz (gm_p_last (pc := 9) (k := 245) (by decide +kernel) ⟨by decide, hn⟩ (by rw [hK]) (by rw [hK]; decide)) ?_
    refine gm_sz (gm_p_goto (pc := 10) (off := 15) (by decide +kernel) (by decide)) ?_
    refine gm_sz (gm_p_const (pc := 25) (i := .iconst 0) (v := gm_vi 0) (by decide +kernel) (by decide +kernel)) ?_
    exact gm_r_int (pc := 26) (by decide +kernel) (Or.inl (by decide +kernel)) hq
  · simp only [List.mem_cons, List.not_mem_nil, or_false] at hi
    rcases hi with rfl | rfl | rfl
    · show (match gm_hit (gm_ow 151) 5 3 false (gm_hh 151) with
      | some (some h) => gm_Wp X LX (d + 1) _ _ 151 h (gm_ent 151 [gm_vr 1, gm_vi x0, gm_vi x1, gm_vr 245]) [gm_vo 4000] n1 K1 R1 M1 Q
      | some none => Q (.inr 3) n1 K1 R1 M1
      | none => False)
      rw [hl_151_3]
      show gm_Wp X LX (d + 1) _ _ 151 13 (gm_ent 151 [gm_vr 1, gm_vi x0, gm_vi x1, gm_vr 245]) [gm_vo 4000] n1 K1 R1 M1 Q
      refine gm_sz (gm_p_stor (pc := 13) (i := .astore 4) (sr := 2) (j := 4) (by decide +kernel) rfl (show 5 ≤ _ from Nat.le_of_ble_eq_true rfl) rfl) ?_
      refine gm_sz (gm_p_const (pc := 15) (i := .iconst 1) (v := gm_vi 1) (by decide +kernel) (by decide +kernel)) ?_
      exact gm_r_int (pc := 16) (by decide +kernel) (Or.inl (by decide +kernel)) hq
    · show (match gm_hit (gm_ow 151) 5 0 false (gm_hh 151) with
      | some (some h) => gm_Wp X LX (d + 1) _ _ 151 h (gm_ent 151 [gm_vr 1, gm_vi x0, gm_vi x1, gm_vr 245]) [gm_vo 4000] n1 K1 R1 M1 Q
      | some none => Q (.inr 0) n1 K1 R1 M1
      | none => False)
      rw [hl_151_0]
      show gm_Wp X LX (d + 1) _ _ 151 17 (gm_ent 151 [gm_vr 1, gm_vi x0, gm_vi x1, gm_vr 245]) [gm_vo 4000] n1 K1 R1 M1 Q
      refine gm_sz (gm_p_stor (pc := 17) (i := .astore 4) (sr := 2) (j := 4) (by decide +kernel) rfl (show 5 ≤ _ from Nat.le_of_ble_eq_true rfl) rfl) ?_
      refine gm_sz (gm_p_const (pc := 19) (i := .iconst 2) (v := gm_vi 2) (by decide +kernel) (by decide +kernel)) ?_
      exact gm_r_int (pc := 20) (by decide +kernel) (Or.inl (by decide +kernel)) hq
    · show (match gm_hit (gm_ow 151) 5 1 false (gm_hh 151) with
      | some (some h) => gm_Wp X LX (d + 1) _ _ 151 h (gm_ent 151 [gm_vr 1, gm_vi x0, gm_vi x1, gm_vr 245]) [gm_vo 4000] n1 K1 R1 M1 Q
      | some none => Q (.inr 1) n1 K1 R1 M1
      | none => False)
      rw [hl_151_1]
      show gm_Wp X LX (d + 1) _ _ 151 21 (gm_ent 151 [gm_vr 1, gm_vi x0, gm_vi x1, gm_vr 245]) [gm_vo 4000] n1 K1 R1 M1 Q
      refine gm_sz (gm_p_stor (pc := 21) (i := .astore 4) (sr := 2) (j := 4) (by decide +kernel) rfl (show 5 ≤ _ from Nat.le_of_ble_eq_true rfl) rfl) ?_
      refine gm_sz (gm_p_const (pc := 23) (i := .iconst 3) (v := gm_vi 3) (by decide +kernel) (by decide +kernel)) ?_
      exact gm_r_int (pc := 24) (by decide +kernel) (Or.inl (by decide +kernel)) hq
theorem hl_155_3 : gm_hit (gm_ow 155) 5 3 false (gm_hh 155) = some (some 13) := by decide +kernel
theorem hl_155 {x0 x1 : Int} (k1 : (1 ≤ 1 ∧ 1 ≤ n) ∧ (K 1).1 = 0 + 4) (h : gm_Wp X LX d bc bs 156 0 (gm_ent 156 [gm_vr 1, gm_vi x0, gm_vi x1]) [] n K R M (hQ [(3, 1)] Q)) : gm_Wp X LX (d + 1) bc bs 155 0 (gm_ent 155 [gm_vr 1, gm_vi x0, gm_vi x1, gm_vr 245]) [] n K R M Q := by
  refine gm_sz (gm_p_load (pc := 0) (i := .aload_n 3) (sr := 2) (j := 3) (by decide +kernel) rfl rfl rfl) ?_
  refine gm_sz (gm_p_const (pc := 1) (i := .iconst 0) (v := gm_vi 0) (by decide +kernel) (by decide +kernel)) ?_
  refine gm_sz (gm_p_load (pc := 2) (i := .aload_n 0) (sr := 2) (j := 0) (by decide +kernel) rfl rfl rfl) ?_
  refine gm_sz (gm_p_load (pc := 3) (i := .iload_n 1) (sr := 0) (j := 1) (by decide +kernel) rfl rfl rfl) ?_
  refine gm_sz (gm_p_load (pc := 4) (i := .iload_n 2) (sr := 0) (j := 2) (by decide +kernel) rfl rfl rfl) ?_
  refine gm_c_virtH (k := 1) (ci := 0) (mj := 156) (ix := 51) (pc := 5) (as := [gm_vi x0, gm_vi x1]) (st := [gm_vi 0, gm_vr 245]) (d' := d) (bc' := bc) (bs' := bs) (by decide +kernel) (by decide +kernel) (by decide +kernel) k1.1 k1.2 (by decide) (by decide +kernel) (show 2 = gm_na 156 by decide +kernel) (fun v hv => by simp only [List.mem_cons, List.not_mem_nil, or_false] at hv; rcases hv with rfl | rfl <;> simp [gm_sort]) (show 2 + 1 ≤ gm_ml 156 by decide +kernel) (Nat.le_of_ble_eq_true rfl) (Nat.le_refl _) (Nat.le_refl _) (Nat.le_refl _) ?_
  refine gm_Wp_mono (fun o n1 K1 R1 M1 hq => ?_) h
  obtain ⟨⟨hn, hK⟩, hq⟩ := hq
  rcases hq with ⟨v, rfl, hq⟩ | ⟨i, hi, rfl, hq⟩
  · show gm_Wp X LX (d + 1) _ _ 155 8 (gm_ent 155 [gm_vr 1, gm_vi x0, gm_vi x1, gm_vr 245]) [gm_vi v, gm_vi 0, gm_vr 245] n1 K1 R1 M1 Q
    refine gm_sz (gm_p_i2l (pc := 8) (by decide +kernel)) ?_
    refine gm_sz (gm_p_last (pc := 9) (k := 245) (by decide +kernel) ⟨by decide, hn⟩ (by rw [hK]) (by rw [hK]; decide)) ?_
    refine gm_sz (gm_p_goto (pc := 10) (off := 7) (by decide +kernel) (by decide)) ?_
    refine gm_sz (gm_p_const (pc := 17) (i := .iconst 0) (v := gm_vi 0) (by decide +kernel) (by decide +kernel)) ?_
    exact gm_r_int (pc := 18) (by decide +kernel) (Or.inl (by decide +kernel)) hq
  · simp only [List.mem_cons, List.not_mem_nil, or_false] at hi
    rcases hi with rfl
    · show (match gm_hit (gm_ow 155) 5 3 false (gm_hh 155) with
      | some (some h) => gm_Wp X LX (d + 1) _ _ 155 h (gm_ent 155 [gm_vr 1, gm_vi x0, gm_vi x1, gm_vr 245]) [gm_vo 4000] n1 K1 R1 M1 Q
      | some none => Q (.inr 3) n1 K1 R1 M1
      | none => False)
      rw [hl_155_3]
      show gm_Wp X LX (d + 1) _ _ 155 13 (gm_ent 155 [gm_vr 1, gm_vi x0, gm_vi x1, gm_vr 245]) [gm_vo 4000] n1 K1 R1 M1 Q
      refine gm_sz (gm_p_stor (pc := 13) (i := .astore 4) (sr := 2) (j := 4) (by decide +kernel) rfl (show 5 ≤ _ from Nat.le_of_ble_eq_true rfl) rfl) ?_
      refine gm_sz (gm_p_const (pc := 15) (i := .iconst 1) (v := gm_vi 1) (by decide +kernel) (by decide +kernel)) ?_
      exact gm_r_int (pc := 16) (by decide +kernel) (Or.inl (by decide +kernel)) hq
theorem hl_157_3 : gm_hit (gm_ow 157) 4 3 false (gm_hh 157) = some (some 12) := by decide +kernel
theorem hl_157_2 : gm_hit (gm_ow 157) 4 2 false (gm_hh 157) = some (some 15) := by decide +kernel
theorem hl_157 {x0 : Int} (k1 : (1 ≤ 1 ∧ 1 ≤ n) ∧ (K 1).1 = 0 + 4) (h : gm_Wp X LX d bc bs 158 0 (gm_ent 158 [gm_vr 1, gm_vi x0]) [] n K R M (hQ [(3, 1), (2, 2)] Q)) : gm_Wp X LX (d + 1) bc bs 157 0 (gm_ent 157 [gm_vr 1, gm_vi x0, gm_vr 245]) [] n K R M Q := by
  refine gm_sz (gm_p_load (pc := 0) (i := .aload_n 2) (sr := 2) (j := 2) (by decide +kernel) rfl rfl rfl) ?_
  refine gm_sz (gm_p_const (pc := 1) (i := .iconst 0) (v := gm_vi 0) (by decide +kernel) (by decide +kernel)) ?_
  refine gm_sz (gm_p_load (pc := 2) (i := .aload_n 0) (sr := 2) (j := 0) (by decide +kernel) rfl rfl rfl) ?_
  refine gm_sz (gm_p_load (pc := 3) (i := .iload_n 1) (sr := 0) (j := 1) (by decide +kernel) rfl rfl rfl) ?_
  refine gm_c_virtH (k := 1) (ci := 0) (mj := 158) (ix := 54) (pc := 4) (as := [gm_vi x0]) (st := [gm_vi 0, gm_vr 245]) (d' := d) (bc' := bc) (bs' := bs) (by decide +kernel) (by decide +kernel) (by decide +kernel) k1.1 k1.2 (by decide) (by decide +kernel) (show 1 = gm_na 158 by decide +kernel) (fw_c1 (by simp [gm_sort])) (show 1 + 1 ≤ gm_ml 158 by decide +kernel) (Nat.le_of_ble_eq_true rfl) (Nat.le_refl _) (Nat.le_refl _) (Nat.le_refl _) ?_
  refine gm_Wp_mono (fun o n1 K1 R1 M1 hq => ?_) h
  obtain ⟨⟨hn, hK⟩, hq⟩ := hq
  rcases hq with ⟨v, rfl, hq⟩ | ⟨i, hi, rfl, hq⟩
  · show gm_Wp X LX (d + 1) _ _ 157 7 (gm_ent 157 [gm_vr 1, gm_vi x0, gm_vr 245]) [gm_vi v, gm_vi 0, gm_vr 245] n1 K1 R1 M1 Q
    refine gm_sz (gm_p_i2l (pc := 7) (by decide +kernel)) ?_
    refine gm_sz (gm_p_last (pc := 8) (k := 245) (by decide +kernel) ⟨by decide, hn⟩ (by rw [hK]) (by rw [hK]; decide)) ?_
    refine gm_sz (gm_p_goto (pc := 9) (off := 9) (by decide +kernel) (by decide)) ?_
    refine gm_sz (gm_p_const (pc := 18) (i := .iconst 0) (v := gm_vi 0) (by decide +kernel) (by decide +kernel)) ?_
    exact gm_r_int (pc := 19) (by decide +kernel) (Or.inl (by decide +kernel)) hq
  · simp only [List.mem_cons, List.not_mem_nil, or_false] at hi
    rcases hi with rfl | rfl
    · show (match gm_hit (gm_ow 157) 4 3 false (gm_hh 157) with
      | some (some h) => gm_Wp X LX (d + 1) _ _ 157 h (gm_ent 157 [gm_vr 1, gm_vi x0, gm_vr 245]) [gm_vo 4000] n1 K1 R1 M1 Q
      | some none => Q (.inr 3) n1 K1 R1 M1
      | none => False)
      rw [hl_157_3]
      show gm_Wp X LX (d + 1) _ _ 157 12 (gm_ent 157 [gm_vr 1, gm_vi x0, gm_vr 245]) [gm_vo 4000] n1 K1 R1 M1 Q
      refine gm_sz (gm_p_stor (pc := 12) (i := .astore_n 3) (sr := 2) (j := 3) (by decide +kernel) rfl (show 4 ≤ _ from Nat.le_of_ble_eq_true rfl) rfl) ?_
      refine gm_sz (gm_p_const (pc := 13) (i := .iconst 1) (v := gm_vi 1) (by decide +kernel) (by decide +kernel)) ?_
      exact gm_r_int (pc := 14) (by decide +kernel) (Or.inl (by decide +kernel)) hq
    · show (match gm_hit (gm_ow 157) 4 2 false (gm_hh 157) with
      | some (some h) => gm_Wp X LX (d + 1) _ _ 157 h (gm_ent 157 [gm_vr 1, gm_vi x0, gm_vr 245]) [gm_vo 4000] n1 K1 R1 M1 Q
      | some none => Q (.inr 2) n1 K1 R1 M1
      | none => False)
      rw [hl_157_2]
      show gm_Wp X LX (d + 1) _ _ 157 15 (gm_ent 157 [gm_vr 1, gm_vi x0, gm_vr 245]) [gm_vo 4000] n1 K1 R1 M1 Q
      refine gm_sz (gm_p_stor (pc := 15) (i := .astore_n 3) (sr := 2) (j := 3) (by decide +kernel) rfl (show 4 ≤ _ from Nat.le_of_ble_eq_true rfl) rfl) ?_
      refine gm_sz (gm_p_const (pc := 16) (i := .iconst 2) (v := gm_vi 2) (by decide +kernel) (by decide +kernel)) ?_
      exact gm_r_int (pc := 17) (by decide +kernel) (Or.inl (by decide +kernel)) hq
theorem hl_160_0 : gm_hit (gm_ow 160) 4 0 false (gm_hh 160) = some (some 12) := by decide +kernel
theorem hl_160 {x0 : Int} (k1 : (1 ≤ 1 ∧ 1 ≤ n) ∧ (K 1).1 = 0 + 4) (h : gm_Wp X LX d bc bs 161 0 (gm_ent 161 [gm_vr 1, gm_vi x0]) [] n K R M (hQ [(0, 1)] Q)) : gm_Wp X LX (d + 1) bc bs 160 0 (gm_ent 160 [gm_vr 1, gm_vi x0, gm_vr 245]) [] n K R M Q := by
  refine gm_sz (gm_p_load (pc := 0) (i := .aload_n 2) (sr := 2) (j := 2) (by decide +kernel) rfl rfl rfl) ?_
  refine gm_sz (gm_p_const (pc := 1) (i := .iconst 0) (v := gm_vi 0) (by decide +kernel) (by decide +kernel)) ?_
  refine gm_sz (gm_p_load (pc := 2) (i := .aload_n 0) (sr := 2) (j := 0) (by decide +kernel) rfl rfl rfl) ?_
  refine gm_sz (gm_p_load (pc := 3) (i := .iload_n 1) (sr := 0) (j := 1) (by decide +kernel) rfl rfl rfl) ?_
  refine gm_c_virtH (k := 1) (ci := 0) (mj := 161) (ix := 59) (pc := 4) (as := [gm_vi x0]) (st := [gm_vi 0, gm_vr 245]) (d' := d) (bc' := bc) (bs' := bs) (by decide +kernel) (by decide +kernel) (by decide +kernel) k1.1 k1.2 (by decide) (by decide +kernel) (show 1 = gm_na 161 by decide +kernel) (fw_c1 (by simp [gm_sort])) (show 1 + 1 ≤ gm_ml 161 by decide +kernel) (Nat.le_of_ble_eq_true rfl) (Nat.le_refl _) (Nat.le_refl _) (Nat.le_refl _) ?_
  refine gm_Wp_mono (fun o n1 K1 R1 M1 hq => ?_) h
  obtain ⟨⟨hn, hK⟩, hq⟩ := hq
  rcases hq with ⟨v, rfl, hq⟩ | ⟨i, hi, rfl, hq⟩
  · show gm_Wp X LX (d + 1) _ _ 160 7 (gm_ent 160 [gm_vr 1, gm_vi x0, gm_vr 245]) [gm_vi v, gm_vi 0, gm_vr 245] n1 K1 R1 M1 Q
    refine gm_sz (gm_p_i2l (pc := 7) (by decide +kernel)) ?_
    refine gm_sz (gm_p_last (pc := 8) (k := 245) (by decide +kernel) ⟨by decide, hn⟩ (by rw [hK]) (by rw [hK]; decide)) ?_
    refine gm_sz (gm_p_goto (pc := 9) (off := 6) (by decide +kernel) (by decide)) ?_
    refine gm_sz (gm_p_const (pc := 15) (i := .iconst 0) (v := gm_vi 0) (by decide +kernel) (by decide +kernel)) ?_
    exact gm_r_int (pc := 16) (by decide +kernel) (Or.inl (by decide +kernel)) hq
  · simp only [List.mem_cons, List.not_mem_nil, or_false] at hi
    rcases hi with rfl
    · show (match gm_hit (gm_ow 160) 4 0 false (gm_hh 160) with
      | some (some h) => gm_Wp X LX (d + 1) _ _ 160 h (gm_ent 160 [gm_vr 1, gm_vi x0, gm_vr 245]) [gm_vo 4000] n1 K1 R1 M1 Q
      | some none => Q (.inr 0) n1 K1 R1 M1
      | none => False)
      rw [hl_160_0]
      show gm_Wp X LX (d + 1) _ _ 160 12 (gm_ent 160 [gm_vr 1, gm_vi x0, gm_vr 245]) [gm_vo 4000] n1 K1 R1 M1 Q
      refine gm_sz (gm_p_stor (pc := 12) (i := .astore_n 3) (sr := 2) (j := 3) (by decide +kernel) rfl (show 4 ≤ _ from Nat.le_of_ble_eq_true rfl) rfl) ?_
      refine gm_sz (gm_p_const (pc := 13) (i := .iconst 1) (v := gm_vi 1) (by decide +kernel) (by decide +kernel)) ?_
      exact gm_r_int (pc := 14) (by decide +kernel) (Or.inl (by decide +kernel)) hq
end HL14
end
/-! 7c15.wd -/
section
/-! THE WORLD BETWEEN THE CALLS and what is told of it: laws, acts of the class, acts of the reference. -/
/-- the law that a State of the class holds -/
noncomputable def LAWC (s : Nat) (lw : Option (List lln)) (K : gm_K) (M : gm_M) : Prop := (lw = none → s = 0) ∧ ∀ ls, lw = some ls → ¬ s = 0 ∧ LW ls ∧ ∃ NC : Nat, NC ≤ 400 ∧ K (bg_rho s 247) = (0, NC) ∧ LB NC (M (bg_rho s 247)) (M (bg_rho s 249)) (ls.length : Int) (fun k j => M (bg_rho s k) j) ∧ LC ls (M (bg_rho s 247)) (M (bg_rho s 249))
noncomputable def slotN (x : Int) (i : Nat) : Nat := 44 + 13 * ((x + 11 - (i : Int)) % 12).toNat
noncomputable def LWL (la : Nat → Nat) (K : gm_K) (M : gm_M) (lw : Option (List lln)) (A : List (Int → Int)) (im : Option ((Int → Int) × Option (List lln))) : Prop := LAWC (la 3) lw K M ∧ (∀ i : Nat, i < A.length → la (slotN (M 42 1) i) = la 3) ∧ ∀ NI lI, im = some (NI, lI) → LAWC (la 29) lI K M
theorem slot_ss : (List.range 12).all (fun p => decide (44 + 13 * p ∈ bg_ss)) = true := by decide
theorem slot_s {p : Nat} (h : p < 12) : 44 + 13 * p ∈ bg_ss := of_decide_eq_true (List.all_eq_true.mp slot_ss p (List.mem_range.mpr h))
theorem slotN_s {x : Int} {i : Nat} : slotN x i ∈ bg_ss := slot_s (by omega)
section WD15
variable {X : Int → Int} {LX : Nat} {O : gm_Or} {g z g1 : Nat} {la : Nat → Nat} {K K' K1 : gm_K} {R R1 : gm_R} {M M' M1 : gm_M} {S : ck_Sum} {L : gm_L} {st : List gm_V} {Q : gm_Q} {N N0 : Int → Int} {lw lw0 : Option (List lln)} {A A0 A' : List (Int → Int)} {im im0 : Option ((Int → Int) × Option (List lln))} {t w t0 w0 : Int} {f f0 : Int → Int}
theorem lawc_e {s : Nat} (h : LAWC s lw K M) (hs : s ≤ g) (eK : ∀ k, 246 ≤ k → k ≤ 245 + 4 * g → K' k = K k) (eM : ∀ k j, 246 ≤ k → k ≤ 245 + 4 * g → M' k j = M k j) : LAWC s lw K' M' := by
  refine ⟨h.1, fun ls hl => ?_⟩
  obtain ⟨h0, hW, NC, h1, h2, h3, h4⟩ := h.2 ls hl
  have r : ∀ k, 247 ≤ k → k ≤ 249 → 246 ≤ bg_rho s k ∧ bg_rho s k ≤ 245 + 4 * g := fun k k1 k2 => by
    unfold bg_rho
    rw [if_neg (by omega)]
    omega
  have q : ∀ k, 247 ≤ k → k ≤ 249 → M' (bg_rho s k) = M (bg_rho s k) := fun k k1 k2 => funext fun j => eM _ j (r k k1 k2).1 (r k k1 k2).2
  have e7 := q 247 (by decide) (by decide)
  have e8 := q 248 (by decide) (by decide)
  have e9 := q 249 (by decide) (by decide)
  refine ⟨h0, hW, NC, h1, by rw [eK _ (r 247 (by decide) (by decide)).1 (r 247 (by decide) (by decide)).2]; exact h2, ?_, by rw [e7, e9]; exact h4⟩
  unfold LB LM at h3 ⊢
  simpa only [e7, e8, e9] using h3
/-- what a call sees of the class's law -/
theorem cc_w (hb : bg g la K R M) (hz : bs_ok la z g1) (hz3 : ¬ z = 100003) (h : LAWC (la 3) lw K M) (hr : LAWR lw (M 227)) : ∃ (NC : Nat) (C Ln : Int → Int), CC (245 + 4 * g1) (bs_K la K) (bs_R z g1) NC C Ln (M 227) lw ∧ LBX NC C Ln lw (bs_M la M) := by
  have e8 : bs_R z g1 3 ((8 : Nat) : Int) = z := (bc_lf (s := 3) (by decide)).trans (if_pos rfl)
  cases lw with
  | none =>
    refine ⟨0, fun _ => 0, fun _ => 0, ⟨fun _ => ?_, fun ls e => nomatch e⟩, fun ls e => nomatch e⟩
    have h0 := h.1 rfl
    rw [e8]
    rcases hz with a | a | a
    · exact a.1
    · exact absurd a.1 hz3
    · exact absurd h0 a.2.2
  | some ls =>
    obtain ⟨h0, hW, NC, h1, h2, h3, h4⟩ := h.2 ls rfl
    have hz2 : z = 246 ∧ g1 = 1 := by
      rcases hz with a | a | a
      · exact absurd a.2.2 h0
      · exact absurd a.1 hz3
      · exact ⟨a.1, a.2.1⟩
    obtain ⟨rfl, rfl⟩ := hz2
    have hl3 := hb.2.2.2 3 (by decide)
    have hgg := hb.2.2.1 (la 3 - 1) (by omega)
    have er : ∀ t, t < 4 → bg_rho (la 3) (246 + t) = 246 + 4 * (la 3 - 1) + t := fun t h => by unfold bg_rho; rw [if_neg (by omega)]; omega
    obtain ⟨⟨k6, -, k8, k9⟩, -⟩ := hgg
    have q6 : bs_K la K 246 = (14, 0) := by unfold bs_K; rw [show 246 = 246 + 0 by rfl, er 0 (by decide)]; exact k6
    have q8 : bs_K la K 248 = (6, 0) := by unfold bs_K; rw [show 248 = 246 + 2 by rfl, er 2 (by decide)]; exact k8
    have q9 : bs_K la K 249 = (0, 48) := by unfold bs_K; rw [show 249 = 246 + 3 by rfl, er 3 (by decide)]; exact k9
    have r0 : bs_R 246 1 246 ((0 : Nat) : Int) = 248 := by unfold bs_R; rw [bg_no (by decide)]; rfl
    have r1 : bs_R 246 1 246 ((1 : Nat) : Int) = 247 := by unfold bs_R; rw [bg_no (by decide)]; rfl
    have r2 : bs_R 246 1 248 ((2 : Nat) : Int) = 249 := by unfold bs_R; rw [bg_no (by decide)]; rfl
    refine ⟨NC, M (bg_rho (la 3) 247), M (bg_rho (la 3) 249), ⟨(fun e => nomatch e), fun ls2 e => ?_⟩, fun ls2 e => ?_⟩
    · cases e
      exact ⟨e8, ⟨⟨⟨⟨by decide, by decide⟩, by rw [q6]⟩, ⟨⟨by decide, by decide⟩, h2⟩, ⟨⟨by decide, by decide⟩, by rw [q8]⟩, ⟨by decide, by decide⟩, q9⟩, ⟨r0, r1, r2⟩, h1⟩, hW, h4, (hr.2 ls rfl).2.2.1⟩
    · cases e
      exact h3
theorem e0_w (hb : bg g la K R M) (hz : bs_ok la z g1) : E0 (245 + 4 * g1) (bs_K la K) (bs_R z g1) := by
  rcases hz with a | a | a
  · obtain ⟨rfl, rfl, h0⟩ := a
    exact e0F (bs_F0 hb)
  · obtain ⟨rfl, rfl⟩ := a
    exact e0F (bs_F0 hb)
  · obtain ⟨rfl, rfl, h0⟩ := a
    exact e0F (pl_o (bs_F1 hb h0))
theorem cst_w (hb : bg g la K R M) : CST (bs_M la M) := cstF (bs_F0 (z := 0) hb)
theorem ck_le {k : Nat} {j : Int} (h : cK k j) : k < 226 := by unfold cK at h; omega
theorem ck_ge {k : Nat} {j : Int} (h : cK k j) : 1 ≤ k := by unfold cK at h; omega
theorem rk_le {k : Nat} {j : Int} (h : rK k j) : 226 ≤ k ∧ k ≤ 235 := by unfold rK at h; omega
theorem clv_w (hb : bg g la K R M) (hV : CLV N lw A im t w f M) : CLV N lw A im t w f (bs_M la M) := clv_e hV (cst_w hb) (fun k j hk => vM (by have := ck_le hk; omega))
theorem rfv_w (hV : RFV N lw A im t w f M) : RFV N lw A im t w f (bs_M la M) := rfv_e hV (fun k j hk => vM (by have := rk_le hk; omega))
/-- what a call on the class leaves -/
noncomputable def DQ (n : Nat) (K : gm_K) (u : Option gm_V) (ov : Option Int) (RR : gm_R → gm_M → Prop) (N : Int → Int) (lw : Option (List lln)) (A : List (Int → Int)) (im : Option ((Int → Int) × Option (List lln))) (t w : Int) (f : Int → Int) : gm_Q := fun o n1 K1 R1 M1 => (n1 = n ∧ K1 = K) ∧ o = .inl u ∧ (∀ v, ov = some v → M1 245 0 = gm_w v) ∧ CLV N lw A im t w f M1 ∧ RR R1 M1
/-- rows of the class: cells below 226, and 245 -/
noncomputable def w_x (O : gm_Or) (z g1 k1 : Nat) (t : Bool) (S : ck_Sum) : Bool := bc_ok O z g1 S && (bc_args S k1 t && (decide (S.1.1 + 1 ≤ 280 ∧ S.1.2.1 ≤ 6 ∧ S.1.2.2 ≤ 600) && S.2.2.2.2.1.1.all fun w => decide (w.1 < 226 ∨ w.1 = 245)))
/-- rows of the reference: cells 226 to 244 -/
noncomputable def w_m (S : ck_Sum) : Bool := bc_ok p2_O 100003 0 S && (bc_args S 226 false && (decide (S.1.1 + 1 ≤ 280 ∧ S.1.2.1 ≤ 6 ∧ S.1.2.2 ≤ 600) && S.2.2.2.2.1.1.all fun w => decide (w.1 = 0 ∨ (226 ≤ w.1 ∧ w.1 ≤ 244))))
theorem bg_oldM {k : Nat} {j : Int} (h1 : 246 ≤ k) (h2 : k ≤ 245 + 4 * g) : bg_M g M M' k j = M k j := by unfold bg_M; rw [if_neg (by omega), if_pos h2]
/-- behind a call on the class: what is told is told of the world -/
noncomputable def wx_K (X : Int → Int) (LX bc bs pc : Nat) (L : gm_L) (st : List gm_V) (Q : gm_Q) (g z g1 : Nat) (la : Nat → Nat) (K : gm_K) (M : gm_M) (u : Option gm_V) (ov : Option Int) (RR : gm_R → gm_M → Prop) (N : Int → Int) (lw : Option (List lln)) (A : List (Int → Int)) (im : Option ((Int → Int) × Option (List lln))) (t w : Int) (f : Int → Int) (N0 : Int → Int) (lw0 : Option (List lln)) (A0 : List (Int → Int)) (im0 : Option ((Int → Int) × Option (List lln))) (t0 w0 : Int) (f0 : Int → Int) : Prop := ∀ (R1 : gm_R) (M1 : gm_M) (K2 : gm_K) (R2 : gm_R) (M2 : gm_M), RR R1 M1 → bg g (bg_la la g 0 R1) K2 R2 M2 → (∀ k, 246 ≤ k → k ≤ 245 + 4 * g → K2 k = K k) → (∀ k j, 246 ≤ k → k ≤ 245 + 4 * g → M2 k j = M k j) → M2 42 1 = M1 42 1 → (∀ v, ov = some v → Int64.ofInt (M2 245 0) = Int64.ofInt (gm_w v)) → CLV N lw A im t w f M2 → RFV N0 lw0 A0 im0 t0 w0 f0 M2 → gm_Wp X LX 280 (bc - 6) (bs - 600) 370 pc L (u.toList ++ st) (245 + 4 * g) K2 R2 M2 Q
theorem wx_s {bc bs pc k1 : Nat} {tt : Bool} {u : Option gm_V} {ov : Option Int} {RR : gm_R → gm_M → Prop} (hb : bg g la K R M) (hz : bs_ok la z g1) (hg : g < 10000) (hO : ∀ n K R M, gm_Fx O n K R M → gm_Fx p2_O n K R M) (hck : w_x O z g1 k1 tt S = true) (hRA : RA N lw A im t w f) (hRf : RFV N0 lw0 A0 im0 t0 w0 f0 M) (hu : u = none ∨ ∃ x, u = some (gm_vi x)) (hRR : ∀ R1 M1, RR R1 M1 → rvR z g1 R1) (k : wx_K X LX bc bs pc L st Q g z g1 la K M u ov RR N lw A im t w f N0 lw0 A0 im0 t0 w0 f0) : bc_KM X LX 280 (bc - 6) (bs - 600) 370 pc L st Q O z g1 g la K R M S (DQ (245 + 4 * g1) (bs_K la K) u ov RR N lw A im t w f) := by
  simp only [w_x, Bool.and_eq_true, decide_eq_true_eq] at hck
  obtain ⟨-, -, -, hW⟩ := hck
  have hg1 : g1 ≤ 1 := by rcases hz with h | h | h <;> omega
  intro o n1 K1 R1 M1 σ o2 n2 K2 R2 M2 q1 q2 ho hdt
  obtain ⟨⟨rfl, rfl⟩, rfl, hv, hV, hrr⟩ := q1
  obtain ⟨hF2, hfr, -⟩ := q2
  have hF2 := hO _ _ _ _ hF2
  have hk12 : ∀ k, 1 ≤ k → k ≤ 245 + 4 * g1 → bs_K la K k = K2 k := fun k _ hk => (hfr.2.1 k hk).symm
  refine ⟨hk12, ?_⟩
  have hW2 : S.2.2.2.2.1.1.all (fun w => decide (w.1 ≤ 245)) = true := List.all_eq_true.mpr fun w hw => by
    have := of_decide_eq_true (List.all_eq_true.mp hW w hw)
    exact decide_eq_true (by omega)
  have hrt := rt_of (K1 := bs_K la K) (M1 := bs_M la M) (Ka := bs_K la K) (Ma := M1) hg1 (hRR R1 M1 hrr) hF2 hfr hW2 (fun _ _ => rfl)
  refine bg_oweX (c := 0) hb hz hg hrt hu (fun hb2 => ?_)
  have hV2 := clv_dt hdt (by omega) hk12 hF2 hRA hV
  have e : ∀ k j, k ≤ 245 → bg_M g M (mxM (245 + 4 * g1) M2 M1) k j = M2 k j := fun k j hk => (bg_Ms hk j).trans (mxM_o (by omega))
  have hx : 0 ≤ M1 42 1 ∧ M1 42 1 < 12 := his_nx hV.1.2
  refine k R1 M1 _ _ _ hrr hb2 (fun k k1 k2 => bg_Ks k2) (fun k j k1 k2 => bg_oldM k1 k2) ?_ (fun v hv2 => ?_) ?_ ?_
  · rw [e 42 1 (by decide)]
    have e42 : M2 42 1 = gm_w (M1 42 1) := dw_f hdt (by omega) hk12 hF2 dt_c2.1
    rw [e42]
    exact dw_i ⟨by omega, by omega⟩
  · rw [e 245 0 (by decide), ← hv v hv2]
    have k245 := hF2.1 245 (2, 1) (by decide +kernel)
    have ee := hk12 245 (by decide) (by omega)
    exact ((hdt 245 (by decide) (by omega) ee).2.1 (by rw [ee, k245.2.2]) 0 (by rw [ee, k245.2.2]; decide)).symm
  · exact clv_e hV2 (cstF hb2.2.1) (fun k j hk => e k j (by have := ck_le hk; omega))
  · refine rfv_e hRf (fun k j hk => ?_)
    have hk := rk_le hk
    rw [e k j (by omega), hfr.2.2.1 k j (by omega) (fun w hw hh => by have := of_decide_eq_true (List.all_eq_true.mp hW w hw); omega)]
    exact vM (by omega)
/-- what a call on the reference leaves -/
noncomputable def RDQ (n : Nat) (K : gm_K) (R : gm_R) (P : Option gm_V → Prop) (oc : Option Int) (N : Int → Int) (lw : Option (List lln)) (A : List (Int → Int)) (im : Option ((Int → Int) × Option (List lln))) (t w : Int) (f : Int → Int) : gm_Q := fun o n1 K1 R1 M1 => (n1 = n ∧ K1 = K ∧ R1 = R) ∧ (∃ u, o = .inl u ∧ P u) ∧ (∀ c, oc = some c → gm_ir c ∧ M1 226 0 = c) ∧ RFV N lw A im t w f M1
noncomputable def wm_K (X : Int → Int) (LX bc bs pc : Nat) (L : gm_L) (st : List gm_V) (Q : gm_Q) (g : Nat) (la : Nat → Nat) (K : gm_K) (M : gm_M) (P : Option gm_V → Prop) (oc : Option Int) (N : Int → Int) (lw : Option (List lln)) (A : List (Int → Int)) (im : Option ((Int → Int) × Option (List lln))) (t w : Int) (f : Int → Int) : Prop := ∀ (u : Option gm_V) (la2 : Nat → Nat) (K2 : gm_K) (R2 : gm_R) (M2 : gm_M), P u → (∀ s ∈ bg_ss, la2 s = la s) → bg g la2 K2 R2 M2 → (∀ k, 246 ≤ k → k ≤ 245 + 4 * g → K2 k = K k) → (∀ k j, 246 ≤ k → k ≤ 245 + 4 * g → M2 k j = M k j) → M2 42 1 = M 42 1 → M2 245 0 = M 245 0 → (∀ c, oc = some c → M2 226 0 = c) → CLV N lw A im t w f M2 → RFV N lw A im t w f M2 → gm_Wp X LX 280 (bc - 6) (bs - 600) 370 pc L (u.toList ++ st) (245 + 4 * g) K2 R2 M2 Q
theorem wm_c1 : tyF 226 11 0 = true := by decide +kernel
theorem wm_s {bc bs pc : Nat} {P : Option gm_V → Prop} {oc : Option Int} (hb : bg g la K R M) (hg : g < 10000) (hck : w_m S = true) (hRA : RA N lw A im t w f) (hC : CLV N lw A im t w f M) (hP : ∀ u, P u → u = none ∨ ∃ x, u = some (gm_vi x)) (k : wm_K X LX bc bs pc L st Q g la K M P oc N lw A im t w f) : bc_KM X LX 280 (bc - 6) (bs - 600) 370 pc L st Q p2_O 100003 0 g la K R M S (RDQ 245 (bs_K la K) (bs_R 100003 0) P oc N lw A im t w f) := by
  have hz : bs_ok la 100003 0 := Or.inr (Or.inl ⟨rfl, rfl⟩)
  simp only [w_m, Bool.and_eq_true, decide_eq_true_eq] at hck
  obtain ⟨-, -, -, hW⟩ := hck
  intro o n1 K1 R1 M1 σ o2 n2 K2 R2 M2 q1 q2 ho hdt
  obtain ⟨⟨rfl, rfl, rfl⟩, ⟨u, rfl, hu⟩, hc, hV⟩ := q1
  obtain ⟨hF2, hfr, -⟩ := q2
  have hk12 : ∀ k, 1 ≤ k → k ≤ 245 + 4 * 0 → bs_K la K k = K2 k := fun k _ hk => (hfr.2.1 k hk).symm
  refine ⟨hk12, ?_⟩
  have hW2 : S.2.2.2.2.1.1.all (fun w => decide (w.1 ≤ 245)) = true := List.all_eq_true.mpr fun w hw => by
    have := of_decide_eq_true (List.all_eq_true.mp hW w hw)
    exact decide_eq_true (by omega)
  have hrt := rt_of (K1 := bs_K la K) (M1 := bs_M la M) (Ka := bs_K la K) (Ma := M1) (g1 := 0) (by decide) (rvR_0 hz) hF2 hfr hW2 (fun _ _ => rfl)
  refine bg_oweX (c := 0) hb hz hg hrt (hP u hu) (fun hb2 => ?_)
  have hV2 := rfv_dt hdt (by omega) hk12 hF2 hRA hV
  have e : ∀ k j, k ≤ 245 → bg_M g M (mxM (245 + 4 * 0) M2 M1) k j = M2 k j := fun k j hk => (bg_Ms hk j).trans (mxM_o (by omega))
  have e2 : ∀ k j, (1 ≤ k ∧ k < 226) ∨ k = 245 → bg_M g M (mxM (245 + 4 * 0) M2 M1) k j = M k j := fun k j hk => by
    rw [e k j (by omega), hfr.2.2.1 k j (by omega) (fun w hw hh => by have := of_decide_eq_true (List.all_eq_true.mp hW w hw); omega)]
    exact vM (by omega)
  refine k u _ _ _ _ hu (fun s hs => bg_dcs hz hs) hb2 (fun k k1 k2 => bg_Ks k2) (fun k j k1 k2 => bg_oldM k1 k2) (e2 42 1 (by decide)) (e2 245 0 (by decide)) (fun c hc2 => ?_) ?_ ?_
  · obtain ⟨c1, c2⟩ := hc c hc2
    rw [e 226 0 (by decide)]
    have := dw_f hdt (by decide) hk12 hF2 wm_c1
    rw [show ((0 : Nat) : Int) = 0 by rfl] at this
    rw [this, c2]
    exact dw_i c1
  · exact clv_e hC (cstF hb2.2.1) (fun k j hk => e2 k j (Or.inl ⟨ck_ge hk, ck_le hk⟩))
  · exact rfv_e hV2 (fun k j hk => e k j (by have := rk_le hk; omega))
end WD15
end
