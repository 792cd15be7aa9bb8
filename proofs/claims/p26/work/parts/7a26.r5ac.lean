/-! THE REFERENCE: what is refused, what is remembered, image, heats (laid by wip/core/r5.py). -/
section AR5
variable {X : Int → Int} {LX d bc bs n : Nat} {K : gm_K} {R : gm_R} {M : gm_M} {Q : gm_Q} {i x y z c v : Int} {N h : Int → Int} {A : List (Int → Int)}
theorem tf_1 (hE : E0 n K R) (hq : Q (.inl (some (gm_vi 1))) n K R (gm_uM M 226 0 c)) : gm_Wp X LX d bc bs 282 0 (gm_ent 282 [gm_vr 226, gm_vi 1, gm_vi c]) [] n K R M Q := by
  refine gm_sz (gm_p_load (pc := 0) (i := .iload_n 1) (sr := 0) (j := 1) (by decide +kernel) rfl rfl rfl) ?_
  refine fw_iffd (cc := .eq) (pc := 1) (off := 8) (by decide +kernel) (by decide) ⟨by decide, by decide⟩ (by decide) ?_
  refine gm_sz (gm_p_load (pc := 4) (i := .aload_n 0) (sr := 2) (j := 0) (by decide +kernel) rfl rfl rfl) ?_
  refine gm_sz (gm_p_load (pc := 5) (i := .iload_n 2) (sr := 0) (j := 2) (by decide +kernel) rfl rfl rfl) ?_
  refine gm_sz (fw_pi (pc := 6) (ix := 3) (ci := 11) (j := 0) (M' := gm_uM M 226 0 c) (by decide +kernel) (e0k hE (k := 226) (c := 11) (by decide +kernel)) (by decide +kernel) (by decide +kernel) (by decide +kernel) rfl) ?_
  refine gm_sz (gm_p_load (pc := 9) (i := .iload_n 1) (sr := 0) (j := 1) (by decide +kernel) rfl rfl rfl) ?_
  exact gm_r_int (pc := 10) (by decide +kernel) (Or.inr ⟨(by decide +kernel), Or.inr rfl⟩) hq
theorem tf_0 (hE : E0 n K R) (hq : Q (.inl (some (gm_vi 0))) n K R M) : gm_Wp X LX d bc bs 282 0 (gm_ent 282 [gm_vr 226, gm_vi 0, gm_vi c]) [] n K R M Q := by
  refine gm_sz (gm_p_load (pc := 0) (i := .iload_n 1) (sr := 0) (j := 1) (by decide +kernel) rfl rfl rfl) ?_
  refine fw_iftd (cc := .eq) (pc := 1) (off := 8) (by decide +kernel) (by decide) ⟨by decide, by decide⟩ (by decide) ?_
  refine gm_sz (gm_p_load (pc := 9) (i := .iload_n 1) (sr := 0) (j := 1) (by decide +kernel) rfl rfl rfl) ?_
  exact gm_r_int (pc := 10) (by decide +kernel) (Or.inr ⟨(by decide +kernel), Or.inl rfl⟩) hq
theorem in_286 (hx : gm_ir x) (hy : gm_ir y) (hz : gm_ir z) (q1 : y ≤ x → x ≤ z → Q (.inl (some (gm_vi 1))) n K R M) (q0 : ¬ (y ≤ x ∧ x ≤ z) → Q (.inl (some (gm_vi 0))) n K R M) : gm_Wp X LX d bc bs 286 0 (gm_ent 286 [gm_vi x, gm_vi y, gm_vi z]) [] n K R M Q := by
  refine gm_sz (gm_p_load (pc := 0) (i := .iload_n 0) (sr := 0) (j := 0) (by decide +kernel) rfl rfl rfl) ?_
  refine gm_sz (gm_p_load (pc := 1) (i := .iload_n 1) (sr := 0) (j := 1) (by decide +kernel) rfl rfl rfl) ?_
  refine fw_ic (cc := .lt) (pc := 2) (off := 12) (by decide +kernel) (by decide) hx hy (fun h2 => ?_) (fun h2 => ?_)
  · have h2 : x < y := h2
    refine gm_sz (gm_p_const (pc := 14) (i := .iconst 0) (v := gm_vi 0) (by decide +kernel) (by decide +kernel)) ?_
    exact gm_r_int (pc := 15) (by decide +kernel) (Or.inr ⟨(by decide +kernel), Or.inl rfl⟩) (q0 (by omega))
  · have h2 : ¬ x < y := h2
    refine gm_sz (gm_p_load (pc := 5) (i := .iload_n 0) (sr := 0) (j := 0) (by decide +kernel) rfl rfl rfl) ?_
    refine gm_sz (gm_p_load (pc := 6) (i := .iload_n 2) (sr := 0) (j := 2) (by decide +kernel) rfl rfl rfl) ?_
    refine fw_ic (cc := .gt) (pc := 7) (off := 7) (by decide +kernel) (by decide) hx hz (fun h7 => ?_) (fun h7 => ?_)
    · have h7 : z < x := h7
      refine gm_sz (gm_p_const (pc := 14) (i := .iconst 0) (v := gm_vi 0) (by decide +kernel) (by decide +kernel)) ?_
      exact gm_r_int (pc := 15) (by decide +kernel) (Or.inr ⟨(by decide +kernel), Or.inl rfl⟩) (q0 (by omega))
    · have h7 : ¬ z < x := h7
      refine gm_sz (gm_p_const (pc := 10) (i := .iconst 1) (v := gm_vi 1) (by decide +kernel) (by decide +kernel)) ?_
      refine gm_sz (gm_p_goto (pc := 11) (off := 4) (by decide +kernel) (by decide)) ?_
      exact gm_r_int (pc := 15) (by decide +kernel) (Or.inr ⟨(by decide +kernel), Or.inr rfl⟩) (q1 (by omega) (by omega))
theorem no_288 (hd : 1 ≤ d) (hE : E0 n K R) (hT : TR N h M) (hN : NR N) (hi : gm_ir i) (q1 : ¬ (0 ≤ i ∧ i < N 0) → Q (.inl (some (gm_vi 1))) n K R M) (q0 : 0 ≤ i ∧ i < N 0 → Q (.inl (some (gm_vi 0))) n K R M) : gm_Wp X LX d bc bs 288 0 (gm_ent 288 [gm_vr 226, gm_vi i]) [] n K R M Q := by
  obtain ⟨⟨⟨a0, b0⟩, ⟨a1, b1⟩, ⟨a10, b10⟩, ⟨a11, b11⟩, ⟨a12, b12⟩, a9, b9⟩, ⟨⟨a2, b2⟩, ⟨a5, b5⟩, ⟨a3, b3⟩, ⟨a4, b4⟩, ⟨a6, b6⟩, ⟨a14, b14⟩, ⟨a7, b7⟩, a13, b13⟩, rF, rP, rL⟩ := id hN
  refine gm_sz (gm_p_load (pc := 0) (i := .iload_n 1) (sr := 0) (j := 1) (by decide +kernel) rfl rfl rfl) ?_
  refine gm_sz (gm_p_const (pc := 1) (i := .iconst 0) (v := gm_vi 0) (by decide +kernel) (by decide +kernel)) ?_
  refine gm_sz (gm_p_load (pc := 2) (i := .aload_n 0) (sr := 2) (j := 0) (by decide +kernel) rfl rfl rfl) ?_
  refine gm_c_virt (k := 226) (ci := 11) (mj := 261) (ix := 86) (pc := 3) (as := []) (st := [gm_vi 0, gm_vi i]) (d' := d - 1) (bc' := 0) (bs' := 0) (by decide +kernel) (by decide +kernel) (by decide +kernel) (by decide +kernel) (e0k hE (k := 226) (c := 11) (by decide +kernel)).1 (e0k hE (k := 226) (c := 11) (by decide +kernel)).2 (by decide) (by decide +kernel) (show 0 = gm_na 261 by decide +kernel) fw_c0 (show 1 ≤ gm_ml 261 by decide +kernel) (Nat.le_of_ble_eq_true rfl) (by omega) (Nat.zero_le _) (Nat.zero_le _) ?_
  refine re_lan hE hT hN ?_
  show gm_Wp X LX d _ _ 288 6 _ [gm_vi (N 0), gm_vi 0, gm_vi i] n K _ _ Q
  refine gm_sz (gm_p_const (pc := 6) (i := .iconst 1) (v := gm_vi 1) (by decide +kernel) (by decide +kernel)) ?_
  refine gm_sz (gm_p_bin (pc := 7) (i := .isub) (f := fun x y => x - y) (by decide +kernel) rfl) ?_
  refine gm_c_stat (mj := 286) (ix := 90) (pc := 8) (as := [gm_vi i, gm_vi 0, gm_vi ((N 0) - 1)]) (st := []) (d' := d - 1) (bc' := 0) (bs' := 0) (by decide +kernel) (by decide +kernel) (by decide +kernel) (by decide +kernel) (show 3 = gm_na 286 by decide +kernel) (fw_c3 fw_si fw_si fw_si) (show 3 ≤ gm_ml 286 by decide +kernel) (Nat.le_of_ble_eq_true rfl) (by omega) (Nat.zero_le _) (Nat.zero_le _) ?_
  refine in_286 (x := i) (y := 0) (z := ((N 0) - 1)) hi ⟨by decide, by decide⟩ ⟨by omega, by omega⟩ (fun k8a k8 => ?_) (fun k8 => ?_)
  · show gm_Wp X LX d _ _ 288 11 _ [gm_vi 1] n K _ _ Q
    have k8a : 0 ≤ i := k8a
    have k8 : i ≤ ((N 0) - 1) := k8
    refine fw_iftd (cc := .ne) (pc := 11) (off := 7) (by decide +kernel) (by decide) ⟨by decide, by decide⟩ (by decide) ?_
    refine gm_sz (gm_p_const (pc := 18) (i := .iconst 0) (v := gm_vi 0) (by decide +kernel) (by decide +kernel)) ?_
    exact gm_r_int (pc := 19) (by decide +kernel) (Or.inr ⟨(by decide +kernel), Or.inl rfl⟩) (q0 (by omega))
  · show gm_Wp X LX d _ _ 288 11 _ [gm_vi 0] n K _ _ Q
    have k8 : ¬ (0 ≤ i ∧ i ≤ ((N 0) - 1)) := k8
    refine fw_iffd (cc := .ne) (pc := 11) (off := 7) (by decide +kernel) (by decide) ⟨by decide, by decide⟩ (by decide) ?_
    refine gm_sz (gm_p_const (pc := 14) (i := .iconst 1) (v := gm_vi 1) (by decide +kernel) (by decide +kernel)) ?_
    refine gm_sz (gm_p_goto (pc := 15) (off := 4) (by decide +kernel) (by decide)) ?_
    exact gm_r_int (pc := 19) (by decide +kernel) (Or.inr ⟨(by decide +kernel), Or.inr rfl⟩) (q1 (by omega))
theorem no_289 (hd : 1 ≤ d) (hE : E0 n K R) (hT : TR N h M) (hN : NR N) (hi : gm_ir i) (q1 : ¬ (0 ≤ i ∧ i < N 1) → Q (.inl (some (gm_vi 1))) n K R M) (q0 : 0 ≤ i ∧ i < N 1 → Q (.inl (some (gm_vi 0))) n K R M) : gm_Wp X LX d bc bs 289 0 (gm_ent 289 [gm_vr 226, gm_vi i]) [] n K R M Q := by
  obtain ⟨⟨⟨a0, b0⟩, ⟨a1, b1⟩, ⟨a10, b10⟩, ⟨a11, b11⟩, ⟨a12, b12⟩, a9, b9⟩, ⟨⟨a2, b2⟩, ⟨a5, b5⟩, ⟨a3, b3⟩, ⟨a4, b4⟩, ⟨a6, b6⟩, ⟨a14, b14⟩, ⟨a7, b7⟩, a13, b13⟩, rF, rP, rL⟩ := id hN
  refine gm_sz (gm_p_load (pc := 0) (i := .iload_n 1) (sr := 0) (j := 1) (by decide +kernel) rfl rfl rfl) ?_
  refine gm_sz (gm_p_const (pc := 1) (i := .iconst 0) (v := gm_vi 0) (by decide +kernel) (by decide +kernel)) ?_
  refine gm_sz (gm_p_load (pc := 2) (i := .aload_n 0) (sr := 2) (j := 0) (by decide +kernel) rfl rfl rfl) ?_
  refine gm_c_virt (k := 226) (ci := 11) (mj := 259) (ix := 94) (pc := 3) (as := []) (st := [gm_vi 0, gm_vi i]) (d' := d - 1) (bc' := 0) (bs' := 0) (by decide +kernel) (by decide +kernel) (by decide +kernel) (by decide +kernel) (e0k hE (k := 226) (c := 11) (by decide +kernel)).1 (e0k hE (k := 226) (c := 11) (by decide +kernel)).2 (by decide) (by decide +kernel) (show 0 = gm_na 259 by decide +kernel) fw_c0 (show 1 ≤ gm_ml 259 by decide +kernel) (Nat.le_of_ble_eq_true rfl) (by omega) (Nat.zero_le _) (Nat.zero_le _) ?_
  refine re_lip hE hT hN ?_
  show gm_Wp X LX d _ _ 289 6 _ [gm_vi (N 1), gm_vi 0, gm_vi i] n K _ _ Q
  refine gm_sz (gm_p_const (pc := 6) (i := .iconst 1) (v := gm_vi 1) (by decide +kernel) (by decide +kernel)) ?_
  refine gm_sz (gm_p_bin (pc := 7) (i := .isub) (f := fun x y => x - y) (by decide +kernel) rfl) ?_
  refine gm_c_stat (mj := 286) (ix := 90) (pc := 8) (as := [gm_vi i, gm_vi 0, gm_vi ((N 1) - 1)]) (st := []) (d' := d - 1) (bc' := 0) (bs' := 0) (by decide +kernel) (by decide +kernel) (by decide +kernel) (by decide +kernel) (show 3 = gm_na 286 by decide +kernel) (fw_c3 fw_si fw_si fw_si) (show 3 ≤ gm_ml 286 by decide +kernel) (Nat.le_of_ble_eq_true rfl) (by omega) (Nat.zero_le _) (Nat.zero_le _) ?_
  refine in_286 (x := i) (y := 0) (z := ((N 1) - 1)) hi ⟨by decide, by decide⟩ ⟨by omega, by omega⟩ (fun k8a k8 => ?_) (fun k8 => ?_)
  · show gm_Wp X LX d _ _ 289 11 _ [gm_vi 1] n K _ _ Q
    have k8a : 0 ≤ i := k8a
    have k8 : i ≤ ((N 1) - 1) := k8
    refine fw_iftd (cc := .ne) (pc := 11) (off := 7) (by decide +kernel) (by decide) ⟨by decide, by decide⟩ (by decide) ?_
    refine gm_sz (gm_p_const (pc := 18) (i := .iconst 0) (v := gm_vi 0) (by decide +kernel) (by decide +kernel)) ?_
    exact gm_r_int (pc := 19) (by decide +kernel) (Or.inr ⟨(by decide +kernel), Or.inl rfl⟩) (q0 (by omega))
  · show gm_Wp X LX d _ _ 289 11 _ [gm_vi 0] n K _ _ Q
    have k8 : ¬ (0 ≤ i ∧ i ≤ ((N 1) - 1)) := k8
    refine fw_iffd (cc := .ne) (pc := 11) (off := 7) (by decide +kernel) (by decide) ⟨by decide, by decide⟩ (by decide) ?_
    refine gm_sz (gm_p_const (pc := 14) (i := .iconst 1) (v := gm_vi 1) (by decide +kernel) (by decide +kernel)) ?_
    refine gm_sz (gm_p_goto (pc := 15) (off := 4) (by decide +kernel) (by decide)) ?_
    exact gm_r_int (pc := 19) (by decide +kernel) (Or.inr ⟨(by decide +kernel), Or.inr rfl⟩) (q1 (by omega))
theorem no_298 (hd : 1 ≤ d) (hE : E0 n K R) (hT : TR N h M) (hN : NR N) (hi : gm_ir i) (q1 : ¬ (0 ≤ i ∧ i < N 3) → Q (.inl (some (gm_vi 1))) n K R M) (q0 : 0 ≤ i ∧ i < N 3 → Q (.inl (some (gm_vi 0))) n K R M) : gm_Wp X LX d bc bs 298 0 (gm_ent 298 [gm_vr 226, gm_vi i]) [] n K R M Q := by
  obtain ⟨⟨⟨a0, b0⟩, ⟨a1, b1⟩, ⟨a10, b10⟩, ⟨a11, b11⟩, ⟨a12, b12⟩, a9, b9⟩, ⟨⟨a2, b2⟩, ⟨a5, b5⟩, ⟨a3, b3⟩, ⟨a4, b4⟩, ⟨a6, b6⟩, ⟨a14, b14⟩, ⟨a7, b7⟩, a13, b13⟩, rF, rP, rL⟩ := id hN
  refine gm_sz (gm_p_load (pc := 0) (i := .iload_n 1) (sr := 0) (j := 1) (by decide +kernel) rfl rfl rfl) ?_
  refine gm_sz (gm_p_const (pc := 1) (i := .iconst 0) (v := gm_vi 0) (by decide +kernel) (by decide +kernel)) ?_
  refine gm_sz (gm_p_load (pc := 2) (i := .aload_n 0) (sr := 2) (j := 0) (by decide +kernel) rfl rfl rfl) ?_
  refine gm_c_virt (k := 226) (ci := 11) (mj := 253) (ix := 97) (pc := 3) (as := []) (st := [gm_vi 0, gm_vi i]) (d' := d - 1) (bc' := 0) (bs' := 0) (by decide +kernel) (by decide +kernel) (by decide +kernel) (by decide +kernel) (e0k hE (k := 226) (c := 11) (by decide +kernel)).1 (e0k hE (k := 226) (c := 11) (by decide +kernel)).2 (by decide) (by decide +kernel) (show 0 = gm_na 253 by decide +kernel) fw_c0 (show 1 ≤ gm_ml 253 by decide +kernel) (Nat.le_of_ble_eq_true rfl) (by omega) (Nat.zero_le _) (Nat.zero_le _) ?_
  refine re_peo hE hT hN ?_
  show gm_Wp X LX d _ _ 298 6 _ [gm_vi (N 3), gm_vi 0, gm_vi i] n K _ _ Q
  refine gm_sz (gm_p_const (pc := 6) (i := .iconst 1) (v := gm_vi 1) (by decide +kernel) (by decide +kernel)) ?_
  refine gm_sz (gm_p_bin (pc := 7) (i := .isub) (f := fun x y => x - y) (by decide +kernel) rfl) ?_
  refine gm_c_stat (mj := 286) (ix := 90) (pc := 8) (as := [gm_vi i, gm_vi 0, gm_vi ((N 3) - 1)]) (st := []) (d' := d - 1) (bc' := 0) (bs' := 0) (by decide +kernel) (by decide +kernel) (by decide +kernel) (by decide +kernel) (show 3 = gm_na 286 by decide +kernel) (fw_c3 fw_si fw_si fw_si) (show 3 ≤ gm_ml 286 by decide +kernel) (Nat.le_of_ble_eq_true rfl) (by omega) (Nat.zero_le _) (Nat.zero_le _) ?_
  refine in_286 (x := i) (y := 0) (z := ((N 3) - 1)) hi ⟨by decide, by decide⟩ ⟨by omega, by omega⟩ (fun k8a k8 => ?_) (fun k8 => ?_)
  · show gm_Wp X LX d _ _ 298 11 _ [gm_vi 1] n K _ _ Q
    have k8a : 0 ≤ i := k8a
    have k8 : i ≤ ((N 3) - 1) := k8
    refine fw_iftd (cc := .ne) (pc := 11) (off := 7) (by decide +kernel) (by decide) ⟨by decide, by decide⟩ (by decide) ?_
    refine gm_sz (gm_p_const (pc := 18) (i := .iconst 0) (v := gm_vi 0) (by decide +kernel) (by decide +kernel)) ?_
    exact gm_r_int (pc := 19) (by decide +kernel) (Or.inr ⟨(by decide +kernel), Or.inl rfl⟩) (q0 (by omega))
  · show gm_Wp X LX d _ _ 298 11 _ [gm_vi 0] n K _ _ Q
    have k8 : ¬ (0 ≤ i ∧ i ≤ ((N 3) - 1)) := k8
    refine fw_iffd (cc := .ne) (pc := 11) (off := 7) (by decide +kernel) (by decide) ⟨by decide, by decide⟩ (by decide) ?_
    refine gm_sz (gm_p_const (pc := 14) (i := .iconst 1) (v := gm_vi 1) (by decide +kernel) (by decide +kernel)) ?_
    refine gm_sz (gm_p_goto (pc := 15) (off := 4) (by decide +kernel) (by decide)) ?_
    exact gm_r_int (pc := 19) (by decide +kernel) (Or.inr ⟨(by decide +kernel), Or.inr rfl⟩) (q1 (by omega))
theorem no_309 (hd : 1 ≤ d) (hE : E0 n K R) (hT : TR N h M) (hN : NR N) (hi : gm_ir i) (q1 : ¬ (0 ≤ i ∧ i < N 4) → Q (.inl (some (gm_vi 1))) n K R M) (q0 : 0 ≤ i ∧ i < N 4 → Q (.inl (some (gm_vi 0))) n K R M) : gm_Wp X LX d bc bs 309 0 (gm_ent 309 [gm_vr 226, gm_vi i]) [] n K R M Q := by
  obtain ⟨⟨⟨a0, b0⟩, ⟨a1, b1⟩, ⟨a10, b10⟩, ⟨a11, b11⟩, ⟨a12, b12⟩, a9, b9⟩, ⟨⟨a2, b2⟩, ⟨a5, b5⟩, ⟨a3, b3⟩, ⟨a4, b4⟩, ⟨a6, b6⟩, ⟨a14, b14⟩, ⟨a7, b7⟩, a13, b13⟩, rF, rP, rL⟩ := id hN
  refine gm_sz (gm_p_load (pc := 0) (i := .iload_n 1) (sr := 0) (j := 1) (by decide +kernel) rfl rfl rfl) ?_
  refine gm_sz (gm_p_const (pc := 1) (i := .iconst 0) (v := gm_vi 0) (by decide +kernel) (by decide +kernel)) ?_
  refine gm_sz (gm_p_load (pc := 2) (i := .aload_n 0) (sr := 2) (j := 0) (by decide +kernel) rfl rfl rfl) ?_
  refine gm_c_virt (k := 226) (ci := 11) (mj := 254) (ix := 100) (pc := 3) (as := []) (st := [gm_vi 0, gm_vi i]) (d' := d - 1) (bc' := 0) (bs' := 0) (by decide +kernel) (by decide +kernel) (by decide +kernel) (by decide +kernel) (e0k hE (k := 226) (c := 11) (by decide +kernel)).1 (e0k hE (k := 226) (c := 11) (by decide +kernel)).2 (by decide) (by decide +kernel) (show 0 = gm_na 254 by decide +kernel) fw_c0 (show 1 ≤ gm_ml 254 by decide +kernel) (Nat.le_of_ble_eq_true rfl) (by omega) (Nat.zero_le _) (Nat.zero_le _) ?_
  refine re_let hE hT hN ?_
  show gm_Wp X LX d _ _ 309 6 _ [gm_vi (N 4), gm_vi 0, gm_vi i] n K _ _ Q
  refine gm_sz (gm_p_const (pc := 6) (i := .iconst 1) (v := gm_vi 1) (by decide +kernel) (by decide +kernel)) ?_
  refine gm_sz (gm_p_bin (pc := 7) (i := .isub) (f := fun x y => x - y) (by decide +kernel) rfl) ?_
  refine gm_c_stat (mj := 286) (ix := 90) (pc := 8) (as := [gm_vi i, gm_vi 0, gm_vi ((N 4) - 1)]) (st := []) (d' := d - 1) (bc' := 0) (bs' := 0) (by decide +kernel) (by decide +kernel) (by decide +kernel) (by decide +kernel) (show 3 = gm_na 286 by decide +kernel) (fw_c3 fw_si fw_si fw_si) (show 3 ≤ gm_ml 286 by decide +kernel) (Nat.le_of_ble_eq_true rfl) (by omega) (Nat.zero_le _) (Nat.zero_le _) ?_
  refine in_286 (x := i) (y := 0) (z := ((N 4) - 1)) hi ⟨by decide, by decide⟩ ⟨by omega, by omega⟩ (fun k8a k8 => ?_) (fun k8 => ?_)
  · show gm_Wp X LX d _ _ 309 11 _ [gm_vi 1] n K _ _ Q
    have k8a : 0 ≤ i := k8a
    have k8 : i ≤ ((N 4) - 1) := k8
    refine fw_iftd (cc := .ne) (pc := 11) (off := 7) (by decide +kernel) (by decide) ⟨by decide, by decide⟩ (by decide) ?_
    refine gm_sz (gm_p_const (pc := 18) (i := .iconst 0) (v := gm_vi 0) (by decide +kernel) (by decide +kernel)) ?_
    exact gm_r_int (pc := 19) (by decide +kernel) (Or.inr ⟨(by decide +kernel), Or.inl rfl⟩) (q0 (by omega))
  · show gm_Wp X LX d _ _ 309 11 _ [gm_vi 0] n K _ _ Q
    have k8 : ¬ (0 ≤ i ∧ i ≤ ((N 4) - 1)) := k8
    refine fw_iffd (cc := .ne) (pc := 11) (off := 7) (by decide +kernel) (by decide) ⟨by decide, by decide⟩ (by decide) ?_
    refine gm_sz (gm_p_const (pc := 14) (i := .iconst 1) (v := gm_vi 1) (by decide +kernel) (by decide +kernel)) ?_
    refine gm_sz (gm_p_goto (pc := 15) (off := 4) (by decide +kernel) (by decide)) ?_
    exact gm_r_int (pc := 19) (by decide +kernel) (Or.inr ⟨(by decide +kernel), Or.inr rfl⟩) (q1 (by omega))
theorem no_285 (hd : 1 ≤ d) (hi : gm_ir i) (q1 : ¬ (0 ≤ i ∧ i ≤ 299) → Q (.inl (some (gm_vi 1))) n K R M) (q0 : 0 ≤ i ∧ i ≤ 299 → Q (.inl (some (gm_vi 0))) n K R M) : gm_Wp X LX d bc bs 285 0 (gm_ent 285 [gm_vi i]) [] n K R M Q := by
  refine gm_sz (gm_p_load (pc := 0) (i := .iload_n 0) (sr := 0) (j := 0) (by decide +kernel) rfl rfl rfl) ?_
  refine gm_sz (gm_p_const (pc := 1) (i := .iconst 0) (v := gm_vi 0) (by decide +kernel) (by decide +kernel)) ?_
  refine gm_sz (gm_p_const (pc := 2) (i := .sipush 299) (v := gm_vi 299) (by decide +kernel) (by decide +kernel)) ?_
  refine gm_c_stat (mj := 286) (ix := 90) (pc := 5) (as := [gm_vi i, gm_vi 0, gm_vi 299]) (st := []) (d' := d - 1) (bc' := 0) (bs' := 0) (by decide +kernel) (by decide +kernel) (by decide +kernel) (by decide +kernel) (show 3 = gm_na 286 by decide +kernel) (fw_c3 fw_si fw_si fw_si) (show 3 ≤ gm_ml 286 by decide +kernel) (Nat.le_of_ble_eq_true rfl) (by omega) (Nat.zero_le _) (Nat.zero_le _) ?_
  refine in_286 (x := i) (y := 0) (z := 299) hi ⟨by decide, by decide⟩ ⟨by decide, by decide⟩ (fun k5a k5 => ?_) (fun k5 => ?_)
  · show gm_Wp X LX d _ _ 285 8 _ [gm_vi 1] n K _ _ Q
    have k5a : 0 ≤ i := k5a
    have k5 : i ≤ 299 := k5
    refine fw_iftd (cc := .ne) (pc := 8) (off := 7) (by decide +kernel) (by decide) ⟨by decide, by decide⟩ (by decide) ?_
    refine gm_sz (gm_p_const (pc := 15) (i := .iconst 0) (v := gm_vi 0) (by decide +kernel) (by decide +kernel)) ?_
    exact gm_r_int (pc := 16) (by decide +kernel) (Or.inr ⟨(by decide +kernel), Or.inl rfl⟩) (q0 (by omega))
  · show gm_Wp X LX d _ _ 285 8 _ [gm_vi 0] n K _ _ Q
    have k5 : ¬ (0 ≤ i ∧ i ≤ 299) := k5
    refine fw_iffd (cc := .ne) (pc := 8) (off := 7) (by decide +kernel) (by decide) ⟨by decide, by decide⟩ (by decide) ?_
    refine gm_sz (gm_p_const (pc := 11) (i := .iconst 1) (v := gm_vi 1) (by decide +kernel) (by decide +kernel)) ?_
    refine gm_sz (gm_p_goto (pc := 12) (off := 4) (by decide +kernel) (by decide)) ?_
    exact gm_r_int (pc := 16) (by decide +kernel) (Or.inr ⟨(by decide +kernel), Or.inr rfl⟩) (q1 (by omega))
theorem rs_w (hw : ws (M 227) = N) {j : Int} (h0 : 0 ≤ j) (h1 : j < 395) (h8 : ¬ j = 8) : M 227 j = N j := by
  rw [← hw]
  unfold ws
  rw [if_pos ⟨h0, h1, h8⟩]
theorem wa_l (hE : E0 n K R) (hq : ∀ M2, fr [(234, none), (226, some 26)] M M2 → (∀ y, 0 ≤ y → y < 300 → M2 234 y = hts (N 13) y) → M2 226 26 = -1 → Q (.inl none) n K R M2) : ∀ (u k : Nat) (M1 : gm_M), k + u = 300 → fr [(234, none)] M M1 → (∀ y, 0 ≤ y → y < (k : Int) → M1 234 y = hts (N 13) y) → gm_Wp X LX d bc bs 235 10 [some (gm_vr 226), some (gm_vi (hnum (N 13) k)), some (gm_vi (k : Int))] [] n K R M1 Q := by
  intro u
  induction u with
  | zero =>
    intro k M1 hk hf hy
    refine gm_sz (gm_p_load (pc := 10) (i := .iload_n 2) (sr := 0) (j := 2) (by decide +kernel) rfl rfl rfl) ?_
    refine gm_sz (gm_p_const (pc := 11) (i := .sipush 300) (v := gm_vi 300) (by decide +kernel) (by decide +kernel)) ?_
    refine fw_ict (cc := .ge) (pc := 14) (off := 36) (by decide +kernel) (by decide) ⟨by omega, by omega⟩ ⟨by decide, by decide⟩ (show 300 ≤ (k : Int) by omega) ?_
    refine gm_sz (gm_p_load (pc := 50) (i := .aload_n 0) (sr := 2) (j := 0) (by decide +kernel) rfl rfl rfl) ?_
    refine gm_sz (gm_p_const (pc := 51) (i := .iconst (-1)) (v := gm_vi (-1)) (by decide +kernel) (by decide +kernel)) ?_
    refine gm_sz (fw_pi (pc := 52) (ix := 331) (ci := 11) (j := 26) (M' := gm_uM M1 226 26 (-1)) (by decide +kernel) (e0k hE (k := 226) (c := 11) (by decide +kernel)) (by decide +kernel) (by decide +kernel) (by decide +kernel) rfl) ?_
    refine gm_r_void (pc := 55) (by decide +kernel) (by decide +kernel) (hq _ (fr_p (fr_t fr_0 hf (by decide)) (Or.inr (by decide))) (fun y y0 y1 => ?_) uM_at)
    exact (uM_ne (by omega)).trans (hy y y0 (by omega))
  | succ u ih =>
    intro k M1 hk hf hy
    refine gm_sz (gm_p_load (pc := 10) (i := .iload_n 2) (sr := 0) (j := 2) (by decide +kernel) rfl rfl rfl) ?_
    refine gm_sz (gm_p_const (pc := 11) (i := .sipush 300) (v := gm_vi 300) (by decide +kernel) (by decide +kernel)) ?_
    refine fw_icf (cc := .ge) (pc := 14) (off := 36) (by decide +kernel) (by decide) ⟨by omega, by omega⟩ ⟨by decide, by decide⟩ (show ¬ 300 ≤ (k : Int) by omega) ?_
    refine gm_sz (gm_p_ldci (pc := 17) (i := .ldc_w 330) (ix := 330) (v := 1103515245) (by decide +kernel) (Or.inr rfl) (by decide +kernel)) ?_
    refine gm_sz (gm_p_load (pc := 20) (i := .iload_n 1) (sr := 0) (j := 1) (by decide +kernel) rfl rfl rfl) ?_
    refine gm_sz (gm_p_bin (pc := 21) (i := .imul) (f := fun x y => x * y) (by decide +kernel) rfl) ?_
    refine gm_sz (gm_p_const (pc := 22) (i := .sipush 12345) (v := gm_vi 12345) (by decide +kernel) (by decide +kernel)) ?_
    refine gm_sz (gm_p_bin (pc := 25) (i := .iadd) (f := fun x y => x + y) (by decide +kernel) rfl) ?_
    refine gm_sz (gm_p_stor (pc := 26) (i := .istore_n 1) (sr := 0) (j := 1) (by decide +kernel) rfl (show 2 ≤ _ from Nat.le_of_ble_eq_true rfl) rfl) ?_
    refine gm_sz (gm_p_load (pc := 27) (i := .aload_n 0) (sr := 2) (j := 0) (by decide +kernel) rfl rfl rfl) ?_
    refine gm_sz (fw_gr (pc := 28) (ix := 39) (ci := 11) (j := 24) (r := 234) (by decide +kernel) (e0k hE (k := 226) (c := 11) (by decide +kernel)) (by decide +kernel) (by decide +kernel) (e0r hE (k := 226) (j := 24) (r := 234) (by decide +kernel))) ?_
    refine gm_sz (gm_p_load (pc := 31) (i := .iload_n 2) (sr := 0) (j := 2) (by decide +kernel) rfl rfl rfl) ?_
    refine gm_sz (gm_p_load (pc := 32) (i := .iload_n 1) (sr := 0) (j := 1) (by decide +kernel) rfl rfl rfl) ?_
    refine gm_sz (gm_p_const (pc := 33) (i := .bipush 16) (v := gm_vi 16) (by decide +kernel) (by decide +kernel)) ?_
    refine gm_sz (gm_p_bin (pc := 35) (i := .ishr) (f := gm_shr) (by decide +kernel) rfl) ?_
    refine gm_sz (gm_p_const (pc := 36) (i := .sipush 32767) (v := gm_vi 32767) (by decide +kernel) (by decide +kernel)) ?_
    refine gm_sz (gm_p_bin (pc := 39) (i := .iand) (f := gm_and) (by decide +kernel) rfl) ?_
    have hb9 := and_b (x := gm_shr ((1103515245 * (hnum (N 13) k)) + 12345) 16)
    refine gm_sz (gm_p_const (pc := 40) (i := .bipush 10) (v := gm_vi 10) (by decide +kernel) (by decide +kernel)) ?_
    refine gm_sz (gm_p_rem (pc := 42) (by decide +kernel) (by decide)) ?_
    rw [fw_rem (a := gm_and (gm_shr ((1103515245 * (hnum (N 13) k)) + 12345) 16) 32767) (b := 10) (by omega) (by omega) (by decide)]
    refine gm_sz (fw_is (pc := 43) (k := 234) (len := 300) (e0 := (k : Int)) (x := (gm_and (gm_shr ((1103515245 * (hnum (N 13) k)) + 12345) 16) 32767) % 10) (M' := gm_uM M1 234 (k : Int) ((gm_and (gm_shr ((1103515245 * (hnum (N 13) k)) + 12345) 16) 32767) % 10)) (by decide +kernel) (e0a hE (k := 234) (q := (0, 300)) (by decide +kernel)).1 (e0a hE (k := 234) (q := (0, 300)) (by decide +kernel)).2 (by decide) ⟨by omega, by omega⟩ rfl) ?_
    refine gm_sz (gm_p_iinc (pc := 44) (j := 2) (z := 1) (by decide +kernel) rfl) ?_
    refine gm_sz (gm_p_goto (pc := 47) (off := (-37)) (by decide +kernel) (by decide)) ?_
    refine ih (k + 1) _ (by omega) (fr_p (fr_t fr_0 hf (by decide)) (Or.inl (by decide))) (fun y y0 y1 => ?_)
    by_cases e : y = (k : Int)
    · subst e
      rw [uM_at]
      unfold hts
      rw [show ((k : Int)).toNat = k from Int.toNat_natCast k]
      rfl
    · exact (uM_ne (fun hh => e hh.2)).trans (hy y y0 (by omega))
theorem wa_c235 (hE : E0 n K R) (hw : ws (M 227) = N) (hq : ∀ M2, fr [(234, none), (226, some 26)] M M2 → (∀ y, 0 ≤ y → y < 300 → M2 234 y = hts (N 13) y) → M2 226 26 = -1 → Q (.inl none) n K R M2) : gm_Wp X LX d bc bs 235 0 (gm_ent 235 [gm_vr 226]) [] n K R M Q := by
  refine gm_sz (gm_p_load (pc := 0) (i := .aload_n 0) (sr := 2) (j := 0) (by decide +kernel) rfl rfl rfl) ?_
  refine gm_sz (fw_gr (pc := 1) (ix := 13) (ci := 11) (j := 1) (r := 227) (by decide +kernel) (e0k hE (k := 226) (c := 11) (by decide +kernel)) (by decide +kernel) (by decide +kernel) (e0r hE (k := 226) (j := 1) (r := 227) (by decide +kernel))) ?_
  refine gm_sz (gm_p_const (pc := 4) (i := .bipush 13) (v := gm_vi 13) (by decide +kernel) (by decide +kernel)) ?_
  refine gm_sz (fw_ia (pc := 6) (k := 227) (len := 2093) (e0 := 13) (x := N 13) (by decide +kernel) (e0a hE (k := 227) (q := (0, 2093)) (by decide +kernel)).1 (e0a hE (k := 227) (q := (0, 2093)) (by decide +kernel)).2 (by decide) ⟨by omega, by omega⟩ (rs_w hw (by decide) (by decide) (by decide))) ?_
  refine gm_sz (gm_p_stor (pc := 7) (i := .istore_n 1) (sr := 0) (j := 1) (by decide +kernel) rfl (show 2 ≤ _ from Nat.le_of_ble_eq_true rfl) rfl) ?_
  refine gm_sz (gm_p_const (pc := 8) (i := .iconst 0) (v := gm_vi 0) (by decide +kernel) (by decide +kernel)) ?_
  refine gm_sz (gm_p_stor (pc := 9) (i := .istore_n 2) (sr := 0) (j := 2) (by decide +kernel) rfl (show 3 ≤ _ from Nat.le_of_ble_eq_true rfl) rfl) ?_
  exact wa_l hE hq 300 0 M rfl fr_0 (fun y y0 y1 => absurd y1 (by omega))
/-- a row copied as far as k -/
def cpk (M : gm_M) (s d : Nat) (so do_ k : Int) : gm_M := fun c j => if c = d ∧ do_ ≤ j ∧ j < do_ + k then M s (so + (j - do_)) else M c j
theorem cpk_0 {s d : Nat} {so do_ : Int} : cpk M s d so do_ 0 = M := by
  funext c j
  unfold cpk
  rw [if_neg (fun h => by omega)]
theorem cpk_s {s d : Nat} {so do_ k e v : Int} (hk : 0 ≤ k) (he : e = do_ + k) (hv : v = M s (so + k)) : gm_uM (cpk M s d so do_ k) d e v = cpk M s d so do_ (k + 1) := by
  subst he hv
  funext c j
  unfold gm_uM cpk
  by_cases h1 : c = d ∧ j = do_ + k
  · obtain ⟨rfl, rfl⟩ := h1
    rw [if_pos ⟨rfl, rfl⟩, if_pos ⟨rfl, by omega, by omega⟩, show so + (do_ + k - do_) = so + k by omega]
  · rw [if_neg h1]
    by_cases h2 : c = d ∧ do_ ≤ j ∧ j < do_ + k
    · rw [if_pos h2, if_pos ⟨h2.1, h2.2.1, by omega⟩]
    · rw [if_neg h2, if_neg (fun h3 => h2 ⟨h3.1, h3.2.1, by have := h3.2.2; by_cases e : j = do_ + k; exact absurd ⟨h3.1, e⟩ h1; omega⟩)]
theorem cpk_o {s d c : Nat} {so do_ k j : Int} (h : ¬ (c = d ∧ do_ ≤ j ∧ j < do_ + k)) : cpk M s d so do_ k c j = M c j := if_neg h
theorem cpk_i {s d : Nat} {so do_ k j : Int} (h0 : do_ ≤ j) (h1 : j < do_ + k) : cpk M s d so do_ k d j = M s (so + (j - do_)) := if_pos ⟨rfl, h0, h1⟩
theorem cpk_fr {s d : Nat} {so do_ k : Int} : fr [(d, none)] M (cpk M s d so do_ k) := fun c j h1 _ => cpk_o (fun h => h1 (by rw [h.1]; exact List.mem_cons_self))
theorem cp_236 (hE : E0 n K R) (hq : gm_Wp X LX d bc bs 236 32 [some (gm_vr 226), some (gm_vi 1244)] [] n K R (cpk M 227 228 0 0 1244) Q) : ∀ (u : Nat) (k : Int), k + (u : Int) = 1244 → 0 ≤ k → gm_Wp X LX d bc bs 236 7 [some (gm_vr 226), some (gm_vi k)] [] n K R (cpk M 227 228 0 0 k) Q := by
  intro u
  induction u with
  | zero =>
    intro k hk k0
    have ek : k = 1244 := by omega
    subst ek
    refine gm_sz (gm_p_load (pc := 7) (i := .iload_n 1) (sr := 0) (j := 1) (by decide +kernel) rfl rfl rfl) ?_
    refine gm_sz (gm_p_const (pc := 8) (i := .sipush 1244) (v := gm_vi 1244) (by decide +kernel) (by decide +kernel)) ?_
    refine fw_ictd (cc := .ge) (pc := 11) (off := 21) (by decide +kernel) (by decide) ⟨by decide, by decide⟩ ⟨by decide, by decide⟩ (by decide) ?_
    exact hq
  | succ u ih =>
    intro k hk k0
    refine gm_sz (gm_p_load (pc := 7) (i := .iload_n 1) (sr := 0) (j := 1) (by decide +kernel) rfl rfl rfl) ?_
    refine gm_sz (gm_p_const (pc := 8) (i := .sipush 1244) (v := gm_vi 1244) (by decide +kernel) (by decide +kernel)) ?_
    refine fw_icf (cc := .ge) (pc := 11) (off := 21) (by decide +kernel) (by decide) ⟨by omega, by omega⟩ ⟨by decide, by decide⟩ (show ¬ 1244 ≤ k by omega) ?_
    refine gm_sz (gm_p_load (pc := 14) (i := .aload_n 0) (sr := 2) (j := 0) (by decide +kernel) rfl rfl rfl) ?_
    refine gm_sz (fw_gr (pc := 15) (ix := 17) (ci := 11) (j := 2) (r := 228) (by decide +kernel) (e0k hE (k := 226) (c := 11) (by decide +kernel)) (by decide +kernel) (by decide +kernel) (e0r hE (k := 226) (j := 2) (r := 228) (by decide +kernel))) ?_
    refine gm_sz (gm_p_load (pc := 18) (i := .iload_n 1) (sr := 0) (j := 1) (by decide +kernel) rfl rfl rfl) ?_
    refine gm_sz (gm_p_load (pc := 19) (i := .aload_n 0) (sr := 2) (j := 0) (by decide +kernel) rfl rfl rfl) ?_
    refine gm_sz (fw_gr (pc := 20) (ix := 13) (ci := 11) (j := 1) (r := 227) (by decide +kernel) (e0k hE (k := 226) (c := 11) (by decide +kernel)) (by decide +kernel) (by decide +kernel) (e0r hE (k := 226) (j := 1) (r := 227) (by decide +kernel))) ?_
    refine gm_sz (gm_p_load (pc := 23) (i := .iload_n 1) (sr := 0) (j := 1) (by decide +kernel) rfl rfl rfl) ?_
    refine gm_sz (fw_ia (pc := 24) (k := 227) (len := 2093) (e0 := k) (x := M 227 k) (by decide +kernel) (e0a hE (k := 227) (q := (0, 2093)) (by decide +kernel)).1 (e0a hE (k := 227) (q := (0, 2093)) (by decide +kernel)).2 (by decide) ⟨by omega, by omega⟩ (cpk_o (by omega))) ?_
    refine gm_sz (fw_is (pc := 25) (k := 228) (len := 1244) (e0 := k) (x := M 227 k) (M' := cpk M 227 228 0 0 (k + 1)) (by decide +kernel) (e0a hE (k := 228) (q := (0, 1244)) (by decide +kernel)).1 (e0a hE (k := 228) (q := (0, 1244)) (by decide +kernel)).2 (by decide) ⟨by omega, by omega⟩ (cpk_s k0 (by omega) (congrArg (M 227) (by omega)))) ?_
    refine gm_sz (gm_p_iinc (pc := 26) (j := 1) (z := 1) (by decide +kernel) rfl) ?_
    refine gm_sz (gm_p_goto (pc := 29) (off := (-22)) (by decide +kernel) (by decide)) ?_
    exact ih (k + 1) (by omega) (by omega)
theorem cp_236z (hE : E0 n K R) (hq : gm_Wp X LX d bc bs 236 32 [some (gm_vr 226), some (gm_vi 1244)] [] n K R (cpk M 227 228 0 0 1244) Q) : gm_Wp X LX d bc bs 236 7 [some (gm_vr 226), some (gm_vi 0)] [] n K R M Q := by
  have h9 := cp_236 hE  hq 1244 0 (by omega) (Int.le_refl _)
  rw [cpk_0] at h9
  exact h9
theorem cp_237 (hE : E0 n K R) (hq : gm_Wp X LX d bc bs 237 41 [some (gm_vr 226), some (gm_vi 1244)] [] n K R (cpk M 228 227 0 0 1244) Q) : ∀ (u : Nat) (k : Int), k + (u : Int) = 1244 → 0 ≤ k → gm_Wp X LX d bc bs 237 16 [some (gm_vr 226), some (gm_vi k)] [] n K R (cpk M 228 227 0 0 k) Q := by
  intro u
  induction u with
  | zero =>
    intro k hk k0
    have ek : k = 1244 := by omega
    subst ek
    refine gm_sz (gm_p_load (pc := 16) (i := .iload_n 1) (sr := 0) (j := 1) (by decide +kernel) rfl rfl rfl) ?_
    refine gm_sz (gm_p_const (pc := 17) (i := .sipush 1244) (v := gm_vi 1244) (by decide +kernel) (by decide +kernel)) ?_
    refine fw_ictd (cc := .ge) (pc := 20) (off := 21) (by decide +kernel) (by decide) ⟨by decide, by decide⟩ ⟨by decide, by decide⟩ (by decide) ?_
    exact hq
  | succ u ih =>
    intro k hk k0
    refine gm_sz (gm_p_load (pc := 16) (i := .iload_n 1) (sr := 0) (j := 1) (by decide +kernel) rfl rfl rfl) ?_
    refine gm_sz (gm_p_const (pc := 17) (i := .sipush 1244) (v := gm_vi 1244) (by decide +kernel) (by decide +kernel)) ?_
    refine fw_icf (cc := .ge) (pc := 20) (off := 21) (by decide +kernel) (by decide) ⟨by omega, by omega⟩ ⟨by decide, by decide⟩ (show ¬ 1244 ≤ k by omega) ?_
    refine gm_sz (gm_p_load (pc := 23) (i := .aload_n 0) (sr := 2) (j := 0) (by decide +kernel) rfl rfl rfl) ?_
    refine gm_sz (fw_gr (pc := 24) (ix := 13) (ci := 11) (j := 1) (r := 227) (by decide +kernel) (e0k hE (k := 226) (c := 11) (by decide +kernel)) (by decide +kernel) (by decide +kernel) (e0r hE (k := 226) (j := 1) (r := 227) (by decide +kernel))) ?_
    refine gm_sz (gm_p_load (pc := 27) (i := .iload_n 1) (sr := 0) (j := 1) (by decide +kernel) rfl rfl rfl) ?_
    refine gm_sz (gm_p_load (pc := 28) (i := .aload_n 0) (sr := 2) (j := 0) (by decide +kernel) rfl rfl rfl) ?_
    refine gm_sz (fw_gr (pc := 29) (ix := 17) (ci := 11) (j := 2) (r := 228) (by decide +kernel) (e0k hE (k := 226) (c := 11) (by decide +kernel)) (by decide +kernel) (by decide +kernel) (e0r hE (k := 226) (j := 2) (r := 228) (by decide +kernel))) ?_
    refine gm_sz (gm_p_load (pc := 32) (i := .iload_n 1) (sr := 0) (j := 1) (by decide +kernel) rfl rfl rfl) ?_
    refine gm_sz (fw_ia (pc := 33) (k := 228) (len := 1244) (e0 := k) (x := M 228 k) (by decide +kernel) (e0a hE (k := 228) (q := (0, 1244)) (by decide +kernel)).1 (e0a hE (k := 228) (q := (0, 1244)) (by decide +kernel)).2 (by decide) ⟨by omega, by omega⟩ (cpk_o (by omega))) ?_
    refine gm_sz (fw_is (pc := 34) (k := 227) (len := 2093) (e0 := k) (x := M 228 k) (M' := cpk M 228 227 0 0 (k + 1)) (by decide +kernel) (e0a hE (k := 227) (q := (0, 2093)) (by decide +kernel)).1 (e0a hE (k := 227) (q := (0, 2093)) (by decide +kernel)).2 (by decide) ⟨by omega, by omega⟩ (cpk_s k0 (by omega) (congrArg (M 228) (by omega)))) ?_
    refine gm_sz (gm_p_iinc (pc := 35) (j := 1) (z := 1) (by decide +kernel) rfl) ?_
    refine gm_sz (gm_p_goto (pc := 38) (off := (-22)) (by decide +kernel) (by decide)) ?_
    exact ih (k + 1) (by omega) (by omega)
theorem cp_237z (hE : E0 n K R) (hq : gm_Wp X LX d bc bs 237 41 [some (gm_vr 226), some (gm_vi 1244)] [] n K R (cpk M 228 227 0 0 1244) Q) : gm_Wp X LX d bc bs 237 16 [some (gm_vr 226), some (gm_vi 0)] [] n K R M Q := by
  have h9 := cp_237 hE  hq 1244 0 (by omega) (Int.le_refl _)
  rw [cpk_0] at h9
  exact h9
theorem cp_316a (hE : E0 n K R) (hq : gm_Wp X LX d bc bs 316 40 [some (gm_vr 226), some (gm_vi 4345)] [] n K R (cpk M 230 230 395 0 4345) Q) : ∀ (u : Nat) (k : Int), k + (u : Int) = 4345 → 0 ≤ k → gm_Wp X LX d bc bs 316 11 [some (gm_vr 226), some (gm_vi k)] [] n K R (cpk M 230 230 395 0 k) Q := by
  intro u
  induction u with
  | zero =>
    intro k hk k0
    have ek : k = 4345 := by omega
    subst ek
    refine gm_sz (gm_p_load (pc := 11) (i := .iload_n 1) (sr := 0) (j := 1) (by decide +kernel) rfl rfl rfl) ?_
    refine gm_sz (gm_p_const (pc := 12) (i := .sipush 4345) (v := gm_vi 4345) (by decide +kernel) (by decide +kernel)) ?_
    refine fw_ictd (cc := .ge) (pc := 15) (off := 25) (by decide +kernel) (by decide) ⟨by decide, by decide⟩ ⟨by decide, by decide⟩ (by decide) ?_
    exact hq
  | succ u ih =>
    intro k hk k0
    refine gm_sz (gm_p_load (pc := 11) (i := .iload_n 1) (sr := 0) (j := 1) (by decide +kernel) rfl rfl rfl) ?_
    refine gm_sz (gm_p_const (pc := 12) (i := .sipush 4345) (v := gm_vi 4345) (by decide +kernel) (by decide +kernel)) ?_
    refine fw_icf (cc := .ge) (pc := 15) (off := 25) (by decide +kernel) (by decide) ⟨by omega, by omega⟩ ⟨by decide, by decide⟩ (show ¬ 4345 ≤ k by omega) ?_
    refine gm_sz (gm_p_load (pc := 18) (i := .aload_n 0) (sr := 2) (j := 0) (by decide +kernel) rfl rfl rfl) ?_
    refine gm_sz (fw_gr (pc := 19) (ix := 23) (ci := 11) (j := 4) (r := 230) (by decide +kernel) (e0k hE (k := 226) (c := 11) (by decide +kernel)) (by decide +kernel) (by decide +kernel) (e0r hE (k := 226) (j := 4) (r := 230) (by decide +kernel))) ?_
    refine gm_sz (gm_p_load (pc := 22) (i := .iload_n 1) (sr := 0) (j := 1) (by decide +kernel) rfl rfl rfl) ?_
    refine gm_sz (gm_p_load (pc := 23) (i := .aload_n 0) (sr := 2) (j := 0) (by decide +kernel) rfl rfl rfl) ?_
    refine gm_sz (fw_gr (pc := 24) (ix := 23) (ci := 11) (j := 4) (r := 230) (by decide +kernel) (e0k hE (k := 226) (c := 11) (by decide +kernel)) (by decide +kernel) (by decide +kernel) (e0r hE (k := 226) (j := 4) (r := 230) (by decide +kernel))) ?_
    refine gm_sz (gm_p_load (pc := 27) (i := .iload_n 1) (sr := 0) (j := 1) (by decide +kernel) rfl rfl rfl) ?_
    refine gm_sz (gm_p_const (pc := 28) (i := .sipush 395) (v := gm_vi 395) (by decide +kernel) (by decide +kernel)) ?_
    refine gm_sz (gm_p_bin (pc := 31) (i := .iadd) (f := fun x y => x + y) (by decide +kernel) rfl) ?_
    refine gm_sz (fw_ia (pc := 32) (k := 230) (len := 4740) (e0 := k + 395) (x := M 230 (k + 395)) (by decide +kernel) (e0a hE (k := 230) (q := (0, 4740)) (by decide +kernel)).1 (e0a hE (k := 230) (q := (0, 4740)) (by decide +kernel)).2 (by decide) ⟨by omega, by omega⟩ (cpk_o (by omega))) ?_
    refine gm_sz (fw_is (pc := 33) (k := 230) (len := 4740) (e0 := k) (x := M 230 (k + 395)) (M' := cpk M 230 230 395 0 (k + 1)) (by decide +kernel) (e0a hE (k := 230) (q := (0, 4740)) (by decide +kernel)).1 (e0a hE (k := 230) (q := (0, 4740)) (by decide +kernel)).2 (by decide) ⟨by omega, by omega⟩ (cpk_s k0 (by omega) (congrArg (M 230) (by omega)))) ?_
    refine gm_sz (gm_p_iinc (pc := 34) (j := 1) (z := 1) (by decide +kernel) rfl) ?_
    refine gm_sz (gm_p_goto (pc := 37) (off := (-26)) (by decide +kernel) (by decide)) ?_
    exact ih (k + 1) (by omega) (by omega)
theorem cp_316az (hE : E0 n K R) (hq : gm_Wp X LX d bc bs 316 40 [some (gm_vr 226), some (gm_vi 4345)] [] n K R (cpk M 230 230 395 0 4345) Q) : gm_Wp X LX d bc bs 316 11 [some (gm_vr 226), some (gm_vi 0)] [] n K R M Q := by
  have h9 := cp_316a hE  hq 4345 0 (by omega) (Int.le_refl _)
  rw [cpk_0] at h9
  exact h9
theorem cp_316b (hE : E0 n K R) (h6 : M 226 6 = c) (hc : 1 ≤ c ∧ c ≤ 12) (hq : gm_Wp X LX d bc bs 316 91 [some (gm_vr 226), some (gm_vi 395)] [] n K R (cpk M 227 230 0 (395 * (c - 1)) 395) Q) : ∀ (u : Nat) (k : Int), k + (u : Int) = 395 → 0 ≤ k → gm_Wp X LX d bc bs 316 55 [some (gm_vr 226), some (gm_vi k)] [] n K R (cpk M 227 230 0 (395 * (c - 1)) k) Q := by
  intro u
  induction u with
  | zero =>
    intro k hk k0
    have ek : k = 395 := by omega
    subst ek
    refine gm_sz (gm_p_load (pc := 55) (i := .iload_n 1) (sr := 0) (j := 1) (by decide +kernel) rfl rfl rfl) ?_
    refine gm_sz (gm_p_const (pc := 56) (i := .sipush 395) (v := gm_vi 395) (by decide +kernel) (by decide +kernel)) ?_
    refine fw_ictd (cc := .ge) (pc := 59) (off := 32) (by decide +kernel) (by decide) ⟨by decide, by decide⟩ ⟨by decide, by decide⟩ (by decide) ?_
    exact hq
  | succ u ih =>
    intro k hk k0
    refine gm_sz (gm_p_load (pc := 55) (i := .iload_n 1) (sr := 0) (j := 1) (by decide +kernel) rfl rfl rfl) ?_
    refine gm_sz (gm_p_const (pc := 56) (i := .sipush 395) (v := gm_vi 395) (by decide +kernel) (by decide +kernel)) ?_
    refine fw_icf (cc := .ge) (pc := 59) (off := 32) (by decide +kernel) (by decide) ⟨by omega, by omega⟩ ⟨by decide, by decide⟩ (show ¬ 395 ≤ k by omega) ?_
    refine gm_sz (gm_p_load (pc := 62) (i := .aload_n 0) (sr := 2) (j := 0) (by decide +kernel) rfl rfl rfl) ?_
    refine gm_sz (fw_gr (pc := 63) (ix := 23) (ci := 11) (j := 4) (r := 230) (by decide +kernel) (e0k hE (k := 226) (c := 11) (by decide +kernel)) (by decide +kernel) (by decide +kernel) (e0r hE (k := 226) (j := 4) (r := 230) (by decide +kernel))) ?_
    refine gm_sz (gm_p_const (pc := 66) (i := .sipush 395) (v := gm_vi 395) (by decide +kernel) (by decide +kernel)) ?_
    refine gm_sz (gm_p_load (pc := 69) (i := .aload_n 0) (sr := 2) (j := 0) (by decide +kernel) rfl rfl rfl) ?_
    refine gm_sz (fw_gi (pc := 70) (ix := 79) (ci := 11) (j := 6) (x := c) (by decide +kernel) (e0k hE (k := 226) (c := 11) (by decide +kernel)) (by decide +kernel) (by decide +kernel) ((cpk_o (by omega)).trans h6)) ?_
    refine gm_sz (gm_p_const (pc := 73) (i := .iconst 1) (v := gm_vi 1) (by decide +kernel) (by decide +kernel)) ?_
    refine gm_sz (gm_p_bin (pc := 74) (i := .isub) (f := fun x y => x - y) (by decide +kernel) rfl) ?_
    refine gm_sz (gm_p_bin (pc := 75) (i := .imul) (f := fun x y => x * y) (by decide +kernel) rfl) ?_
    refine gm_sz (gm_p_load (pc := 76) (i := .iload_n 1) (sr := 0) (j := 1) (by decide +kernel) rfl rfl rfl) ?_
    refine gm_sz (gm_p_bin (pc := 77) (i := .iadd) (f := fun x y => x + y) (by decide +kernel) rfl) ?_
    refine gm_sz (gm_p_load (pc := 78) (i := .aload_n 0) (sr := 2) (j := 0) (by decide +kernel) rfl rfl rfl) ?_
    refine gm_sz (fw_gr (pc := 79) (ix := 13) (ci := 11) (j := 1) (r := 227) (by decide +kernel) (e0k hE (k := 226) (c := 11) (by decide +kernel)) (by decide +kernel) (by decide +kernel) (e0r hE (k := 226) (j := 1) (r := 227) (by decide +kernel))) ?_
    refine gm_sz (gm_p_load (pc := 82) (i := .iload_n 1) (sr := 0) (j := 1) (by decide +kernel) rfl rfl rfl) ?_
    refine gm_sz (fw_ia (pc := 83) (k := 227) (len := 2093) (e0 := k) (x := M 227 k) (by decide +kernel) (e0a hE (k := 227) (q := (0, 2093)) (by decide +kernel)).1 (e0a hE (k := 227) (q := (0, 2093)) (by decide +kernel)).2 (by decide) ⟨by omega, by omega⟩ (cpk_o (by omega))) ?_
    refine gm_sz (fw_is (pc := 84) (k := 230) (len := 4740) (e0 := (395 * (c - 1)) + k) (x := M 227 k) (M' := cpk M 227 230 0 (395 * (c - 1)) (k + 1)) (by decide +kernel) (e0a hE (k := 230) (q := (0, 4740)) (by decide +kernel)).1 (e0a hE (k := 230) (q := (0, 4740)) (by decide +kernel)).2 (by decide) ⟨by omega, by omega⟩ (cpk_s k0 (by omega) (congrArg (M 227) (by omega)))) ?_
    refine gm_sz (gm_p_iinc (pc := 85) (j := 1) (z := 1) (by decide +kernel) rfl) ?_
    refine gm_sz (gm_p_goto (pc := 88) (off := (-33)) (by decide +kernel) (by decide)) ?_
    exact ih (k + 1) (by omega) (by omega)
theorem cp_316bz (hE : E0 n K R) (h6 : M 226 6 = c) (hc : 1 ≤ c ∧ c ≤ 12) (hq : gm_Wp X LX d bc bs 316 91 [some (gm_vr 226), some (gm_vi 395)] [] n K R (cpk M 227 230 0 (395 * (c - 1)) 395) Q) : gm_Wp X LX d bc bs 316 55 [some (gm_vr 226), some (gm_vi 0)] [] n K R M Q := by
  have h9 := cp_316b hE h6 hc hq 395 0 (by omega) (Int.le_refl _)
  rw [cpk_0] at h9
  exact h9
theorem cp_238 (hE : E0 n K R) (h6 : M 226 6 = c) (hc : 0 ≤ c ∧ c ≤ 11) (hq : gm_Wp X LX d bc bs 238 60 [some (gm_vr 226), some (gm_vi 395)] [] n K R (cpk M 230 227 (395 * c) 0 395) Q) : ∀ (u : Nat) (k : Int), k + (u : Int) = 395 → 0 ≤ k → gm_Wp X LX d bc bs 238 26 [some (gm_vr 226), some (gm_vi k)] [] n K R (cpk M 230 227 (395 * c) 0 k) Q := by
  intro u
  induction u with
  | zero =>
    intro k hk k0
    have ek : k = 395 := by omega
    subst ek
    refine gm_sz (gm_p_load (pc := 26) (i := .iload_n 1) (sr := 0) (j := 1) (by decide +kernel) rfl rfl rfl) ?_
    refine gm_sz (gm_p_const (pc := 27) (i := .sipush 395) (v := gm_vi 395) (by decide +kernel) (by decide +kernel)) ?_
    refine fw_ictd (cc := .ge) (pc := 30) (off := 30) (by decide +kernel) (by decide) ⟨by decide, by decide⟩ ⟨by decide, by decide⟩ (by decide) ?_
    exact hq
  | succ u ih =>
    intro k hk k0
    refine gm_sz (gm_p_load (pc := 26) (i := .iload_n 1) (sr := 0) (j := 1) (by decide +kernel) rfl rfl rfl) ?_
    refine gm_sz (gm_p_const (pc := 27) (i := .sipush 395) (v := gm_vi 395) (by decide +kernel) (by decide +kernel)) ?_
    refine fw_icf (cc := .ge) (pc := 30) (off := 30) (by decide +kernel) (by decide) ⟨by omega, by omega⟩ ⟨by decide, by decide⟩ (show ¬ 395 ≤ k by omega) ?_
    refine gm_sz (gm_p_load (pc := 33) (i := .aload_n 0) (sr := 2) (j := 0) (by decide +kernel) rfl rfl rfl) ?_
    refine gm_sz (fw_gr (pc := 34) (ix := 13) (ci := 11) (j := 1) (r := 227) (by decide +kernel) (e0k hE (k := 226) (c := 11) (by decide +kernel)) (by decide +kernel) (by decide +kernel) (e0r hE (k := 226) (j := 1) (r := 227) (by decide +kernel))) ?_
    refine gm_sz (gm_p_load (pc := 37) (i := .iload_n 1) (sr := 0) (j := 1) (by decide +kernel) rfl rfl rfl) ?_
    refine gm_sz (gm_p_load (pc := 38) (i := .aload_n 0) (sr := 2) (j := 0) (by decide +kernel) rfl rfl rfl) ?_
    refine gm_sz (fw_gr (pc := 39) (ix := 23) (ci := 11) (j := 4) (r := 230) (by decide +kernel) (e0k hE (k := 226) (c := 11) (by decide +kernel)) (by decide +kernel) (by decide +kernel) (e0r hE (k := 226) (j := 4) (r := 230) (by decide +kernel))) ?_
    refine gm_sz (gm_p_const (pc := 42) (i := .sipush 395) (v := gm_vi 395) (by decide +kernel) (by decide +kernel)) ?_
    refine gm_sz (gm_p_load (pc := 45) (i := .aload_n 0) (sr := 2) (j := 0) (by decide +kernel) rfl rfl rfl) ?_
    refine gm_sz (fw_gi (pc := 46) (ix := 79) (ci := 11) (j := 6) (x := c) (by decide +kernel) (e0k hE (k := 226) (c := 11) (by decide +kernel)) (by decide +kernel) (by decide +kernel) ((cpk_o (by omega)).trans h6)) ?_
    refine gm_sz (gm_p_bin (pc := 49) (i := .imul) (f := fun x y => x * y) (by decide +kernel) rfl) ?_
    refine gm_sz (gm_p_load (pc := 50) (i := .iload_n 1) (sr := 0) (j := 1) (by decide +kernel) rfl rfl rfl) ?_
    refine gm_sz (gm_p_bin (pc := 51) (i := .iadd) (f := fun x y => x + y) (by decide +kernel) rfl) ?_
    refine gm_sz (fw_ia (pc := 52) (k := 230) (len := 4740) (e0 := (395 * c) + k) (x := M 230 ((395 * c) + k)) (by decide +kernel) (e0a hE (k := 230) (q := (0, 4740)) (by decide +kernel)).1 (e0a hE (k := 230) (q := (0, 4740)) (by decide +kernel)).2 (by decide) ⟨by omega, by omega⟩ (cpk_o (by omega))) ?_
    refine gm_sz (fw_is (pc := 53) (k := 227) (len := 2093) (e0 := k) (x := M 230 ((395 * c) + k)) (M' := cpk M 230 227 (395 * c) 0 (k + 1)) (by decide +kernel) (e0a hE (k := 227) (q := (0, 2093)) (by decide +kernel)).1 (e0a hE (k := 227) (q := (0, 2093)) (by decide +kernel)).2 (by decide) ⟨by omega, by omega⟩ (cpk_s k0 (by omega) (congrArg (M 230) (by omega)))) ?_
    refine gm_sz (gm_p_iinc (pc := 54) (j := 1) (z := 1) (by decide +kernel) rfl) ?_
    refine gm_sz (gm_p_goto (pc := 57) (off := (-31)) (by decide +kernel) (by decide)) ?_
    exact ih (k + 1) (by omega) (by omega)
theorem cp_238z (hE : E0 n K R) (h6 : M 226 6 = c) (hc : 0 ≤ c ∧ c ≤ 11) (hq : gm_Wp X LX d bc bs 238 60 [some (gm_vr 226), some (gm_vi 395)] [] n K R (cpk M 230 227 (395 * c) 0 395) Q) : gm_Wp X LX d bc bs 238 26 [some (gm_vr 226), some (gm_vi 0)] [] n K R M Q := by
  have h9 := cp_238 hE h6 hc hq 395 0 (by omega) (Int.le_refl _)
  rw [cpk_0] at h9
  exact h9
/-- what is remembered, the newest first -/
def HISR (A : List (Int → Int)) (g8 : Int) (M : gm_M) : Prop := (M 226 6 = (A.length : Int) ∧ A.length ≤ 12) ∧ ∀ (i : Nat) (N1 : Int → Int), A[i]? = some N1 → ws (fun j => M 230 (395 * ((A.length : Int) - 1 - (i : Int)) + j)) = N1 ∧ M 230 (395 * ((A.length : Int) - 1 - (i : Int)) + 8) = g8
theorem ws_ext {W V : Int → Int} (h : ∀ j, 0 ≤ j → j < 395 → W j = V j) : ws W = ws V := by
  funext j
  unfold ws
  by_cases hj : 0 ≤ j ∧ j < 395 ∧ ¬ j = 8
  · rw [if_pos hj, if_pos hj, h j hj.1 hj.2.1]
  · rw [if_neg hj, if_neg hj]
theorem hisr_e {g8 : Int} {M2 : gm_M} (h : HISR A g8 M) (e6 : M2 226 6 = M 226 6) (e : ∀ j, M2 230 j = M 230 j) : HISR A g8 M2 := by
  refine ⟨by rw [e6]; exact h.1, fun i N1 hi => ?_⟩
  rw [show (fun j => M2 230 (395 * ((A.length : Int) - 1 - (i : Int)) + j)) = (fun j => M 230 (395 * ((A.length : Int) - 1 - (i : Int)) + j)) from funext fun j => e _, e]
  exact h.2 i N1 hi
theorem hisr_w {g8 : Int} {M2 : gm_M} {W : List (Nat × Option Int)} (h : HISR A g8 M) (hf : fr W M M2) (hw : W.all (fun w => !(w.1 == 230) && !(w.1 == 226 && (w.2 == none || w.2 == some 6))) = true) : HISR A g8 M2 := hisr_e h (hf 226 6 (fun hm => by have := List.all_eq_true.mp hw _ hm; simp at this) (fun hm => by have := List.all_eq_true.mp hw _ hm; simp at this)) (fun j => hf 230 j (fun hm => by have := List.all_eq_true.mp hw _ hm; simp at this) (fun hm => by have := List.all_eq_true.mp hw _ hm; simp at this))
theorem rm_c316 (hE : E0 n K R) (hw : ws (M 227) = N) (hH : HISR A (M 227 8) M) (hq : ∀ M2, fr [(226, some 6), (230, none)] M M2 → HISR ((N :: A).take 12) (M 227 8) M2 → Q (.inl none) n K R M2) : gm_Wp X LX d bc bs 316 0 (gm_ent 316 [gm_vr 226]) [] n K R M Q := by
  obtain ⟨⟨g6, h12⟩, hA⟩ := hH
  generalize hc : (A.length : Int) = c at g6
  have hc0 : 0 ≤ c ∧ c ≤ 12 := ⟨by omega, by omega⟩
  refine gm_sz (gm_p_load (pc := 0) (i := .aload_n 0) (sr := 2) (j := 0) (by decide +kernel) rfl rfl rfl) ?_
  refine gm_sz (fw_gi (pc := 1) (ix := 79) (ci := 11) (j := 6) (x := c) (by decide +kernel) (e0k hE (k := 226) (c := 11) (by decide +kernel)) (by decide +kernel) (by decide +kernel) g6) ?_
  refine gm_sz (gm_p_const (pc := 4) (i := .bipush 12) (v := gm_vi 12) (by decide +kernel) (by decide +kernel)) ?_
  refine fw_ic (cc := .ne) (pc := 6) (off := 37) (by decide +kernel) (by decide) ⟨by omega, by omega⟩ ⟨by decide, by decide⟩ (fun h6 => ?_) (fun h6 => ?_)
  · have h6 : ¬ c = 12 := h6
    refine gm_sz (gm_p_load (pc := 43) (i := .aload_n 0) (sr := 2) (j := 0) (by decide +kernel) rfl rfl rfl) ?_
    refine gm_sz (gm_p_dup (pc := 44) (by decide +kernel) fw_sr) ?_
    refine gm_sz (fw_gi (pc := 45) (ix := 79) (ci := 11) (j := 6) (x := c) (by decide +kernel) (e0k hE (k := 226) (c := 11) (by decide +kernel)) (by decide +kernel) (by decide +kernel) g6) ?_
    refine gm_sz (gm_p_const (pc := 48) (i := .iconst 1) (v := gm_vi 1) (by decide +kernel) (by decide +kernel)) ?_
    refine gm_sz (gm_p_bin (pc := 49) (i := .iadd) (f := fun x y => x + y) (by decide +kernel) rfl) ?_
    refine gm_sz (fw_pi (pc := 50) (ix := 79) (ci := 11) (j := 6) (M' := gm_uM M 226 6 (c + 1)) (by decide +kernel) (e0k hE (k := 226) (c := 11) (by decide +kernel)) (by decide +kernel) (by decide +kernel) (by decide +kernel) rfl) ?_
    refine gm_sz (gm_p_const (pc := 53) (i := .iconst 0) (v := gm_vi 0) (by decide +kernel) (by decide +kernel)) ?_
    refine gm_sz (gm_p_stor (pc := 54) (i := .istore_n 1) (sr := 0) (j := 1) (by decide +kernel) rfl (show 2 ≤ _ from Nat.le_of_ble_eq_true rfl) rfl) ?_
    have e12 : c < 12 := by omega
    refine cp_316bz (M := gm_uM M 226 6 (c + 1)) (Q := Q) (c := c + 1) hE uM_at ⟨by omega, by omega⟩ ?_
    refine gm_r_void (pc := 91) (by decide +kernel) (by decide +kernel) (hq _ (fr_t (fr_p fr_0 (Or.inr (by decide))) cpk_fr (by decide)) ⟨⟨?_, ?_⟩, fun i N1 hi => ?_⟩)
    · rw [List.length_take, List.length_cons]
      exact (cpk_o (by omega)).trans (uM_at.trans (by omega))
    · rw [List.length_take, List.length_cons]
      omega
    · rw [List.getElem?_take] at hi
      split at hi
      · rename_i hi2
        have el : (((N :: A).take 12).length : Int) = c + 1 := by rw [List.length_take, List.length_cons]; omega
        rw [el]
        cases i with
        | zero =>
          have e : N = N1 := by simpa using hi
          subst e
          constructor
          · rw [← hw]
            refine ws_ext (fun j j0 j1 => ?_)
            refine (cpk_i (by omega) (by omega)).trans ((uM_ne (by omega)).trans (congrArg (M 227) (by omega)))
          · exact (cpk_i (by omega) (by omega)).trans ((uM_ne (by omega)).trans (congrArg (M 227) (by omega)))
        | succ i =>
          have hi : A[i]? = some N1 := by simpa using hi
          obtain ⟨a1, a2⟩ := hA i N1 hi
          have hi9 : i < A.length := (List.getElem?_eq_some_iff.mp hi).1
          constructor
          · rw [← a1]
            refine ws_ext (fun j j0 j1 => ?_)
            exact (cpk_o (by omega)).trans ((uM_ne (by omega)).trans (congrArg (M 230) (by omega)))
          · rw [← a2]
            exact (cpk_o (by omega)).trans ((uM_ne (by omega)).trans (congrArg (M 230) (by omega)))
      · cases hi
  · have h6 : c = 12 := Classical.not_not.mp h6
    refine gm_sz (gm_p_const (pc := 9) (i := .iconst 0) (v := gm_vi 0) (by decide +kernel) (by decide +kernel)) ?_
    refine gm_sz (gm_p_stor (pc := 10) (i := .istore_n 1) (sr := 0) (j := 1) (by decide +kernel) rfl (show 2 ≤ _ from Nat.le_of_ble_eq_true rfl) rfl) ?_
    have e12 : c = 12 := by omega
    refine cp_316az (M := M) (Q := Q) hE ?_
    refine gm_sz (gm_p_goto (pc := 40) (off := 13) (by decide +kernel) (by decide)) ?_
    refine gm_sz (gm_p_const (pc := 53) (i := .iconst 0) (v := gm_vi 0) (by decide +kernel) (by decide +kernel)) ?_
    refine gm_sz (gm_p_stor (pc := 54) (i := .istore_n 1) (sr := 0) (j := 1) (by decide +kernel) rfl (show 2 ≤ _ from Nat.le_of_ble_eq_true rfl) rfl) ?_
    refine cp_316bz (M := cpk M 230 230 395 0 4345) (Q := Q) (c := 12) hE ((cpk_o (by omega)).trans (g6.trans e12)) ⟨by decide, by decide⟩ ?_
    refine gm_r_void (pc := 91) (by decide +kernel) (by decide +kernel) (hq _ (fr_t (fr_t fr_0 cpk_fr (by decide)) cpk_fr (by decide)) ⟨⟨?_, ?_⟩, fun i N1 hi => ?_⟩)
    · rw [List.length_take, List.length_cons]
      exact (cpk_o (by omega)).trans ((cpk_o (by omega)).trans (by rw [g6]; omega))
    · rw [List.length_take, List.length_cons]
      omega
    · rw [List.getElem?_take] at hi
      split at hi
      · rename_i hi2
        have el : (((N :: A).take 12).length : Int) = 12 := by rw [List.length_take, List.length_cons]; omega
        rw [el]
        cases i with
        | zero =>
          have e : N = N1 := by simpa using hi
          subst e
          constructor
          · rw [← hw]
            refine ws_ext (fun j j0 j1 => ?_)
            refine (cpk_i (by omega) (by omega)).trans ((cpk_o (by omega)).trans (congrArg (M 227) (by omega)))
          · exact (cpk_i (by omega) (by omega)).trans ((cpk_o (by omega)).trans (congrArg (M 227) (by omega)))
        | succ i =>
          have hi : A[i]? = some N1 := by simpa using hi
          obtain ⟨a1, a2⟩ := hA i N1 hi
          constructor
          · rw [← a1]
            refine ws_ext (fun j j0 j1 => ?_)
            exact (cpk_o (by omega)).trans ((cpk_i (by omega) (by omega)).trans (congrArg (M 230) (by omega)))
          · rw [← a2]
            exact (cpk_o (by omega)).trans ((cpk_i (by omega) (by omega)).trans (congrArg (M 230) (by omega)))
      · cases hi
theorem ud_c238 (hE : E0 n K R) {g8 : Int} (hH : HISR A g8 M) (q0 : A = [] → Q (.inl (some (gm_vi 0))) n K R (gm_uM M 226 0 0)) (q1 : ∀ (N0 : Int → Int) (A1 : List (Int → Int)) (M2 : gm_M), A = N0 :: A1 → HISR A1 g8 M2 → ws (M2 227) = N0 → M2 227 8 = g8 → (∀ j, 395 ≤ j → M2 227 j = M 227 j) → M2 226 0 = 0 → fr [(226, some 0), (226, some 6), (227, none)] M M2 → Q (.inl (some (gm_vi 1))) n K R M2) : gm_Wp X LX d bc bs 238 0 (gm_ent 238 [gm_vr 226]) [] n K R M Q := by
  obtain ⟨⟨g6, h12⟩, hA⟩ := hH
  generalize hc : (A.length : Int) = c at g6 hA
  have hc0 : 0 ≤ c ∧ c ≤ 12 := ⟨by omega, by omega⟩
  refine gm_sz (gm_p_load (pc := 0) (i := .aload_n 0) (sr := 2) (j := 0) (by decide +kernel) rfl rfl rfl) ?_
  refine gm_sz (gm_p_const (pc := 1) (i := .iconst 0) (v := gm_vi 0) (by decide +kernel) (by decide +kernel)) ?_
  refine gm_sz (fw_pi (pc := 2) (ix := 3) (ci := 11) (j := 0) (M' := gm_uM M 226 0 0) (by decide +kernel) (e0k hE (k := 226) (c := 11) (by decide +kernel)) (by decide +kernel) (by decide +kernel) (by decide +kernel) rfl) ?_
  refine gm_sz (gm_p_load (pc := 5) (i := .aload_n 0) (sr := 2) (j := 0) (by decide +kernel) rfl rfl rfl) ?_
  refine gm_sz (fw_gi (pc := 6) (ix := 79) (ci := 11) (j := 6) (x := c) (by decide +kernel) (e0k hE (k := 226) (c := 11) (by decide +kernel)) (by decide +kernel) (by decide +kernel) ((uM_ne (by omega)).trans g6)) ?_
  refine fw_if (cc := .ne) (pc := 9) (off := 5) (by decide +kernel) (by decide) ⟨by omega, by omega⟩ (fun h9 => ?_) (fun h9 => ?_)
  · have h9 : ¬ c = 0 := h9
    refine gm_sz (gm_p_load (pc := 14) (i := .aload_n 0) (sr := 2) (j := 0) (by decide +kernel) rfl rfl rfl) ?_
    refine gm_sz (gm_p_dup (pc := 15) (by decide +kernel) fw_sr) ?_
    refine gm_sz (fw_gi (pc := 16) (ix := 79) (ci := 11) (j := 6) (x := c) (by decide +kernel) (e0k hE (k := 226) (c := 11) (by decide +kernel)) (by decide +kernel) (by decide +kernel) ((uM_ne (by omega)).trans g6)) ?_
    refine gm_sz (gm_p_const (pc := 19) (i := .iconst 1) (v := gm_vi 1) (by decide +kernel) (by decide +kernel)) ?_
    refine gm_sz (gm_p_bin (pc := 20) (i := .isub) (f := fun x y => x - y) (by decide +kernel) rfl) ?_
    refine gm_sz (fw_pi (pc := 21) (ix := 79) (ci := 11) (j := 6) (M' := gm_uM (gm_uM M 226 0 0) 226 6 (c - 1)) (by decide +kernel) (e0k hE (k := 226) (c := 11) (by decide +kernel)) (by decide +kernel) (by decide +kernel) (by decide +kernel) rfl) ?_
    refine gm_sz (gm_p_const (pc := 24) (i := .iconst 0) (v := gm_vi 0) (by decide +kernel) (by decide +kernel)) ?_
    refine gm_sz (gm_p_stor (pc := 25) (i := .istore_n 1) (sr := 0) (j := 1) (by decide +kernel) rfl (show 2 ≤ _ from Nat.le_of_ble_eq_true rfl) rfl) ?_
    cases A with
    | nil => exact absurd hc (by show ¬ ((0 : Nat) : Int) = c; omega)
    | cons N0 A1 =>
      rw [List.length_cons] at hc h12
      obtain ⟨a1, a2⟩ := hA 0 N0 rfl
      refine cp_238z (M := gm_uM (gm_uM M 226 0 0) 226 6 (c - 1)) (Q := Q) (c := c - 1) hE uM_at ⟨by omega, by omega⟩ ?_
      refine gm_sz (gm_p_const (pc := 60) (i := .iconst 1) (v := gm_vi 1) (by decide +kernel) (by decide +kernel)) ?_
      refine gm_r_int (pc := 61) (by decide +kernel) (Or.inr ⟨(by decide +kernel), Or.inr rfl⟩) (q1 N0 A1 _ rfl ⟨⟨?_, by omega⟩, fun i N1 hi => ?_⟩ ?_ ?_ (fun j hj => ?_) ?_ (fr_t (fr_p (fr_p fr_0 (Or.inr (by decide))) (Or.inr (by decide))) cpk_fr (by decide)))
      · exact (cpk_o (by omega)).trans (uM_at.trans (by omega))
      · obtain ⟨b1, b2⟩ := hA (i + 1) N1 (by simpa using hi)
        have e9 : ∀ j, cpk (gm_uM (gm_uM M 226 0 0) 226 6 (c - 1)) 230 227 (395 * (c - 1)) 0 395 230 (395 * ((A1.length : Int) - 1 - (i : Int)) + j) = M 230 (395 * (c - 1 - ((i + 1 : Nat) : Int)) + j) := fun j => (cpk_o (by omega)).trans ((uM_ne (by omega)).trans ((uM_ne (by omega)).trans (congrArg (M 230) (by omega))))
        rw [← b1, ← b2, e9 8]
        exact ⟨ws_ext fun j _ _ => e9 j, rfl⟩
      · rw [← a1]
        refine ws_ext (fun j j0 j1 => (cpk_i (by omega) (by omega)).trans ((uM_ne (by omega)).trans ((uM_ne (by omega)).trans (congrArg (M 230) (by omega)))))
      · rw [← a2]
        exact (cpk_i (by omega) (by omega)).trans ((uM_ne (by omega)).trans ((uM_ne (by omega)).trans (congrArg (M 230) (by omega))))
      · exact (cpk_o (by omega)).trans ((uM_ne (by omega)).trans (uM_ne (by omega)))
      · exact (cpk_o (by omega)).trans ((uM_ne (by omega)).trans uM_at)
  · have h9 : c = 0 := Classical.not_not.mp h9
    refine gm_sz (gm_p_const (pc := 12) (i := .iconst 0) (v := gm_vi 0) (by decide +kernel) (by decide +kernel)) ?_
    exact gm_r_int (pc := 13) (by decide +kernel) (Or.inr ⟨(by decide +kernel), Or.inl rfl⟩) (q0 (List.eq_nil_of_length_eq_zero (by omega)))
theorem ig_c236 (hE : E0 n K R) (hq : ∀ M2, fr [(226, some 0), (226, some 5), (228, none)] M M2 → (∀ j, 0 ≤ j → j < 1244 → M2 228 j = M 227 j) → M2 226 5 = 1 → M2 226 0 = 0 → Q (.inl none) n K R M2) : gm_Wp X LX d bc bs 236 0 (gm_ent 236 [gm_vr 226]) [] n K R M Q := by
  refine gm_sz (gm_p_load (pc := 0) (i := .aload_n 0) (sr := 2) (j := 0) (by decide +kernel) rfl rfl rfl) ?_
  refine gm_sz (gm_p_const (pc := 1) (i := .iconst 0) (v := gm_vi 0) (by decide +kernel) (by decide +kernel)) ?_
  refine gm_sz (fw_pi (pc := 2) (ix := 3) (ci := 11) (j := 0) (M' := gm_uM M 226 0 0) (by decide +kernel) (e0k hE (k := 226) (c := 11) (by decide +kernel)) (by decide +kernel) (by decide +kernel) (by decide +kernel) rfl) ?_
  refine gm_sz (gm_p_const (pc := 5) (i := .iconst 0) (v := gm_vi 0) (by decide +kernel) (by decide +kernel)) ?_
  refine gm_sz (gm_p_stor (pc := 6) (i := .istore_n 1) (sr := 0) (j := 1) (by decide +kernel) rfl (show 2 ≤ _ from Nat.le_of_ble_eq_true rfl) rfl) ?_
  refine cp_236z (M := gm_uM M 226 0 0) (Q := Q) hE ?_
  refine gm_sz (gm_p_load (pc := 32) (i := .aload_n 0) (sr := 2) (j := 0) (by decide +kernel) rfl rfl rfl) ?_
  refine gm_sz (gm_p_const (pc := 33) (i := .iconst 1) (v := gm_vi 1) (by decide +kernel) (by decide +kernel)) ?_
  refine gm_sz (fw_pz (pc := 34) (ix := 75) (ci := 11) (j := 5) (M' := gm_uM (cpk (gm_uM M 226 0 0) 227 228 0 0 1244) 226 5 1) (by decide +kernel) (e0k hE (k := 226) (c := 11) (by decide +kernel)) (by decide +kernel) (by decide +kernel) (by decide +kernel) (Or.inr rfl) rfl) ?_
  refine gm_r_void (pc := 37) (by decide +kernel) (by decide +kernel) (hq _ (fr_p (fr_t (fr_p fr_0 (Or.inr (by decide))) cpk_fr (by decide)) (Or.inr (by decide))) (fun j j0 j1 => ?_) uM_at ?_)
  · exact (uM_ne (by omega)).trans ((cpk_i (by omega) (by omega)).trans ((uM_ne (by omega)).trans (congrArg (M 227) (by omega))))
  · exact (uM_ne (by omega)).trans ((cpk_o (by omega)).trans uM_at)
theorem bk_c237 (hd : 1 ≤ d) (hE : E0 n K R) (hb : M 226 5 = 0 ∨ M 226 5 = 1) {NI : Int → Int} (hi : M 226 5 = 1 → ws (M 228) = NI) (q0 : M 226 5 = 0 → Q (.inl (some (gm_vi 0))) n K R (gm_uM M 226 0 0)) (q1 : M 226 5 = 1 → ∀ M2 : gm_M, fr [(226, some 0), (226, some 6), (226, some 26), (227, none), (234, none)] M M2 → TR NI (hts (NI 13)) M2 → (∀ j, (395 ≤ j ∨ j = 8) → j < 1244 → M2 227 j = M 228 j) → (∀ j, 1244 ≤ j → M2 227 j = M 227 j) → M2 226 26 = -1 → M2 226 6 = 0 → M2 226 0 = 0 → Q (.inl (some (gm_vi 1))) n K R M2) : gm_Wp X LX d bc bs 237 0 (gm_ent 237 [gm_vr 226]) [] n K R M Q := by
  refine gm_sz (gm_p_load (pc := 0) (i := .aload_n 0) (sr := 2) (j := 0) (by decide +kernel) rfl rfl rfl) ?_
  refine gm_sz (gm_p_const (pc := 1) (i := .iconst 0) (v := gm_vi 0) (by decide +kernel) (by decide +kernel)) ?_
  refine gm_sz (fw_pi (pc := 2) (ix := 3) (ci := 11) (j := 0) (M' := gm_uM M 226 0 0) (by decide +kernel) (e0k hE (k := 226) (c := 11) (by decide +kernel)) (by decide +kernel) (by decide +kernel) (by decide +kernel) rfl) ?_
  refine gm_sz (gm_p_load (pc := 5) (i := .aload_n 0) (sr := 2) (j := 0) (by decide +kernel) rfl rfl rfl) ?_
  refine gm_sz (fw_gi (pc := 6) (ix := 75) (ci := 11) (j := 5) (x := M 226 5) (by decide +kernel) (e0k hE (k := 226) (c := 11) (by decide +kernel)) (by decide +kernel) (by decide +kernel) ((uM_ne (by omega)).trans rfl)) ?_
  refine fw_if (cc := .ne) (pc := 9) (off := 5) (by decide +kernel) (by decide) (by rcases hb with h | h <;> rw [h] <;> exact ⟨by decide, by decide⟩) (fun h9 => ?_) (fun h9 => ?_)
  · have h9 : ¬ (M 226 5) = 0 := h9
    refine gm_sz (gm_p_const (pc := 14) (i := .iconst 0) (v := gm_vi 0) (by decide +kernel) (by decide +kernel)) ?_
    refine gm_sz (gm_p_stor (pc := 15) (i := .istore_n 1) (sr := 0) (j := 1) (by decide +kernel) rfl (show 2 ≤ _ from Nat.le_of_ble_eq_true rfl) rfl) ?_
    have h1 : M 226 5 = 1 := by omega
    refine cp_237z (M := gm_uM M 226 0 0) (Q := Q) hE ?_
    have hw9 : ws (gm_uM (cpk (gm_uM M 226 0 0) 228 227 0 0 1244) 226 6 0 227) = NI := by
      rw [← hi h1]
      exact ws_ext fun j j0 j1 => (uM_ne (by omega)).trans ((cpk_i (by omega) (by omega)).trans ((uM_ne (by omega)).trans (congrArg (M 228) (by omega))))
    refine gm_sz (gm_p_load (pc := 41) (i := .aload_n 0) (sr := 2) (j := 0) (by decide +kernel) rfl rfl rfl) ?_
    refine gm_sz (gm_p_const (pc := 42) (i := .iconst 0) (v := gm_vi 0) (by decide +kernel) (by decide +kernel)) ?_
    refine gm_sz (fw_pi (pc := 43) (ix := 79) (ci := 11) (j := 6) (M' := gm_uM (cpk (gm_uM M 226 0 0) 228 227 0 0 1244) 226 6 0) (by decide +kernel) (e0k hE (k := 226) (c := 11) (by decide +kernel)) (by decide +kernel) (by decide +kernel) (by decide +kernel) rfl) ?_
    refine gm_sz (gm_p_load (pc := 46) (i := .aload_n 0) (sr := 2) (j := 0) (by decide +kernel) rfl rfl rfl) ?_
    refine gm_c_virt (k := 226) (ci := 11) (mj := 235) (ix := 72) (pc := 47) (as := []) (st := []) (d' := d - 1) (bc' := 0) (bs' := 0) (by decide +kernel) (by decide +kernel) (by decide +kernel) (by decide +kernel) (e0k hE (k := 226) (c := 11) (by decide +kernel)).1 (e0k hE (k := 226) (c := 11) (by decide +kernel)).2 (by decide) (by decide +kernel) (show 0 = gm_na 235 by decide +kernel) fw_c0 (show 1 ≤ gm_ml 235 by decide +kernel) (Nat.le_of_ble_eq_true rfl) (by omega) (Nat.zero_le _) (Nat.zero_le _) ?_
    refine wa_c235 hE hw9 (fun M235 hf235 hh235 h26 => ?_)
    show gm_Wp X LX d _ _ 237 50 _ [] n K _ _ Q
    refine gm_sz (gm_p_const (pc := 50) (i := .iconst 1) (v := gm_vi 1) (by decide +kernel) (by decide +kernel)) ?_
    refine gm_r_int (pc := 51) (by decide +kernel) (Or.inr ⟨(by decide +kernel), Or.inr rfl⟩) (q1 h1 _ (fr_t (fr_p (fr_t (fr_p fr_0 (Or.inr (by decide))) cpk_fr (by decide)) (Or.inr (by decide))) hf235 (by decide)) ⟨?_, fun y y0 y1 => ⟨hh235 y y0 y1, hts_b⟩⟩ (fun j hj hj2 => ?_) (fun j hj => ?_) h26 ?_ ?_)
    · rw [show M235 227 = gm_uM (cpk (gm_uM M 226 0 0) 228 227 0 0 1244) 226 6 0 227 from funext fun j => fr_c hf235 (by decide)]
      exact hw9
    · exact (fr_c hf235 (by decide)).trans ((uM_ne (by omega)).trans ((cpk_i (by omega) (by omega)).trans ((uM_ne (by omega)).trans (congrArg (M 228) (by omega)))))
    · exact (fr_c hf235 (by decide)).trans ((uM_ne (by omega)).trans ((cpk_o (by omega)).trans (uM_ne (by omega))))
    · exact (fr_j hf235 (by decide)).trans uM_at
    · exact (fr_j hf235 (by decide)).trans ((uM_ne (by omega)).trans ((cpk_o (by omega)).trans uM_at))
  · have h9 : (M 226 5) = 0 := Classical.not_not.mp h9
    refine gm_sz (gm_p_const (pc := 12) (i := .iconst 0) (v := gm_vi 0) (by decide +kernel) (by decide +kernel)) ?_
    exact gm_r_int (pc := 13) (by decide +kernel) (Or.inr ⟨(by decide +kernel), Or.inl rfl⟩) (q0 (by omega))
end AR5
