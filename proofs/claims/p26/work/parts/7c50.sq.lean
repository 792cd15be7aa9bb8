/-! 7c50.sq -/
section
/-! CALLS THAT ONLY ASK, without loops: what they answer. -/
section SQ50
variable {X : Int → Int} {LX d bc bs n : Nat} {K : gm_K} {R : gm_R} {M : gm_M} {Q : gm_Q} {N h : Int → Int} {sp : Int → Int → Int} {FI : gm_M → Prop} {φ : Int → Int → Int → Int} {l lane row year y p w x k c v a b t : Int}
theorem cl_heat (hd : 14 ≤ d) (hbc : 4 ≤ bc) (hbs : 24 ≤ bs) (hE : E0 n K R) (hT : TI N h sp M) (hN : NR N) (hi : gm_ir y) (kv : 0 ≤ y ∧ y ≤ 299 → Q (.inl (some (gm_vi (h y)))) n K R M) (k0 : ¬ (0 ≤ y ∧ y ≤ 299) → Q (.inr 0) n K R M) : gm_Wp X LX d bc bs 128 0 (gm_ent 128 [gm_vr 1, gm_vi y]) [] n K R M Q := by
  obtain ⟨⟨⟨a0, b0⟩, ⟨a1, b1⟩, ⟨a10, b10⟩, ⟨a11, b11⟩, ⟨a12, b12⟩, a9, b9⟩, ⟨⟨a2, b2⟩, ⟨a5, b5⟩, ⟨a3, b3⟩, ⟨a4, b4⟩, ⟨a6, b6⟩, ⟨a14, b14⟩, ⟨a7, b7⟩, a13, b13⟩, rF, rP, rL⟩ := id hN
  refine gm_sz (gm_p_load (pc := 0) (i := .aload_n 0) (sr := 2) (j := 0) (by decide +kernel) rfl rfl rfl) ?_
  refine gm_sz (gm_p_load (pc := 1) (i := .iload_n 1) (sr := 0) (j := 1) (by decide +kernel) rfl rfl rfl) ?_
  refine gm_c_virt (k := 1) (ci := 0) (mj := 129) (ix := 160) (pc := 2) (as := [gm_vi y]) (st := []) (d' := d - 1) (bc' := 1) (bs' := 6) (by decide +kernel) (by decide +kernel) (by decide +kernel) (by decide +kernel) (e0k hE (k := 1) (c := 0) (by decide +kernel)).1 (e0k hE (k := 1) (c := 0) (by decide +kernel)).2 (by decide) (by decide +kernel) (show 1 = gm_na 129 by decide +kernel) (fw_c1 fw_si) (show 2 ≤ gm_ml 129 by decide +kernel) (Nat.le_of_ble_eq_true rfl) (by omega) (by omega) (by omega) ?_
  refine nd_129 (i := y) (by omega) (by omega) (by omega) hi (fun c2 => ?_) (fun c2 => ?_)
  · show gm_Wp X LX d _ _ 128 5 _ [] n K _ _ Q
    have c2 : 0 ≤ y ∧ y ≤ 299 := c2
    refine gm_sz (gm_p_load (pc := 5) (i := .aload_n 0) (sr := 2) (j := 0) (by decide +kernel) rfl rfl rfl) ?_
    refine gm_sz (fw_gr (pc := 6) (ix := 49) (ci := 0) (j := 8) (r := 200) (by decide +kernel) (e0k hE (k := 1) (c := 0) (by decide +kernel)) (by decide +kernel) (by decide +kernel) (e0r hE (k := 1) (j := 8) (r := 200) (by decide +kernel))) ?_
    refine gm_sz (gm_p_load (pc := 9) (i := .iload_n 1) (sr := 0) (j := 1) (by decide +kernel) rfl rfl rfl) ?_
    refine gm_c_virt (k := 200) (ci := 4) (mj := 34) (ix := 163) (pc := 10) (as := [gm_vi y]) (st := []) (d' := d - 1) (bc' := 0) (bs' := 0) (by decide +kernel) (by decide +kernel) (by decide +kernel) (by decide +kernel) (e0k hE (k := 200) (c := 4) (by decide +kernel)).1 (e0k hE (k := 200) (c := 4) (by decide +kernel)).2 (by decide) (by decide +kernel) (show 1 = gm_na 34 by decide +kernel) (fw_c1 fw_si) (show 2 ≤ gm_ml 34 by decide +kernel) (Nat.le_of_ble_eq_true rfl) (by omega) (Nat.zero_le _) (Nat.zero_le _) ?_
    refine ic_heat hE hT hN ⟨by omega, by omega⟩ ?_
    show gm_Wp X LX d _ _ 128 13 _ [gm_vi (h y)] n K _ _ Q
    exact gm_r_int (pc := 13) (by decide +kernel) (Or.inl (by decide +kernel)) (kv (by omega))
  · show Q (.inr 0) n K _ _
    have c2 : ¬ (0 ≤ y ∧ y ≤ 299) := c2
    exact (k0 (by omega))
theorem re_heat (hd : 6 ≤ d) (hE : E0 n K R) (hT : TR N h M) (hN : NR N) (hi : gm_ir y) (kv : 0 ≤ y ∧ y ≤ 299 → ∀ M2, M2 226 0 = 0 → Q (.inl (some (gm_vi (h y)))) n K R M2) (k1 : ¬ (0 ≤ y ∧ y ≤ 299) → ∀ M2, M2 226 0 = 1 → Q (.inl (some (gm_vi 0))) n K R M2) : gm_Wp X LX d bc bs 284 0 (gm_ent 284 [gm_vr 226, gm_vi y]) [] n K R M Q := by
  obtain ⟨⟨⟨a0, b0⟩, ⟨a1, b1⟩, ⟨a10, b10⟩, ⟨a11, b11⟩, ⟨a12, b12⟩, a9, b9⟩, ⟨⟨a2, b2⟩, ⟨a5, b5⟩, ⟨a3, b3⟩, ⟨a4, b4⟩, ⟨a6, b6⟩, ⟨a14, b14⟩, ⟨a7, b7⟩, a13, b13⟩, rF, rP, rL⟩ := id hN
  refine gm_sz (gm_p_load (pc := 0) (i := .aload_n 0) (sr := 2) (j := 0) (by decide +kernel) rfl rfl rfl) ?_
  refine gm_sz (gm_p_const (pc := 1) (i := .iconst 0) (v := gm_vi 0) (by decide +kernel) (by decide +kernel)) ?_
  refine gm_sz (fw_pi (pc := 2) (ix := 3) (ci := 11) (j := 0) (M' := gm_uM M 226 0 0) (by decide +kernel) (e0k hE (k := 226) (c := 11) (by decide +kernel)) (by decide +kernel) (by decide +kernel) (by decide +kernel) rfl) ?_
  refine gm_sz (gm_p_load (pc := 5) (i := .aload_n 0) (sr := 2) (j := 0) (by decide +kernel) rfl rfl rfl) ?_
  refine gm_sz (gm_p_load (pc := 6) (i := .iload_n 1) (sr := 0) (j := 1) (by decide +kernel) rfl rfl rfl) ?_
  refine gm_c_stat (mj := 285) (ix := 353) (pc := 7) (as := [gm_vi y]) (st := [gm_vr 226]) (d' := d - 1) (bc' := 0) (bs' := 0) (by decide +kernel) (by decide +kernel) (by decide +kernel) (by decide +kernel) (show 1 = gm_na 285 by decide +kernel) (fw_c1 fw_si) (show 1 ≤ gm_ml 285 by decide +kernel) (Nat.le_of_ble_eq_true rfl) (by omega) (Nat.zero_le _) (Nat.zero_le _) ?_
  refine no_285 (i := y) (by omega) hi (fun n7 => ?_) (fun n7 => ?_)
  · show gm_Wp X LX d _ _ 284 10 _ [gm_vi 1, gm_vr 226] n K _ _ Q
    have n7 : ¬ (0 ≤ y ∧ y ≤ 299) := n7
    refine gm_sz (gm_p_const (pc := 10) (i := .iconst 1) (v := gm_vi 1) (by decide +kernel) (by decide +kernel)) ?_
    refine gm_c_virt (k := 226) (ci := 11) (mj := 282) (ix := 300) (pc := 11) (as := [gm_vi 1, gm_vi 1]) (st := []) (d' := d - 1) (bc' := 0) (bs' := 0) (by decide +kernel) (by decide +kernel) (by decide +kernel) (by decide +kernel) (e0k hE (k := 226) (c := 11) (by decide +kernel)).1 (e0k hE (k := 226) (c := 11) (by decide +kernel)).2 (by decide) (by decide +kernel) (show 2 = gm_na 282 by decide +kernel) (fw_c2 fw_si fw_si) (show 3 ≤ gm_ml 282 by decide +kernel) (Nat.le_of_ble_eq_true rfl) (by omega) (Nat.zero_le _) (Nat.zero_le _) ?_
    refine tf_1 hE ?_
    show gm_Wp X LX d _ _ 284 14 _ [gm_vi 1] n K _ _ Q
    refine fw_iffd (cc := .eq) (pc := 14) (off := 7) (by decide +kernel) (by decide) ⟨by decide, by decide⟩ (by decide) ?_
    refine gm_sz (gm_p_const (pc := 17) (i := .iconst 0) (v := gm_vi 0) (by decide +kernel) (by decide +kernel)) ?_
    refine gm_sz (gm_p_goto (pc := 18) (off := 9) (by decide +kernel) (by decide)) ?_
    exact gm_r_int (pc := 27) (by decide +kernel) (Or.inl (by decide +kernel)) (k1 (by omega) _ uM_at)
  · show gm_Wp X LX d _ _ 284 10 _ [gm_vi 0, gm_vr 226] n K _ _ Q
    have n7 : 0 ≤ y ∧ y ≤ 299 := n7
    refine gm_sz (gm_p_const (pc := 10) (i := .iconst 1) (v := gm_vi 1) (by decide +kernel) (by decide +kernel)) ?_
    refine gm_c_virt (k := 226) (ci := 11) (mj := 282) (ix := 300) (pc := 11) (as := [gm_vi 0, gm_vi 1]) (st := []) (d' := d - 1) (bc' := 0) (bs' := 0) (by decide +kernel) (by decide +kernel) (by decide +kernel) (by decide +kernel) (e0k hE (k := 226) (c := 11) (by decide +kernel)).1 (e0k hE (k := 226) (c := 11) (by decide +kernel)).2 (by decide) (by decide +kernel) (show 2 = gm_na 282 by decide +kernel) (fw_c2 fw_si fw_si) (show 3 ≤ gm_ml 282 by decide +kernel) (Nat.le_of_ble_eq_true rfl) (by omega) (Nat.zero_le _) (Nat.zero_le _) ?_
    refine tf_0 hE ?_
    show gm_Wp X LX d _ _ 284 14 _ [gm_vi 0] n K _ _ Q
    refine fw_iftd (cc := .eq) (pc := 14) (off := 7) (by decide +kernel) (by decide) ⟨by decide, by decide⟩ (by decide) ?_
    refine gm_sz (gm_p_load (pc := 21) (i := .aload_n 0) (sr := 2) (j := 0) (by decide +kernel) rfl rfl rfl) ?_
    refine gm_sz (fw_gr (pc := 22) (ix := 39) (ci := 11) (j := 24) (r := 234) (by decide +kernel) (e0k hE (k := 226) (c := 11) (by decide +kernel)) (by decide +kernel) (by decide +kernel) (e0r hE (k := 226) (j := 24) (r := 234) (by decide +kernel))) ?_
    refine gm_sz (gm_p_load (pc := 25) (i := .iload_n 1) (sr := 0) (j := 1) (by decide +kernel) rfl rfl rfl) ?_
    refine gm_sz (fw_ia (pc := 26) (k := 234) (len := 300) (e0 := y) (x := h y) (by decide +kernel) (e0a hE (k := 234) (q := (0, 300)) (by decide +kernel)).1 (e0a hE (k := 234) (q := (0, 300)) (by decide +kernel)).2 (by decide) ⟨by omega, by omega⟩ ((uM_ne (by omega)).trans ((hT.2 _ (by omega) (by omega)).1))) ?_
    exact gm_r_int (pc := 27) (by decide +kernel) (Or.inl (by decide +kernel)) (kv (by omega) _ uM_at)
theorem cl_speed (hd : 14 ≤ d) (hbc : 4 ≤ bc) (hbs : 24 ≤ bs) (hE : E0 n K R) (hT : TI N h sp M) (hN : NR N) (hi : gm_ir l) (hi2 : gm_ir x) (kv : (0 ≤ l ∧ l < N 0) ∧ (0 ≤ x ∧ x < N 1) → Q (.inl (some (gm_vi (sp l x)))) n K R M) (k3 : ¬ ((0 ≤ l ∧ l < N 0) ∧ (0 ≤ x ∧ x < N 1)) → Q (.inr 3) n K R M) : gm_Wp X LX d bc bs 131 0 (gm_ent 131 [gm_vr 1, gm_vi l, gm_vi x]) [] n K R M Q := by
  obtain ⟨⟨⟨a0, b0⟩, ⟨a1, b1⟩, ⟨a10, b10⟩, ⟨a11, b11⟩, ⟨a12, b12⟩, a9, b9⟩, ⟨⟨a2, b2⟩, ⟨a5, b5⟩, ⟨a3, b3⟩, ⟨a4, b4⟩, ⟨a6, b6⟩, ⟨a14, b14⟩, ⟨a7, b7⟩, a13, b13⟩, rF, rP, rL⟩ := id hN
  refine gm_sz (gm_p_load (pc := 0) (i := .aload_n 0) (sr := 2) (j := 0) (by decide +kernel) rfl rfl rfl) ?_
  refine gm_sz (gm_p_load (pc := 1) (i := .iload_n 1) (sr := 0) (j := 1) (by decide +kernel) rfl rfl rfl) ?_
  refine gm_c_virt (k := 1) (ci := 0) (mj := 132) (ix := 166) (pc := 2) (as := [gm_vi l]) (st := []) (d' := d - 1) (bc' := 1) (bs' := 6) (by decide +kernel) (by decide +kernel) (by decide +kernel) (by decide +kernel) (e0k hE (k := 1) (c := 0) (by decide +kernel)).1 (e0k hE (k := 1) (c := 0) (by decide +kernel)).2 (by decide) (by decide +kernel) (show 1 = gm_na 132 by decide +kernel) (fw_c1 fw_si) (show 2 ≤ gm_ml 132 by decide +kernel) (Nat.le_of_ble_eq_true rfl) (by omega) (by omega) (by omega) ?_
  refine nd_132 (i := l) (by omega) (by omega) (by omega) hE hT hN hi (fun c2 => ?_) (fun c2 => ?_)
  · show gm_Wp X LX d _ _ 131 5 _ [] n K _ _ Q
    have c2 : 0 ≤ l ∧ l < N 0 := c2
    refine gm_sz (gm_p_load (pc := 5) (i := .aload_n 0) (sr := 2) (j := 0) (by decide +kernel) rfl rfl rfl) ?_
    refine gm_sz (gm_p_load (pc := 6) (i := .iload_n 2) (sr := 0) (j := 2) (by decide +kernel) rfl rfl rfl) ?_
    refine gm_c_virt (k := 1) (ci := 0) (mj := 134) (ix := 169) (pc := 7) (as := [gm_vi x]) (st := []) (d' := d - 1) (bc' := 1) (bs' := 6) (by decide +kernel) (by decide +kernel) (by decide +kernel) (by decide +kernel) (e0k hE (k := 1) (c := 0) (by decide +kernel)).1 (e0k hE (k := 1) (c := 0) (by decide +kernel)).2 (by decide) (by decide +kernel) (show 1 = gm_na 134 by decide +kernel) (fw_c1 fw_si) (show 2 ≤ gm_ml 134 by decide +kernel) (Nat.le_of_ble_eq_true rfl) (by omega) (by omega) (by omega) ?_
    refine nd_134 (i := x) (by omega) (by omega) (by omega) hE hT hN hi2 (fun c7 => ?_) (fun c7 => ?_)
    · show gm_Wp X LX d _ _ 131 10 _ [] n K _ _ Q
      have c7 : 0 ≤ x ∧ x < N 1 := c7
      refine gm_sz (gm_p_load (pc := 10) (i := .aload_n 0) (sr := 2) (j := 0) (by decide +kernel) rfl rfl rfl) ?_
      refine gm_sz (fw_gr (pc := 11) (ix := 49) (ci := 0) (j := 8) (r := 200) (by decide +kernel) (e0k hE (k := 1) (c := 0) (by decide +kernel)) (by decide +kernel) (by decide +kernel) (e0r hE (k := 1) (j := 8) (r := 200) (by decide +kernel))) ?_
      refine gm_sz (gm_p_load (pc := 14) (i := .iload_n 1) (sr := 0) (j := 1) (by decide +kernel) rfl rfl rfl) ?_
      refine gm_sz (gm_p_load (pc := 15) (i := .iload_n 2) (sr := 0) (j := 2) (by decide +kernel) rfl rfl rfl) ?_
      refine gm_c_virt (k := 200) (ci := 4) (mj := 36) (ix := 172) (pc := 16) (as := [gm_vi l, gm_vi x]) (st := []) (d' := d - 1) (bc' := 0) (bs' := 0) (by decide +kernel) (by decide +kernel) (by decide +kernel) (by decide +kernel) (e0k hE (k := 200) (c := 4) (by decide +kernel)).1 (e0k hE (k := 200) (c := 4) (by decide +kernel)).2 (by decide) (by decide +kernel) (show 2 = gm_na 36 by decide +kernel) (fw_c2 fw_si fw_si) (show 3 ≤ gm_ml 36 by decide +kernel) (Nat.le_of_ble_eq_true rfl) (by omega) (Nat.zero_le _) (Nat.zero_le _) ?_
      refine ic_spd hE hT hN ⟨by omega, by omega⟩ ⟨by omega, by omega⟩ ?_
      show gm_Wp X LX d _ _ 131 19 _ [gm_vi (sp l x)] n K _ _ Q
      exact gm_r_int (pc := 19) (by decide +kernel) (Or.inl (by decide +kernel)) (kv ⟨⟨by omega, by omega⟩, ⟨by omega, by omega⟩⟩)
    · show Q (.inr 3) n K _ _
      have c7 : ¬ (0 ≤ x ∧ x < N 1) := c7
      exact (k3 (by omega))
  · show Q (.inr 3) n K _ _
    have c2 : ¬ (0 ≤ l ∧ l < N 0) := c2
    exact (k3 (by omega))
theorem re_speed (hd : 6 ≤ d) (hE : E0 n K R) (hT : TR N h M) (hN : NR N) (hS : NSb 6 N) (hi : gm_ir l) (hi2 : gm_ir x) (kv : (0 ≤ l ∧ l < N 0) ∧ (0 ≤ x ∧ x < N 1) → ∀ M2, M2 226 0 = 0 → Q (.inl (some (gm_vi (nsp N l x)))) n K R M2) (k1 : ¬ ((0 ≤ l ∧ l < N 0) ∧ (0 ≤ x ∧ x < N 1)) → ∀ M2, M2 226 0 = 1 → Q (.inl (some (gm_vi 0))) n K R M2) : gm_Wp X LX d bc bs 287 0 (gm_ent 287 [gm_vr 226, gm_vi l, gm_vi x]) [] n K R M Q := by
  obtain ⟨⟨⟨a0, b0⟩, ⟨a1, b1⟩, ⟨a10, b10⟩, ⟨a11, b11⟩, ⟨a12, b12⟩, a9, b9⟩, ⟨⟨a2, b2⟩, ⟨a5, b5⟩, ⟨a3, b3⟩, ⟨a4, b4⟩, ⟨a6, b6⟩, ⟨a14, b14⟩, ⟨a7, b7⟩, a13, b13⟩, rF, rP, rL⟩ := id hN
  refine gm_sz (gm_p_load (pc := 0) (i := .aload_n 0) (sr := 2) (j := 0) (by decide +kernel) rfl rfl rfl) ?_
  refine gm_sz (gm_p_const (pc := 1) (i := .iconst 0) (v := gm_vi 0) (by decide +kernel) (by decide +kernel)) ?_
  refine gm_sz (fw_pi (pc := 2) (ix := 3) (ci := 11) (j := 0) (M' := gm_uM M 226 0 0) (by decide +kernel) (e0k hE (k := 226) (c := 11) (by decide +kernel)) (by decide +kernel) (by decide +kernel) (by decide +kernel) rfl) ?_
  refine gm_sz (gm_p_load (pc := 5) (i := .aload_n 0) (sr := 2) (j := 0) (by decide +kernel) rfl rfl rfl) ?_
  refine gm_sz (gm_p_load (pc := 6) (i := .aload_n 0) (sr := 2) (j := 0) (by decide +kernel) rfl rfl rfl) ?_
  refine gm_sz (gm_p_load (pc := 7) (i := .iload_n 1) (sr := 0) (j := 1) (by decide +kernel) rfl rfl rfl) ?_
  refine gm_c_virt (k := 226) (ci := 11) (mj := 288) (ix := 356) (pc := 8) (as := [gm_vi l]) (st := [gm_vr 226]) (d' := d - 1) (bc' := 0) (bs' := 0) (by decide +kernel) (by decide +kernel) (by decide +kernel) (by decide +kernel) (e0k hE (k := 226) (c := 11) (by decide +kernel)).1 (e0k hE (k := 226) (c := 11) (by decide +kernel)).2 (by decide) (by decide +kernel) (show 1 = gm_na 288 by decide +kernel) (fw_c1 fw_si) (show 2 ≤ gm_ml 288 by decide +kernel) (Nat.le_of_ble_eq_true rfl) (by omega) (Nat.zero_le _) (Nat.zero_le _) ?_
  refine no_288 (i := l) (by omega) hE (tr_fr (W := [(226, some 0)]) hT (fr_p fr_0 (Or.inr (by decide))) (by decide)) hN hi (fun n8 => ?_) (fun n8 => ?_)
  · show gm_Wp X LX d _ _ 287 11 _ [gm_vi 1, gm_vr 226] n K _ _ Q
    have n8 : ¬ (0 ≤ l ∧ l < N 0) := n8
    refine fw_iftd (cc := .ne) (pc := 11) (off := 11) (by decide +kernel) (by decide) ⟨by decide, by decide⟩ (by decide) ?_
    refine gm_sz (gm_p_const (pc := 22) (i := .iconst 1) (v := gm_vi 1) (by decide +kernel) (by decide +kernel)) ?_
    refine gm_sz (gm_p_goto (pc := 23) (off := 4) (by decide +kernel) (by decide)) ?_
    refine gm_sz (gm_p_const (pc := 27) (i := .iconst 1) (v := gm_vi 1) (by decide +kernel) (by decide +kernel)) ?_
    refine gm_c_virt (k := 226) (ci := 11) (mj := 282) (ix := 300) (pc := 28) (as := [gm_vi 1, gm_vi 1]) (st := []) (d' := d - 1) (bc' := 0) (bs' := 0) (by decide +kernel) (by decide +kernel) (by decide +kernel) (by decide +kernel) (e0k hE (k := 226) (c := 11) (by decide +kernel)).1 (e0k hE (k := 226) (c := 11) (by decide +kernel)).2 (by decide) (by decide +kernel) (show 2 = gm_na 282 by decide +kernel) (fw_c2 fw_si fw_si) (show 3 ≤ gm_ml 282 by decide +kernel) (Nat.le_of_ble_eq_true rfl) (by omega) (Nat.zero_le _) (Nat.zero_le _) ?_
    refine tf_1 hE ?_
    show gm_Wp X LX d _ _ 287 31 _ [gm_vi 1] n K _ _ Q
    refine fw_iffd (cc := .eq) (pc := 31) (off := 7) (by decide +kernel) (by decide) ⟨by decide, by decide⟩ (by decide) ?_
    refine gm_sz (gm_p_const (pc := 34) (i := .iconst 0) (v := gm_vi 0) (by decide +kernel) (by decide +kernel)) ?_
    refine gm_sz (gm_p_goto (pc := 35) (off := 9) (by decide +kernel) (by decide)) ?_
    exact gm_r_int (pc := 44) (by decide +kernel) (Or.inl (by decide +kernel)) (k1 (by omega) _ uM_at)
  · show gm_Wp X LX d _ _ 287 11 _ [gm_vi 0, gm_vr 226] n K _ _ Q
    have n8 : 0 ≤ l ∧ l < N 0 := n8
    refine fw_iffd (cc := .ne) (pc := 11) (off := 11) (by decide +kernel) (by decide) ⟨by decide, by decide⟩ (by decide) ?_
    refine gm_sz (gm_p_load (pc := 14) (i := .aload_n 0) (sr := 2) (j := 0) (by decide +kernel) rfl rfl rfl) ?_
    refine gm_sz (gm_p_load (pc := 15) (i := .iload_n 2) (sr := 0) (j := 2) (by decide +kernel) rfl rfl rfl) ?_
    refine gm_c_virt (k := 226) (ci := 11) (mj := 289) (ix := 359) (pc := 16) (as := [gm_vi x]) (st := [gm_vr 226]) (d' := d - 1) (bc' := 0) (bs' := 0) (by decide +kernel) (by decide +kernel) (by decide +kernel) (by decide +kernel) (e0k hE (k := 226) (c := 11) (by decide +kernel)).1 (e0k hE (k := 226) (c := 11) (by decide +kernel)).2 (by decide) (by decide +kernel) (show 1 = gm_na 289 by decide +kernel) (fw_c1 fw_si) (show 2 ≤ gm_ml 289 by decide +kernel) (Nat.le_of_ble_eq_true rfl) (by omega) (Nat.zero_le _) (Nat.zero_le _) ?_
    refine no_289 (i := x) (by omega) hE (tr_fr (W := [(226, some 0)]) hT (fr_p fr_0 (Or.inr (by decide))) (by decide)) hN hi2 (fun n16 => ?_) (fun n16 => ?_)
    · show gm_Wp X LX d _ _ 287 19 _ [gm_vi 1, gm_vr 226] n K _ _ Q
      have n16 : ¬ (0 ≤ x ∧ x < N 1) := n16
      refine fw_iffd (cc := .eq) (pc := 19) (off := 7) (by decide +kernel) (by decide) ⟨by decide, by decide⟩ (by decide) ?_
      refine gm_sz (gm_p_const (pc := 22) (i := .iconst 1) (v := gm_vi 1) (by decide +kernel) (by decide +kernel)) ?_
      refine gm_sz (gm_p_goto (pc := 23) (off := 4) (by decide +kernel) (by decide)) ?_
      refine gm_sz (gm_p_const (pc := 27) (i := .iconst 1) (v := gm_vi 1) (by decide +kernel) (by decide +kernel)) ?_
      refine gm_c_virt (k := 226) (ci := 11) (mj := 282) (ix := 300) (pc := 28) (as := [gm_vi 1, gm_vi 1]) (st := []) (d' := d - 1) (bc' := 0) (bs' := 0) (by decide +kernel) (by decide +kernel) (by decide +kernel) (by decide +kernel) (e0k hE (k := 226) (c := 11) (by decide +kernel)).1 (e0k hE (k := 226) (c := 11) (by decide +kernel)).2 (by decide) (by decide +kernel) (show 2 = gm_na 282 by decide +kernel) (fw_c2 fw_si fw_si) (show 3 ≤ gm_ml 282 by decide +kernel) (Nat.le_of_ble_eq_true rfl) (by omega) (Nat.zero_le _) (Nat.zero_le _) ?_
      refine tf_1 hE ?_
      show gm_Wp X LX d _ _ 287 31 _ [gm_vi 1] n K _ _ Q
      refine fw_iffd (cc := .eq) (pc := 31) (off := 7) (by decide +kernel) (by decide) ⟨by decide, by decide⟩ (by decide) ?_
      refine gm_sz (gm_p_const (pc := 34) (i := .iconst 0) (v := gm_vi 0) (by decide +kernel) (by decide +kernel)) ?_
      refine gm_sz (gm_p_goto (pc := 35) (off := 9) (by decide +kernel) (by decide)) ?_
      exact gm_r_int (pc := 44) (by decide +kernel) (Or.inl (by decide +kernel)) (k1 (by omega) _ uM_at)
    · show gm_Wp X LX d _ _ 287 19 _ [gm_vi 0, gm_vr 226] n K _ _ Q
      have n16 : 0 ≤ x ∧ x < N 1 := n16
      refine fw_iftd (cc := .eq) (pc := 19) (off := 7) (by decide +kernel) (by decide) ⟨by decide, by decide⟩ (by decide) ?_
      refine gm_sz (gm_p_const (pc := 26) (i := .iconst 0) (v := gm_vi 0) (by decide +kernel) (by decide +kernel)) ?_
      refine gm_sz (gm_p_const (pc := 27) (i := .iconst 1) (v := gm_vi 1) (by decide +kernel) (by decide +kernel)) ?_
      refine gm_c_virt (k := 226) (ci := 11) (mj := 282) (ix := 300) (pc := 28) (as := [gm_vi 0, gm_vi 1]) (st := []) (d' := d - 1) (bc' := 0) (bs' := 0) (by decide +kernel) (by decide +kernel) (by decide +kernel) (by decide +kernel) (e0k hE (k := 226) (c := 11) (by decide +kernel)).1 (e0k hE (k := 226) (c := 11) (by decide +kernel)).2 (by decide) (by decide +kernel) (show 2 = gm_na 282 by decide +kernel) (fw_c2 fw_si fw_si) (show 3 ≤ gm_ml 282 by decide +kernel) (Nat.le_of_ble_eq_true rfl) (by omega) (Nat.zero_le _) (Nat.zero_le _) ?_
      refine tf_0 hE ?_
      show gm_Wp X LX d _ _ 287 31 _ [gm_vi 0] n K _ _ Q
      refine fw_iftd (cc := .eq) (pc := 31) (off := 7) (by decide +kernel) (by decide) ⟨by decide, by decide⟩ (by decide) ?_
      refine gm_sz (gm_p_load (pc := 38) (i := .aload_n 0) (sr := 2) (j := 0) (by decide +kernel) rfl rfl rfl) ?_
      refine gm_sz (gm_p_load (pc := 39) (i := .iload_n 1) (sr := 0) (j := 1) (by decide +kernel) rfl rfl rfl) ?_
      refine gm_sz (gm_p_load (pc := 40) (i := .iload_n 2) (sr := 0) (j := 2) (by decide +kernel) rfl rfl rfl) ?_
      refine gm_c_virt (k := 226) (ci := 11) (mj := 290) (ix := 338) (pc := 41) (as := [gm_vi l, gm_vi x]) (st := []) (d' := d - 1) (bc' := 0) (bs' := 0) (by decide +kernel) (by decide +kernel) (by decide +kernel) (by decide +kernel) (e0k hE (k := 226) (c := 11) (by decide +kernel)).1 (e0k hE (k := 226) (c := 11) (by decide +kernel)).2 (by decide) (by decide +kernel) (show 2 = gm_na 290 by decide +kernel) (fw_c2 fw_si fw_si) (show 3 ≤ gm_ml 290 by decide +kernel) (Nat.le_of_ble_eq_true rfl) (by omega) (Nat.zero_le _) (Nat.zero_le _) ?_
      refine re_c290 (lane := l) (row := x) hE (tr_fr (W := [(226, some 0)]) hT (fr_p fr_0 (Or.inr (by decide))) (by decide)) hN ⟨by omega, by omega⟩ ⟨by omega, by omega⟩ hS ?_
      show gm_Wp X LX d _ _ 287 44 _ [gm_vi (nsp N l x)] n K _ _ Q
      exact gm_r_int (pc := 44) (by decide +kernel) (Or.inl (by decide +kernel)) (kv ⟨⟨by omega, by omega⟩, ⟨by omega, by omega⟩⟩ _ uM_at)
theorem cl_flow (hd : 14 ≤ d) (hbc : 4 ≤ bc) (hbs : 24 ≤ bs) (hE : E0 n K R) (hT : TI N h sp M) (hN : NR N) (hfw : FLW X LX n K R N h sp FI φ) (hI : FI M) (hi : gm_ir l) (hi2 : gm_ir x) (hi3 : gm_ir y) (kv : (0 ≤ l ∧ l < N 0) ∧ (0 ≤ x ∧ x < N 1) → 0 ≤ y ∧ y ≤ 299 → ∀ M2, fr [(200, some 6), (204, none), (205, none)] M M2 → Q (.inl (some (gm_vi (φ l x y)))) n K R M2) (k3 : ¬ ((0 ≤ l ∧ l < N 0) ∧ (0 ≤ x ∧ x < N 1)) → Q (.inr 3) n K R M) (k0 : (0 ≤ l ∧ l < N 0) ∧ (0 ≤ x ∧ x < N 1) → ¬ (0 ≤ y ∧ y ≤ 299) → Q (.inr 0) n K R M) : gm_Wp X LX d bc bs 136 0 (gm_ent 136 [gm_vr 1, gm_vi l, gm_vi x, gm_vi y]) [] n K R M Q := by
  obtain ⟨⟨⟨a0, b0⟩, ⟨a1, b1⟩, ⟨a10, b10⟩, ⟨a11, b11⟩, ⟨a12, b12⟩, a9, b9⟩, ⟨⟨a2, b2⟩, ⟨a5, b5⟩, ⟨a3, b3⟩, ⟨a4, b4⟩, ⟨a6, b6⟩, ⟨a14, b14⟩, ⟨a7, b7⟩, a13, b13⟩, rF, rP, rL⟩ := id hN
  refine gm_sz (gm_p_load (pc := 0) (i := .aload_n 0) (sr := 2) (j := 0) (by decide +kernel) rfl rfl rfl) ?_
  refine gm_sz (gm_p_load (pc := 1) (i := .iload_n 1) (sr := 0) (j := 1) (by decide +kernel) rfl rfl rfl) ?_
  refine gm_c_virt (k := 1) (ci := 0) (mj := 132) (ix := 166) (pc := 2) (as := [gm_vi l]) (st := []) (d' := d - 1) (bc' := 1) (bs' := 6) (by decide +kernel) (by decide +kernel) (by decide +kernel) (by decide +kernel) (e0k hE (k := 1) (c := 0) (by decide +kernel)).1 (e0k hE (k := 1) (c := 0) (by decide +kernel)).2 (by decide) (by decide +kernel) (show 1 = gm_na 132 by decide +kernel) (fw_c1 fw_si) (show 2 ≤ gm_ml 132 by decide +kernel) (Nat.le_of_ble_eq_true rfl) (by omega) (by omega) (by omega) ?_
  refine nd_132 (i := l) (by omega) (by omega) (by omega) hE hT hN hi (fun c2 => ?_) (fun c2 => ?_)
  · show gm_Wp X LX d _ _ 136 5 _ [] n K _ _ Q
    have c2 : 0 ≤ l ∧ l < N 0 := c2
    refine gm_sz (gm_p_load (pc := 5) (i := .aload_n 0) (sr := 2) (j := 0) (by decide +kernel) rfl rfl rfl) ?_
    refine gm_sz (gm_p_load (pc := 6) (i := .iload_n 2) (sr := 0) (j := 2) (by decide +kernel) rfl rfl rfl) ?_
    refine gm_c_virt (k := 1) (ci := 0) (mj := 134) (ix := 169) (pc := 7) (as := [gm_vi x]) (st := []) (d' := d - 1) (bc' := 1) (bs' := 6) (by decide +kernel) (by decide +kernel) (by decide +kernel) (by decide +kernel) (e0k hE (k := 1) (c := 0) (by decide +kernel)).1 (e0k hE (k := 1) (c := 0) (by decide +kernel)).2 (by decide) (by decide +kernel) (show 1 = gm_na 134 by decide +kernel) (fw_c1 fw_si) (show 2 ≤ gm_ml 134 by decide +kernel) (Nat.le_of_ble_eq_true rfl) (by omega) (by omega) (by omega) ?_
    refine nd_134 (i := x) (by omega) (by omega) (by omega) hE hT hN hi2 (fun c7 => ?_) (fun c7 => ?_)
    · show gm_Wp X LX d _ _ 136 10 _ [] n K _ _ Q
      have c7 : 0 ≤ x ∧ x < N 1 := c7
      refine gm_sz (gm_p_load (pc := 10) (i := .aload_n 0) (sr := 2) (j := 0) (by decide +kernel) rfl rfl rfl) ?_
      refine gm_sz (gm_p_load (pc := 11) (i := .iload_n 3) (sr := 0) (j := 3) (by decide +kernel) rfl rfl rfl) ?_
      refine gm_c_virt (k := 1) (ci := 0) (mj := 129) (ix := 160) (pc := 12) (as := [gm_vi y]) (st := []) (d' := d - 1) (bc' := 1) (bs' := 6) (by decide +kernel) (by decide +kernel) (by decide +kernel) (by decide +kernel) (e0k hE (k := 1) (c := 0) (by decide +kernel)).1 (e0k hE (k := 1) (c := 0) (by decide +kernel)).2 (by decide) (by decide +kernel) (show 1 = gm_na 129 by decide +kernel) (fw_c1 fw_si) (show 2 ≤ gm_ml 129 by decide +kernel) (Nat.le_of_ble_eq_true rfl) (by omega) (by omega) (by omega) ?_
      refine nd_129 (i := y) (by omega) (by omega) (by omega) hi3 (fun c12 => ?_) (fun c12 => ?_)
      · show gm_Wp X LX d _ _ 136 15 _ [] n K _ _ Q
        have c12 : 0 ≤ y ∧ y ≤ 299 := c12
        refine gm_sz (gm_p_load (pc := 15) (i := .aload_n 0) (sr := 2) (j := 0) (by decide +kernel) rfl rfl rfl) ?_
        refine gm_sz (fw_gr (pc := 16) (ix := 49) (ci := 0) (j := 8) (r := 200) (by decide +kernel) (e0k hE (k := 1) (c := 0) (by decide +kernel)) (by decide +kernel) (by decide +kernel) (e0r hE (k := 1) (j := 8) (r := 200) (by decide +kernel))) ?_
        refine gm_sz (gm_p_load (pc := 19) (i := .iload_n 1) (sr := 0) (j := 1) (by decide +kernel) rfl rfl rfl) ?_
        refine gm_sz (gm_p_load (pc := 20) (i := .iload_n 2) (sr := 0) (j := 2) (by decide +kernel) rfl rfl rfl) ?_
        refine gm_sz (gm_p_load (pc := 21) (i := .iload_n 3) (sr := 0) (j := 3) (by decide +kernel) rfl rfl rfl) ?_
        refine gm_c_virt (k := 200) (ci := 4) (mj := 35) (ix := 176) (pc := 22) (as := [gm_vi l, gm_vi x, gm_vi y]) (st := []) (d' := d - 1) (bc' := 0) (bs' := 0) (by decide +kernel) (by decide +kernel) (by decide +kernel) (by decide +kernel) (e0k hE (k := 200) (c := 4) (by decide +kernel)).1 (e0k hE (k := 200) (c := 4) (by decide +kernel)).2 (by decide) (by decide +kernel) (show 3 = gm_na 35 by decide +kernel) (fw_c3 fw_si fw_si fw_si) (show 4 ≤ gm_ml 35 by decide +kernel) (Nat.le_of_ble_eq_true rfl) (by omega) (Nat.zero_le _) (Nat.zero_le _) ?_
        refine hfw.2.2 _ _ _ _ _ l x y (by omega) ⟨by omega, by omega⟩ ⟨by omega, by omega⟩ ⟨by omega, by omega⟩ hT hI (fun M22 hf22 hI22 => ?_)
        show gm_Wp X LX d _ _ 136 25 _ [gm_vi (φ l x y)] n K _ _ Q
        exact gm_r_int (pc := 25) (by decide +kernel) (Or.inl (by decide +kernel)) (kv ⟨⟨by omega, by omega⟩, ⟨by omega, by omega⟩⟩ (by omega) _ hf22)
      · show Q (.inr 0) n K _ _
        have c12 : ¬ (0 ≤ y ∧ y ≤ 299) := c12
        exact (k0 ⟨⟨by omega, by omega⟩, ⟨by omega, by omega⟩⟩ (by omega))
    · show Q (.inr 3) n K _ _
      have c7 : ¬ (0 ≤ x ∧ x < N 1) := c7
      exact (k3 (by omega))
  · show Q (.inr 3) n K _ _
    have c2 : ¬ (0 ≤ l ∧ l < N 0) := c2
    exact (k3 (by omega))
theorem re_flow (hd : 14 ≤ d) (hE : E0 n K R) (hT : TR N h M) (hN : NR N) (hfw : FLR X LX n K R N h FI φ) (hI : FI M) (hi : gm_ir l) (hi2 : gm_ir x) (hi3 : gm_ir y) (kv : (0 ≤ l ∧ l < N 0) ∧ (0 ≤ x ∧ x < N 1) → 0 ≤ y ∧ y ≤ 299 → ∀ M2, M2 226 0 = 0 → Q (.inl (some (gm_vi (φ l x y)))) n K R M2) (k1 : ¬ ((0 ≤ l ∧ l < N 0) ∧ (0 ≤ x ∧ x < N 1)) → ∀ M2, M2 226 0 = 1 → Q (.inl (some (gm_vi 0))) n K R M2) (k2 : (0 ≤ l ∧ l < N 0) ∧ (0 ≤ x ∧ x < N 1) → ¬ (0 ≤ y ∧ y ≤ 299) → ∀ M2, M2 226 0 = 2 → Q (.inl (some (gm_vi 0))) n K R M2) : gm_Wp X LX d bc bs 291 0 (gm_ent 291 [gm_vr 226, gm_vi l, gm_vi x, gm_vi y]) [] n K R M Q := by
  obtain ⟨⟨⟨a0, b0⟩, ⟨a1, b1⟩, ⟨a10, b10⟩, ⟨a11, b11⟩, ⟨a12, b12⟩, a9, b9⟩, ⟨⟨a2, b2⟩, ⟨a5, b5⟩, ⟨a3, b3⟩, ⟨a4, b4⟩, ⟨a6, b6⟩, ⟨a14, b14⟩, ⟨a7, b7⟩, a13, b13⟩, rF, rP, rL⟩ := id hN
  refine gm_sz (gm_p_load (pc := 0) (i := .aload_n 0) (sr := 2) (j := 0) (by decide +kernel) rfl rfl rfl) ?_
  refine gm_sz (gm_p_const (pc := 1) (i := .iconst 0) (v := gm_vi 0) (by decide +kernel) (by decide +kernel)) ?_
  refine gm_sz (fw_pi (pc := 2) (ix := 3) (ci := 11) (j := 0) (M' := gm_uM M 226 0 0) (by decide +kernel) (e0k hE (k := 226) (c := 11) (by decide +kernel)) (by decide +kernel) (by decide +kernel) (by decide +kernel) rfl) ?_
  refine gm_sz (gm_p_load (pc := 5) (i := .aload_n 0) (sr := 2) (j := 0) (by decide +kernel) rfl rfl rfl) ?_
  refine gm_sz (gm_p_load (pc := 6) (i := .aload_n 0) (sr := 2) (j := 0) (by decide +kernel) rfl rfl rfl) ?_
  refine gm_sz (gm_p_load (pc := 7) (i := .iload_n 1) (sr := 0) (j := 1) (by decide +kernel) rfl rfl rfl) ?_
  refine gm_c_virt (k := 226) (ci := 11) (mj := 288) (ix := 356) (pc := 8) (as := [gm_vi l]) (st := [gm_vr 226]) (d' := d - 1) (bc' := 0) (bs' := 0) (by decide +kernel) (by decide +kernel) (by decide +kernel) (by decide +kernel) (e0k hE (k := 226) (c := 11) (by decide +kernel)).1 (e0k hE (k := 226) (c := 11) (by decide +kernel)).2 (by decide) (by decide +kernel) (show 1 = gm_na 288 by decide +kernel) (fw_c1 fw_si) (show 2 ≤ gm_ml 288 by decide +kernel) (Nat.le_of_ble_eq_true rfl) (by omega) (Nat.zero_le _) (Nat.zero_le _) ?_
  refine no_288 (i := l) (by omega) hE (tr_fr (W := [(226, some 0)]) hT (fr_p fr_0 (Or.inr (by decide))) (by decide)) hN hi (fun n8 => ?_) (fun n8 => ?_)
  · show gm_Wp X LX d _ _ 291 11 _ [gm_vi 1, gm_vr 226] n K _ _ Q
    have n8 : ¬ (0 ≤ l ∧ l < N 0) := n8
    refine fw_iftd (cc := .ne) (pc := 11) (off := 11) (by decide +kernel) (by decide) ⟨by decide, by decide⟩ (by decide) ?_
    refine gm_sz (gm_p_const (pc := 22) (i := .iconst 1) (v := gm_vi 1) (by decide +kernel) (by decide +kernel)) ?_
    refine gm_sz (gm_p_goto (pc := 23) (off := 4) (by decide +kernel) (by decide)) ?_
    refine gm_sz (gm_p_const (pc := 27) (i := .iconst 1) (v := gm_vi 1) (by decide +kernel) (by decide +kernel)) ?_
    refine gm_c_virt (k := 226) (ci := 11) (mj := 282) (ix := 300) (pc := 28) (as := [gm_vi 1, gm_vi 1]) (st := []) (d' := d - 1) (bc' := 0) (bs' := 0) (by decide +kernel) (by decide +kernel) (by decide +kernel) (by decide +kernel) (e0k hE (k := 226) (c := 11) (by decide +kernel)).1 (e0k hE (k := 226) (c := 11) (by decide +kernel)).2 (by decide) (by decide +kernel) (show 2 = gm_na 282 by decide +kernel) (fw_c2 fw_si fw_si) (show 3 ≤ gm_ml 282 by decide +kernel) (Nat.le_of_ble_eq_true rfl) (by omega) (Nat.zero_le _) (Nat.zero_le _) ?_
    refine tf_1 hE ?_
    show gm_Wp X LX d _ _ 291 31 _ [gm_vi 1] n K _ _ Q
    refine fw_iftd (cc := .ne) (pc := 31) (off := 15) (by decide +kernel) (by decide) ⟨by decide, by decide⟩ (by decide) ?_
    refine gm_sz (gm_p_const (pc := 46) (i := .iconst 0) (v := gm_vi 0) (by decide +kernel) (by decide +kernel)) ?_
    refine gm_sz (gm_p_goto (pc := 47) (off := 10) (by decide +kernel) (by decide)) ?_
    exact gm_r_int (pc := 57) (by decide +kernel) (Or.inl (by decide +kernel)) (k1 (by omega) _ uM_at)
  · show gm_Wp X LX d _ _ 291 11 _ [gm_vi 0, gm_vr 226] n K _ _ Q
    have n8 : 0 ≤ l ∧ l < N 0 := n8
    refine fw_iffd (cc := .ne) (pc := 11) (off := 11) (by decide +kernel) (by decide) ⟨by decide, by decide⟩ (by decide) ?_
    refine gm_sz (gm_p_load (pc := 14) (i := .aload_n 0) (sr := 2) (j := 0) (by decide +kernel) rfl rfl rfl) ?_
    refine gm_sz (gm_p_load (pc := 15) (i := .iload_n 2) (sr := 0) (j := 2) (by decide +kernel) rfl rfl rfl) ?_
    refine gm_c_virt (k := 226) (ci := 11) (mj := 289) (ix := 359) (pc := 16) (as := [gm_vi x]) (st := [gm_vr 226]) (d' := d - 1) (bc' := 0) (bs' := 0) (by decide +kernel) (by decide +kernel) (by decide +kernel) (by decide +kernel) (e0k hE (k := 226) (c := 11) (by decide +kernel)).1 (e0k hE (k := 226) (c := 11) (by decide +kernel)).2 (by decide) (by decide +kernel) (show 1 = gm_na 289 by decide +kernel) (fw_c1 fw_si) (show 2 ≤ gm_ml 289 by decide +kernel) (Nat.le_of_ble_eq_true rfl) (by omega) (Nat.zero_le _) (Nat.zero_le _) ?_
    refine no_289 (i := x) (by omega) hE (tr_fr (W := [(226, some 0)]) hT (fr_p fr_0 (Or.inr (by decide))) (by decide)) hN hi2 (fun n16 => ?_) (fun n16 => ?_)
    · show gm_Wp X LX d _ _ 291 19 _ [gm_vi 1, gm_vr 226] n K _ _ Q
      have n16 : ¬ (0 ≤ x ∧ x < N 1) := n16
      refine fw_iffd (cc := .eq) (pc := 19) (off := 7) (by decide +kernel) (by decide) ⟨by decide, by decide⟩ (by decide) ?_
      refine gm_sz (gm_p_const (pc := 22) (i := .iconst 1) (v := gm_vi 1) (by decide +kernel) (by decide +kernel)) ?_
      refine gm_sz (gm_p_goto (pc := 23) (off := 4) (by decide +kernel) (by decide)) ?_
      refine gm_sz (gm_p_const (pc := 27) (i := .iconst 1) (v := gm_vi 1) (by decide +kernel) (by decide +kernel)) ?_
      refine gm_c_virt (k := 226) (ci := 11) (mj := 282) (ix := 300) (pc := 28) (as := [gm_vi 1, gm_vi 1]) (st := []) (d' := d - 1) (bc' := 0) (bs' := 0) (by decide +kernel) (by decide +kernel) (by decide +kernel) (by decide +kernel) (e0k hE (k := 226) (c := 11) (by decide +kernel)).1 (e0k hE (k := 226) (c := 11) (by decide +kernel)).2 (by decide) (by decide +kernel) (show 2 = gm_na 282 by decide +kernel) (fw_c2 fw_si fw_si) (show 3 ≤ gm_ml 282 by decide +kernel) (Nat.le_of_ble_eq_true rfl) (by omega) (Nat.zero_le _) (Nat.zero_le _) ?_
      refine tf_1 hE ?_
      show gm_Wp X LX d _ _ 291 31 _ [gm_vi 1] n K _ _ Q
      refine fw_iftd (cc := .ne) (pc := 31) (off := 15) (by decide +kernel) (by decide) ⟨by decide, by decide⟩ (by decide) ?_
      refine gm_sz (gm_p_const (pc := 46) (i := .iconst 0) (v := gm_vi 0) (by decide +kernel) (by decide +kernel)) ?_
      refine gm_sz (gm_p_goto (pc := 47) (off := 10) (by decide +kernel) (by decide)) ?_
      exact gm_r_int (pc := 57) (by decide +kernel) (Or.inl (by decide +kernel)) (k1 (by omega) _ uM_at)
    · show gm_Wp X LX d _ _ 291 19 _ [gm_vi 0, gm_vr 226] n K _ _ Q
      have n16 : 0 ≤ x ∧ x < N 1 := n16
      refine fw_iftd (cc := .eq) (pc := 19) (off := 7) (by decide +kernel) (by decide) ⟨by decide, by decide⟩ (by decide) ?_
      refine gm_sz (gm_p_const (pc := 26) (i := .iconst 0) (v := gm_vi 0) (by decide +kernel) (by decide +kernel)) ?_
      refine gm_sz (gm_p_const (pc := 27) (i := .iconst 1) (v := gm_vi 1) (by decide +kernel) (by decide +kernel)) ?_
      refine gm_c_virt (k := 226) (ci := 11) (mj := 282) (ix := 300) (pc := 28) (as := [gm_vi 0, gm_vi 1]) (st := []) (d' := d - 1) (bc' := 0) (bs' := 0) (by decide +kernel) (by decide +kernel) (by decide +kernel) (by decide +kernel) (e0k hE (k := 226) (c := 11) (by decide +kernel)).1 (e0k hE (k := 226) (c := 11) (by decide +kernel)).2 (by decide) (by decide +kernel) (show 2 = gm_na 282 by decide +kernel) (fw_c2 fw_si fw_si) (show 3 ≤ gm_ml 282 by decide +kernel) (Nat.le_of_ble_eq_true rfl) (by omega) (Nat.zero_le _) (Nat.zero_le _) ?_
      refine tf_0 hE ?_
      show gm_Wp X LX d _ _ 291 31 _ [gm_vi 0] n K _ _ Q
      refine fw_iffd (cc := .ne) (pc := 31) (off := 15) (by decide +kernel) (by decide) ⟨by decide, by decide⟩ (by decide) ?_
      refine gm_sz (gm_p_load (pc := 34) (i := .aload_n 0) (sr := 2) (j := 0) (by decide +kernel) rfl rfl rfl) ?_
      refine gm_sz (gm_p_load (pc := 35) (i := .iload_n 3) (sr := 0) (j := 3) (by decide +kernel) rfl rfl rfl) ?_
      refine gm_c_stat (mj := 285) (ix := 353) (pc := 36) (as := [gm_vi y]) (st := [gm_vr 226]) (d' := d - 1) (bc' := 0) (bs' := 0) (by decide +kernel) (by decide +kernel) (by decide +kernel) (by decide +kernel) (show 1 = gm_na 285 by decide +kernel) (fw_c1 fw_si) (show 1 ≤ gm_ml 285 by decide +kernel) (Nat.le_of_ble_eq_true rfl) (by omega) (Nat.zero_le _) (Nat.zero_le _) ?_
      refine no_285 (i := y) (by omega) hi3 (fun n36 => ?_) (fun n36 => ?_)
      · show gm_Wp X LX d _ _ 291 39 _ [gm_vi 1, gm_vr 226] n K _ _ Q
        have n36 : ¬ (0 ≤ y ∧ y ≤ 299) := n36
        refine gm_sz (gm_p_const (pc := 39) (i := .iconst 2) (v := gm_vi 2) (by decide +kernel) (by decide +kernel)) ?_
        refine gm_c_virt (k := 226) (ci := 11) (mj := 282) (ix := 300) (pc := 40) (as := [gm_vi 1, gm_vi 2]) (st := []) (d' := d - 1) (bc' := 0) (bs' := 0) (by decide +kernel) (by decide +kernel) (by decide +kernel) (by decide +kernel) (e0k hE (k := 226) (c := 11) (by decide +kernel)).1 (e0k hE (k := 226) (c := 11) (by decide +kernel)).2 (by decide) (by decide +kernel) (show 2 = gm_na 282 by decide +kernel) (fw_c2 fw_si fw_si) (show 3 ≤ gm_ml 282 by decide +kernel) (Nat.le_of_ble_eq_true rfl) (by omega) (Nat.zero_le _) (Nat.zero_le _) ?_
        refine tf_1 hE ?_
        show gm_Wp X LX d _ _ 291 43 _ [gm_vi 1] n K _ _ Q
        refine fw_iffd (cc := .eq) (pc := 43) (off := 7) (by decide +kernel) (by decide) ⟨by decide, by decide⟩ (by decide) ?_
        refine gm_sz (gm_p_const (pc := 46) (i := .iconst 0) (v := gm_vi 0) (by decide +kernel) (by decide +kernel)) ?_
        refine gm_sz (gm_p_goto (pc := 47) (off := 10) (by decide +kernel) (by decide)) ?_
        exact gm_r_int (pc := 57) (by decide +kernel) (Or.inl (by decide +kernel)) (k2 ⟨⟨by omega, by omega⟩, ⟨by omega, by omega⟩⟩ (by omega) _ uM_at)
      · show gm_Wp X LX d _ _ 291 39 _ [gm_vi 0, gm_vr 226] n K _ _ Q
        have n36 : 0 ≤ y ∧ y ≤ 299 := n36
        refine gm_sz (gm_p_const (pc := 39) (i := .iconst 2) (v := gm_vi 2) (by decide +kernel) (by decide +kernel)) ?_
        refine gm_c_virt (k := 226) (ci := 11) (mj := 282) (ix := 300) (pc := 40) (as := [gm_vi 0, gm_vi 2]) (st := []) (d' := d - 1) (bc' := 0) (bs' := 0) (by decide +kernel) (by decide +kernel) (by decide +kernel) (by decide +kernel) (e0k hE (k := 226) (c := 11) (by decide +kernel)).1 (e0k hE (k := 226) (c := 11) (by decide +kernel)).2 (by decide) (by decide +kernel) (show 2 = gm_na 282 by decide +kernel) (fw_c2 fw_si fw_si) (show 3 ≤ gm_ml 282 by decide +kernel) (Nat.le_of_ble_eq_true rfl) (by omega) (Nat.zero_le _) (Nat.zero_le _) ?_
        refine tf_0 hE ?_
        show gm_Wp X LX d _ _ 291 43 _ [gm_vi 0] n K _ _ Q
        refine fw_iftd (cc := .eq) (pc := 43) (off := 7) (by decide +kernel) (by decide) ⟨by decide, by decide⟩ (by decide) ?_
        refine gm_sz (gm_p_load (pc := 50) (i := .aload_n 0) (sr := 2) (j := 0) (by decide +kernel) rfl rfl rfl) ?_
        refine gm_sz (gm_p_load (pc := 51) (i := .iload_n 1) (sr := 0) (j := 1) (by decide +kernel) rfl rfl rfl) ?_
        refine gm_sz (gm_p_load (pc := 52) (i := .iload_n 2) (sr := 0) (j := 2) (by decide +kernel) rfl rfl rfl) ?_
        refine gm_sz (gm_p_load (pc := 53) (i := .iload_n 3) (sr := 0) (j := 3) (by decide +kernel) rfl rfl rfl) ?_
        refine gm_c_virt (k := 226) (ci := 11) (mj := 292) (ix := 362) (pc := 54) (as := [gm_vi l, gm_vi x, gm_vi y]) (st := []) (d' := d - 1) (bc' := 0) (bs' := 0) (by decide +kernel) (by decide +kernel) (by decide +kernel) (by decide +kernel) (e0k hE (k := 226) (c := 11) (by decide +kernel)).1 (e0k hE (k := 226) (c := 11) (by decide +kernel)).2 (by decide) (by decide +kernel) (show 3 = gm_na 292 by decide +kernel) (fw_c3 fw_si fw_si fw_si) (show 4 ≤ gm_ml 292 by decide +kernel) (Nat.le_of_ble_eq_true rfl) (by omega) (Nat.zero_le _) (Nat.zero_le _) ?_
        refine hfw.2.2 _ _ _ _ _ _ _ _ (by omega) ⟨by omega, by omega⟩ ⟨by omega, by omega⟩ ⟨by omega, by omega⟩ (tr_fr (W := [(226, some 0)]) hT (fr_p fr_0 (Or.inr (by decide))) (by decide)) (hfw.2.1 [(226, some 0)] _ _ (by decide) (fr_p fr_0 (Or.inr (by decide))) hI) (fun M54 hf54 hI54 => ?_)
        show gm_Wp X LX d _ _ 291 57 _ [gm_vi (φ l x y)] n K _ _ Q
        have hφ9 := hfw.1 l x y
        exact gm_r_int (pc := 57) (by decide +kernel) (Or.inl (by decide +kernel)) (kv ⟨⟨by omega, by omega⟩, ⟨by omega, by omega⟩⟩ (by omega) _ ((fr_j hf54 (by decide)).trans uM_at))
theorem cl_table (hd : 14 ≤ d) (hbc : 4 ≤ bc) (hbs : 24 ≤ bs) (hE : E0 n K R) (hT : TI N h sp M) (hN : NR N) (hi : gm_ir t) (hi2 : gm_ir l) (kv : (0 ≤ t ∧ t < N 6) ∧ (0 ≤ l ∧ l < N 0) → Q (.inl (some (gm_vi ((N (287 + (t * 6 + l))))))) n K R M) (k3 : ¬ ((0 ≤ t ∧ t < N 6) ∧ (0 ≤ l ∧ l < N 0)) → Q (.inr 3) n K R M) : gm_Wp X LX d bc bs 192 0 (gm_ent 192 [gm_vr 1, gm_vi t, gm_vi l]) [] n K R M Q := by
  obtain ⟨⟨⟨a0, b0⟩, ⟨a1, b1⟩, ⟨a10, b10⟩, ⟨a11, b11⟩, ⟨a12, b12⟩, a9, b9⟩, ⟨⟨a2, b2⟩, ⟨a5, b5⟩, ⟨a3, b3⟩, ⟨a4, b4⟩, ⟨a6, b6⟩, ⟨a14, b14⟩, ⟨a7, b7⟩, a13, b13⟩, rF, rP, rL⟩ := id hN
  refine gm_sz (gm_p_load (pc := 0) (i := .aload_n 0) (sr := 2) (j := 0) (by decide +kernel) rfl rfl rfl) ?_
  refine gm_sz (gm_p_load (pc := 1) (i := .iload_n 1) (sr := 0) (j := 1) (by decide +kernel) rfl rfl rfl) ?_
  refine gm_c_virt (k := 1) (ci := 0) (mj := 193) (ix := 341) (pc := 2) (as := [gm_vi t]) (st := []) (d' := d - 1) (bc' := 1) (bs' := 6) (by decide +kernel) (by decide +kernel) (by decide +kernel) (by decide +kernel) (e0k hE (k := 1) (c := 0) (by decide +kernel)).1 (e0k hE (k := 1) (c := 0) (by decide +kernel)).2 (by decide) (by decide +kernel) (show 1 = gm_na 193 by decide +kernel) (fw_c1 fw_si) (show 2 ≤ gm_ml 193 by decide +kernel) (Nat.le_of_ble_eq_true rfl) (by omega) (by omega) (by omega) ?_
  refine nd_193 (i := t) (by omega) (by omega) (by omega) hE hT hN hi (fun c2 => ?_) (fun c2 => ?_)
  · show gm_Wp X LX d _ _ 192 5 _ [] n K _ _ Q
    have c2 : 0 ≤ t ∧ t < N 6 := c2
    refine gm_sz (gm_p_load (pc := 5) (i := .aload_n 0) (sr := 2) (j := 0) (by decide +kernel) rfl rfl rfl) ?_
    refine gm_sz (gm_p_load (pc := 6) (i := .iload_n 2) (sr := 0) (j := 2) (by decide +kernel) rfl rfl rfl) ?_
    refine gm_c_virt (k := 1) (ci := 0) (mj := 132) (ix := 166) (pc := 7) (as := [gm_vi l]) (st := []) (d' := d - 1) (bc' := 1) (bs' := 6) (by decide +kernel) (by decide +kernel) (by decide +kernel) (by decide +kernel) (e0k hE (k := 1) (c := 0) (by decide +kernel)).1 (e0k hE (k := 1) (c := 0) (by decide +kernel)).2 (by decide) (by decide +kernel) (show 1 = gm_na 132 by decide +kernel) (fw_c1 fw_si) (show 2 ≤ gm_ml 132 by decide +kernel) (Nat.le_of_ble_eq_true rfl) (by omega) (by omega) (by omega) ?_
    refine nd_132 (i := l) (by omega) (by omega) (by omega) hE hT hN hi2 (fun c7 => ?_) (fun c7 => ?_)
    · show gm_Wp X LX d _ _ 192 10 _ [] n K _ _ Q
      have c7 : 0 ≤ l ∧ l < N 0 := c7
      refine gm_sz (gm_p_load (pc := 10) (i := .aload_n 0) (sr := 2) (j := 0) (by decide +kernel) rfl rfl rfl) ?_
      refine gm_sz (fw_gr (pc := 11) (ix := 23) (ci := 0) (j := 3) (r := 3) (by decide +kernel) (e0k hE (k := 1) (c := 0) (by decide +kernel)) (by decide +kernel) (by decide +kernel) (e0r hE (k := 1) (j := 3) (r := 3) (by decide +kernel))) ?_
      refine gm_sz (fw_gr (pc := 14) (ix := 344) (ci := 1) (j := 13) (r := 12) (by decide +kernel) (e0k hE (k := 3) (c := 1) (by decide +kernel)) (by decide +kernel) (by decide +kernel) (e0r hE (k := 3) (j := 13) (r := 12) (by decide +kernel))) ?_
      refine gm_sz (gm_p_load (pc := 17) (i := .iload_n 1) (sr := 0) (j := 1) (by decide +kernel) rfl rfl rfl) ?_
      refine gm_sz (gm_p_load (pc := 18) (i := .iload_n 2) (sr := 0) (j := 2) (by decide +kernel) rfl rfl rfl) ?_
      refine gm_c_virt (k := 12) (ci := 2) (mj := 10) (ix := 186) (pc := 19) (as := [gm_vi t, gm_vi l]) (st := []) (d' := d - 1) (bc' := 0) (bs' := 0) (by decide +kernel) (by decide +kernel) (by decide +kernel) (by decide +kernel) (e0k hE (k := 12) (c := 2) (by decide +kernel)).1 (e0k hE (k := 12) (c := 2) (by decide +kernel)).2 (by decide) (by decide +kernel) (show 2 = gm_na 10 by decide +kernel) (fw_c2 fw_si fw_si) (show 3 ≤ gm_ml 10 by decide +kernel) (Nat.le_of_ble_eq_true rfl) (by omega) (Nat.zero_le _) (Nat.zero_le _) ?_
      refine rw_get (s := N 6) (w := 6) (x := N (287 + (t * 6 + l))) (e0k hE (k := 12) (c := 2) (by decide +kernel)) (e0a hE (k := 13) (q := (0, 36)) (by decide +kernel)) (e0r hE (k := 12) (j := 2) (r := 13) (by decide +kernel)) (by decide) (ti_tab hT) (hT.1 (12, 1, 6) (by decide)) ⟨by omega, by omega⟩ ⟨by omega, by omega⟩ ⟨by omega, by omega⟩ ⟨by omega, by omega⟩ (ti_aT hT (by omega) (by omega)) ?_
      show gm_Wp X LX d _ _ 192 22 _ [gm_vi (N (287 + (t * 6 + l)))] n K _ _ Q
      exact gm_r_int (pc := 22) (by decide +kernel) (Or.inl (by decide +kernel)) (kv ⟨⟨by omega, by omega⟩, ⟨by omega, by omega⟩⟩)
    · show Q (.inr 3) n K _ _
      have c7 : ¬ (0 ≤ l ∧ l < N 0) := c7
      exact (k3 (by omega))
  · show Q (.inr 3) n K _ _
    have c2 : ¬ (0 ≤ t ∧ t < N 6) := c2
    exact (k3 (by omega))
theorem no_342 (hd : 1 ≤ d) (hE : E0 n K R) (hT : TR N h M) (hN : NR N) (hi : gm_ir t) (q1 : ¬ (0 ≤ t ∧ t < N 6) → Q (.inl (some (gm_vi 1))) n K R M) (q0 : 0 ≤ t ∧ t < N 6 → Q (.inl (some (gm_vi 0))) n K R M) : gm_Wp X LX d bc bs 342 0 (gm_ent 342 [gm_vr 226, gm_vi t]) [] n K R M Q := by
  obtain ⟨⟨⟨a0, b0⟩, ⟨a1, b1⟩, ⟨a10, b10⟩, ⟨a11, b11⟩, ⟨a12, b12⟩, a9, b9⟩, ⟨⟨a2, b2⟩, ⟨a5, b5⟩, ⟨a3, b3⟩, ⟨a4, b4⟩, ⟨a6, b6⟩, ⟨a14, b14⟩, ⟨a7, b7⟩, a13, b13⟩, rF, rP, rL⟩ := id hN
  refine gm_sz (gm_p_load (pc := 0) (i := .iload_n 1) (sr := 0) (j := 1) (by decide +kernel) rfl rfl rfl) ?_
  refine gm_sz (gm_p_const (pc := 1) (i := .iconst 0) (v := gm_vi 0) (by decide +kernel) (by decide +kernel)) ?_
  refine gm_sz (gm_p_load (pc := 2) (i := .aload_n 0) (sr := 2) (j := 0) (by decide +kernel) rfl rfl rfl) ?_
  refine gm_sz (fw_gr (pc := 3) (ix := 13) (ci := 11) (j := 1) (r := 227) (by decide +kernel) (e0k hE (k := 226) (c := 11) (by decide +kernel)) (by decide +kernel) (by decide +kernel) (e0r hE (k := 226) (j := 1) (r := 227) (by decide +kernel))) ?_
  refine gm_sz (gm_p_const (pc := 6) (i := .bipush 6) (v := gm_vi 6) (by decide +kernel) (by decide +kernel)) ?_
  refine gm_sz (fw_ia (pc := 8) (k := 227) (len := 2093) (e0 := 6) (x := N 6) (by decide +kernel) (e0a hE (k := 227) (q := (0, 2093)) (by decide +kernel)).1 (e0a hE (k := 227) (q := (0, 2093)) (by decide +kernel)).2 (by decide) ⟨by omega, by omega⟩ (tr_w hT (by decide) (by decide) (by decide))) ?_
  refine gm_sz (gm_p_const (pc := 9) (i := .iconst 1) (v := gm_vi 1) (by decide +kernel) (by decide +kernel)) ?_
  refine gm_sz (gm_p_bin (pc := 10) (i := .isub) (f := fun x y => x - y) (by decide +kernel) rfl) ?_
  refine gm_c_stat (mj := 286) (ix := 90) (pc := 11) (as := [gm_vi t, gm_vi 0, gm_vi ((N 6) - 1)]) (st := []) (d' := d - 1) (bc' := 0) (bs' := 0) (by decide +kernel) (by decide +kernel) (by decide +kernel) (by decide +kernel) (show 3 = gm_na 286 by decide +kernel) (fw_c3 fw_si fw_si fw_si) (show 3 ≤ gm_ml 286 by decide +kernel) (Nat.le_of_ble_eq_true rfl) (by omega) (Nat.zero_le _) (Nat.zero_le _) ?_
  refine in_286 (x := t) (y := 0) (z := ((N 6) - 1)) hi ⟨by decide, by decide⟩ ⟨by omega, by omega⟩ (fun k11a k11 => ?_) (fun k11 => ?_)
  · show gm_Wp X LX d _ _ 342 14 _ [gm_vi 1] n K _ _ Q
    have k11a : 0 ≤ t := k11a
    have k11 : t ≤ ((N 6) - 1) := k11
    refine fw_iftd (cc := .ne) (pc := 14) (off := 7) (by decide +kernel) (by decide) ⟨by decide, by decide⟩ (by decide) ?_
    refine gm_sz (gm_p_const (pc := 21) (i := .iconst 0) (v := gm_vi 0) (by decide +kernel) (by decide +kernel)) ?_
    exact gm_r_int (pc := 22) (by decide +kernel) (Or.inr ⟨(by decide +kernel), Or.inl rfl⟩) (q0 (by omega))
  · show gm_Wp X LX d _ _ 342 14 _ [gm_vi 0] n K _ _ Q
    have k11 : ¬ (0 ≤ t ∧ t ≤ ((N 6) - 1)) := k11
    refine fw_iffd (cc := .ne) (pc := 14) (off := 7) (by decide +kernel) (by decide) ⟨by decide, by decide⟩ (by decide) ?_
    refine gm_sz (gm_p_const (pc := 17) (i := .iconst 1) (v := gm_vi 1) (by decide +kernel) (by decide +kernel)) ?_
    refine gm_sz (gm_p_goto (pc := 18) (off := 4) (by decide +kernel) (by decide)) ?_
    exact gm_r_int (pc := 22) (by decide +kernel) (Or.inr ⟨(by decide +kernel), Or.inr rfl⟩) (q1 (by omega))
theorem re_oft (hE : E0 n K R) (hT : TR N h M) (hN : NR N) (h1 : 0 ≤ t ∧ t < 6) (h2 : 0 ≤ l ∧ l < 6) (kv : Q (.inl (some (gm_vi ((N (287 + (t * 6 + l))))))) n K R M) : gm_Wp X LX d bc bs 343 0 (gm_ent 343 [gm_vr 226, gm_vi t, gm_vi l]) [] n K R M Q := by
  obtain ⟨⟨⟨a0, b0⟩, ⟨a1, b1⟩, ⟨a10, b10⟩, ⟨a11, b11⟩, ⟨a12, b12⟩, a9, b9⟩, ⟨⟨a2, b2⟩, ⟨a5, b5⟩, ⟨a3, b3⟩, ⟨a4, b4⟩, ⟨a6, b6⟩, ⟨a14, b14⟩, ⟨a7, b7⟩, a13, b13⟩, rF, rP, rL⟩ := id hN
  refine gm_sz (gm_p_load (pc := 0) (i := .aload_n 0) (sr := 2) (j := 0) (by decide +kernel) rfl rfl rfl) ?_
  refine gm_sz (fw_gr (pc := 1) (ix := 13) (ci := 11) (j := 1) (r := 227) (by decide +kernel) (e0k hE (k := 226) (c := 11) (by decide +kernel)) (by decide +kernel) (by decide +kernel) (e0r hE (k := 226) (j := 1) (r := 227) (by decide +kernel))) ?_
  refine gm_sz (gm_p_const (pc := 4) (i := .sipush 287) (v := gm_vi 287) (by decide +kernel) (by decide +kernel)) ?_
  refine gm_sz (gm_p_const (pc := 7) (i := .bipush 6) (v := gm_vi 6) (by decide +kernel) (by decide +kernel)) ?_
  refine gm_sz (gm_p_load (pc := 9) (i := .iload_n 1) (sr := 0) (j := 1) (by decide +kernel) rfl rfl rfl) ?_
  refine gm_sz (gm_p_bin (pc := 10) (i := .imul) (f := fun x y => x * y) (by decide +kernel) rfl) ?_
  refine gm_sz (gm_p_bin (pc := 11) (i := .iadd) (f := fun x y => x + y) (by decide +kernel) rfl) ?_
  refine gm_sz (gm_p_load (pc := 12) (i := .iload_n 2) (sr := 0) (j := 2) (by decide +kernel) rfl rfl rfl) ?_
  refine gm_sz (gm_p_bin (pc := 13) (i := .iadd) (f := fun x y => x + y) (by decide +kernel) rfl) ?_
  refine gm_sz (fw_ia (pc := 14) (k := 227) (len := 2093) (e0 := (287 + (6 * t)) + l) (x := N (287 + (t * 6 + l))) (by decide +kernel) (e0a hE (k := 227) (q := (0, 2093)) (by decide +kernel)).1 (e0a hE (k := 227) (q := (0, 2093)) (by decide +kernel)).2 (by decide) ⟨by omega, by omega⟩ (tr_x hT (show (287 + (6 * t)) + l = (287 + (t * 6 + l)) by omega) (by omega) (by omega) (by omega))) ?_
  exact gm_r_int (pc := 15) (by decide +kernel) (Or.inl (by decide +kernel)) kv
theorem re_table (hd : 6 ≤ d) (hE : E0 n K R) (hT : TR N h M) (hN : NR N) (hi : gm_ir t) (hi2 : gm_ir l) (kv : (0 ≤ t ∧ t < N 6) ∧ (0 ≤ l ∧ l < N 0) → ∀ M2, M2 226 0 = 0 → Q (.inl (some (gm_vi ((N (287 + (t * 6 + l))))))) n K R M2) (k1 : ¬ ((0 ≤ t ∧ t < N 6) ∧ (0 ≤ l ∧ l < N 0)) → ∀ M2, M2 226 0 = 1 → Q (.inl (some (gm_vi 0))) n K R M2) : gm_Wp X LX d bc bs 341 0 (gm_ent 341 [gm_vr 226, gm_vi t, gm_vi l]) [] n K R M Q := by
  obtain ⟨⟨⟨a0, b0⟩, ⟨a1, b1⟩, ⟨a10, b10⟩, ⟨a11, b11⟩, ⟨a12, b12⟩, a9, b9⟩, ⟨⟨a2, b2⟩, ⟨a5, b5⟩, ⟨a3, b3⟩, ⟨a4, b4⟩, ⟨a6, b6⟩, ⟨a14, b14⟩, ⟨a7, b7⟩, a13, b13⟩, rF, rP, rL⟩ := id hN
  refine gm_sz (gm_p_load (pc := 0) (i := .aload_n 0) (sr := 2) (j := 0) (by decide +kernel) rfl rfl rfl) ?_
  refine gm_sz (gm_p_const (pc := 1) (i := .iconst 0) (v := gm_vi 0) (by decide +kernel) (by decide +kernel)) ?_
  refine gm_sz (fw_pi (pc := 2) (ix := 3) (ci := 11) (j := 0) (M' := gm_uM M 226 0 0) (by decide +kernel) (e0k hE (k := 226) (c := 11) (by decide +kernel)) (by decide +kernel) (by decide +kernel) (by decide +kernel) rfl) ?_
  refine gm_sz (gm_p_load (pc := 5) (i := .aload_n 0) (sr := 2) (j := 0) (by decide +kernel) rfl rfl rfl) ?_
  refine gm_sz (gm_p_load (pc := 6) (i := .aload_n 0) (sr := 2) (j := 0) (by decide +kernel) rfl rfl rfl) ?_
  refine gm_sz (gm_p_load (pc := 7) (i := .iload_n 1) (sr := 0) (j := 1) (by decide +kernel) rfl rfl rfl) ?_
  refine gm_c_virt (k := 226) (ci := 11) (mj := 342) (ix := 448) (pc := 8) (as := [gm_vi t]) (st := [gm_vr 226]) (d' := d - 1) (bc' := 0) (bs' := 0) (by decide +kernel) (by decide +kernel) (by decide +kernel) (by decide +kernel) (e0k hE (k := 226) (c := 11) (by decide +kernel)).1 (e0k hE (k := 226) (c := 11) (by decide +kernel)).2 (by decide) (by decide +kernel) (show 1 = gm_na 342 by decide +kernel) (fw_c1 fw_si) (show 2 ≤ gm_ml 342 by decide +kernel) (Nat.le_of_ble_eq_true rfl) (by omega) (Nat.zero_le _) (Nat.zero_le _) ?_
  refine no_342 (t := t) (by omega) hE (tr_fr (W := [(226, some 0)]) hT (fr_p fr_0 (Or.inr (by decide))) (by decide)) hN hi (fun n8 => ?_) (fun n8 => ?_)
  · show gm_Wp X LX d _ _ 341 11 _ [gm_vi 1, gm_vr 226] n K _ _ Q
    have n8 : ¬ (0 ≤ t ∧ t < N 6) := n8
    refine fw_iftd (cc := .ne) (pc := 11) (off := 11) (by decide +kernel) (by decide) ⟨by decide, by decide⟩ (by decide) ?_
    refine gm_sz (gm_p_const (pc := 22) (i := .iconst 1) (v := gm_vi 1) (by decide +kernel) (by decide +kernel)) ?_
    refine gm_sz (gm_p_goto (pc := 23) (off := 4) (by decide +kernel) (by decide)) ?_
    refine gm_sz (gm_p_const (pc := 27) (i := .iconst 1) (v := gm_vi 1) (by decide +kernel) (by decide +kernel)) ?_
    refine gm_c_virt (k := 226) (ci := 11) (mj := 282) (ix := 300) (pc := 28) (as := [gm_vi 1, gm_vi 1]) (st := []) (d' := d - 1) (bc' := 0) (bs' := 0) (by decide +kernel) (by decide +kernel) (by decide +kernel) (by decide +kernel) (e0k hE (k := 226) (c := 11) (by decide +kernel)).1 (e0k hE (k := 226) (c := 11) (by decide +kernel)).2 (by decide) (by decide +kernel) (show 2 = gm_na 282 by decide +kernel) (fw_c2 fw_si fw_si) (show 3 ≤ gm_ml 282 by decide +kernel) (Nat.le_of_ble_eq_true rfl) (by omega) (Nat.zero_le _) (Nat.zero_le _) ?_
    refine tf_1 hE ?_
    show gm_Wp X LX d _ _ 341 31 _ [gm_vi 1] n K _ _ Q
    refine fw_iffd (cc := .eq) (pc := 31) (off := 7) (by decide +kernel) (by decide) ⟨by decide, by decide⟩ (by decide) ?_
    refine gm_sz (gm_p_const (pc := 34) (i := .iconst 0) (v := gm_vi 0) (by decide +kernel) (by decide +kernel)) ?_
    refine gm_sz (gm_p_goto (pc := 35) (off := 9) (by decide +kernel) (by decide)) ?_
    exact gm_r_int (pc := 44) (by decide +kernel) (Or.inl (by decide +kernel)) (k1 (by omega) _ uM_at)
  · show gm_Wp X LX d _ _ 341 11 _ [gm_vi 0, gm_vr 226] n K _ _ Q
    have n8 : 0 ≤ t ∧ t < N 6 := n8
    refine fw_iffd (cc := .ne) (pc := 11) (off := 11) (by decide +kernel) (by decide) ⟨by decide, by decide⟩ (by decide) ?_
    refine gm_sz (gm_p_load (pc := 14) (i := .aload_n 0) (sr := 2) (j := 0) (by decide +kernel) rfl rfl rfl) ?_
    refine gm_sz (gm_p_load (pc := 15) (i := .iload_n 2) (sr := 0) (j := 2) (by decide +kernel) rfl rfl rfl) ?_
    refine gm_c_virt (k := 226) (ci := 11) (mj := 288) (ix := 356) (pc := 16) (as := [gm_vi l]) (st := [gm_vr 226]) (d' := d - 1) (bc' := 0) (bs' := 0) (by decide +kernel) (by decide +kernel) (by decide +kernel) (by decide +kernel) (e0k hE (k := 226) (c := 11) (by decide +kernel)).1 (e0k hE (k := 226) (c := 11) (by decide +kernel)).2 (by decide) (by decide +kernel) (show 1 = gm_na 288 by decide +kernel) (fw_c1 fw_si) (show 2 ≤ gm_ml 288 by decide +kernel) (Nat.le_of_ble_eq_true rfl) (by omega) (Nat.zero_le _) (Nat.zero_le _) ?_
    refine no_288 (i := l) (by omega) hE (tr_fr (W := [(226, some 0)]) hT (fr_p fr_0 (Or.inr (by decide))) (by decide)) hN hi2 (fun n16 => ?_) (fun n16 => ?_)
    · show gm_Wp X LX d _ _ 341 19 _ [gm_vi 1, gm_vr 226] n K _ _ Q
      have n16 : ¬ (0 ≤ l ∧ l < N 0) := n16
      refine fw_iffd (cc := .eq) (pc := 19) (off := 7) (by decide +kernel) (by decide) ⟨by decide, by decide⟩ (by decide) ?_
      refine gm_sz (gm_p_const (pc := 22) (i := .iconst 1) (v := gm_vi 1) (by decide +kernel) (by decide +kernel)) ?_
      refine gm_sz (gm_p_goto (pc := 23) (off := 4) (by decide +kernel) (by decide)) ?_
      refine gm_sz (gm_p_const (pc := 27) (i := .iconst 1) (v := gm_vi 1) (by decide +kernel) (by decide +kernel)) ?_
      refine gm_c_virt (k := 226) (ci := 11) (mj := 282) (ix := 300) (pc := 28) (as := [gm_vi 1, gm_vi 1]) (st := []) (d' := d - 1) (bc' := 0) (bs' := 0) (by decide +kernel) (by decide +kernel) (by decide +kernel) (by decide +kernel) (e0k hE (k := 226) (c := 11) (by decide +kernel)).1 (e0k hE (k := 226) (c := 11) (by decide +kernel)).2 (by decide) (by decide +kernel) (show 2 = gm_na 282 by decide +kernel) (fw_c2 fw_si fw_si) (show 3 ≤ gm_ml 282 by decide +kernel) (Nat.le_of_ble_eq_true rfl) (by omega) (Nat.zero_le _) (Nat.zero_le _) ?_
      refine tf_1 hE ?_
      show gm_Wp X LX d _ _ 341 31 _ [gm_vi 1] n K _ _ Q
      refine fw_iffd (cc := .eq) (pc := 31) (off := 7) (by decide +kernel) (by decide) ⟨by decide, by decide⟩ (by decide) ?_
      refine gm_sz (gm_p_const (pc := 34) (i := .iconst 0) (v := gm_vi 0) (by decide +kernel) (by decide +kernel)) ?_
      refine gm_sz (gm_p_goto (pc := 35) (off := 9) (by decide +kernel) (by decide)) ?_
      exact gm_r_int (pc := 44) (by decide +kernel) (Or.inl (by decide +kernel)) (k1 (by omega) _ uM_at)
    · show gm_Wp X LX d _ _ 341 19 _ [gm_vi 0, gm_vr 226] n K _ _ Q
      have n16 : 0 ≤ l ∧ l < N 0 := n16
      refine fw_iftd (cc := .eq) (pc := 19) (off := 7) (by decide +kernel) (by decide) ⟨by decide, by decide⟩ (by decide) ?_
      refine gm_sz (gm_p_const (pc := 26) (i := .iconst 0) (v := gm_vi 0) (by decide +kernel) (by decide +kernel)) ?_
      refine gm_sz (gm_p_const (pc := 27) (i := .iconst 1) (v := gm_vi 1) (by decide +kernel) (by decide +kernel)) ?_
      refine gm_c_virt (k := 226) (ci := 11) (mj := 282) (ix := 300) (pc := 28) (as := [gm_vi 0, gm_vi 1]) (st := []) (d' := d - 1) (bc' := 0) (bs' := 0) (by decide +kernel) (by decide +kernel) (by decide +kernel) (by decide +kernel) (e0k hE (k := 226) (c := 11) (by decide +kernel)).1 (e0k hE (k := 226) (c := 11) (by decide +kernel)).2 (by decide) (by decide +kernel) (show 2 = gm_na 282 by decide +kernel) (fw_c2 fw_si fw_si) (show 3 ≤ gm_ml 282 by decide +kernel) (Nat.le_of_ble_eq_true rfl) (by omega) (Nat.zero_le _) (Nat.zero_le _) ?_
      refine tf_0 hE ?_
      show gm_Wp X LX d _ _ 341 31 _ [gm_vi 0] n K _ _ Q
      refine fw_iftd (cc := .eq) (pc := 31) (off := 7) (by decide +kernel) (by decide) ⟨by decide, by decide⟩ (by decide) ?_
      refine gm_sz (gm_p_load (pc := 38) (i := .aload_n 0) (sr := 2) (j := 0) (by decide +kernel) rfl rfl rfl) ?_
      refine gm_sz (gm_p_load (pc := 39) (i := .iload_n 1) (sr := 0) (j := 1) (by decide +kernel) rfl rfl rfl) ?_
      refine gm_sz (gm_p_load (pc := 40) (i := .iload_n 2) (sr := 0) (j := 2) (by decide +kernel) rfl rfl rfl) ?_
      refine gm_c_virt (k := 226) (ci := 11) (mj := 343) (ix := 451) (pc := 41) (as := [gm_vi t, gm_vi l]) (st := []) (d' := d - 1) (bc' := 0) (bs' := 0) (by decide +kernel) (by decide +kernel) (by decide +kernel) (by decide +kernel) (e0k hE (k := 226) (c := 11) (by decide +kernel)).1 (e0k hE (k := 226) (c := 11) (by decide +kernel)).2 (by decide) (by decide +kernel) (show 2 = gm_na 343 by decide +kernel) (fw_c2 fw_si fw_si) (show 3 ≤ gm_ml 343 by decide +kernel) (Nat.le_of_ble_eq_true rfl) (by omega) (Nat.zero_le _) (Nat.zero_le _) ?_
      refine re_oft (t := t) (l := l) hE (tr_fr (W := [(226, some 0)]) hT (fr_p fr_0 (Or.inr (by decide))) (by decide)) hN ⟨by omega, by omega⟩ ⟨by omega, by omega⟩ ?_
      show gm_Wp X LX d _ _ 341 44 _ [gm_vi (N (287 + (t * 6 + l)))] n K _ _ Q
      exact gm_r_int (pc := 44) (by decide +kernel) (Or.inl (by decide +kernel)) (kv ⟨⟨by omega, by omega⟩, ⟨by omega, by omega⟩⟩ _ uM_at)
theorem cl_log1 (hd : 14 ≤ d) (hbc : 4 ≤ bc) (hbs : 24 ≤ bs) (hE : E0 n K R) (hT : TI N h sp M) (hN : NR N) (hi2 : gm_ir w) (hk : 0 ≤ k ∧ k < N 14) (kv : 0 ≤ w ∧ w ≤ 2 → Q (.inl (some (gm_vi ((N (323 + (k * 3 + w))))))) n K R M) (k4 : ¬ (0 ≤ w ∧ w ≤ 2) → Q (.inr 4) n K R M) : gm_Wp X LX d bc bs 233 0 (gm_ent 233 [gm_vr 1, gm_vi k, gm_vi w]) [] n K R M Q := by
  obtain ⟨⟨⟨a0, b0⟩, ⟨a1, b1⟩, ⟨a10, b10⟩, ⟨a11, b11⟩, ⟨a12, b12⟩, a9, b9⟩, ⟨⟨a2, b2⟩, ⟨a5, b5⟩, ⟨a3, b3⟩, ⟨a4, b4⟩, ⟨a6, b6⟩, ⟨a14, b14⟩, ⟨a7, b7⟩, a13, b13⟩, rF, rP, rL⟩ := id hN
  refine gm_sz (gm_p_load (pc := 0) (i := .iload_n 2) (sr := 0) (j := 2) (by decide +kernel) rfl rfl rfl) ?_
  refine fw_if (cc := .lt) (pc := 1) (off := 8) (by decide +kernel) (by decide) hi2 (fun h1 => ?_) (fun h1 => ?_)
  · have h1 : w < 0 := h1
    exact gm_throw (ik := 195) (is := 414) (ic := 199) (x := 4) (id := 46) (lw := true) (by decide +kernel) (by decide +kernel) (by decide +kernel) (by decide +kernel) (by decide +kernel) (by decide +kernel) (by decide +kernel) (by decide +kernel) (Nat.le_of_ble_eq_true rfl) (by omega) (by omega) (by omega) (k4 (by omega))
  · have h1 : ¬ w < 0 := h1
    refine gm_sz (gm_p_load (pc := 4) (i := .iload_n 2) (sr := 0) (j := 2) (by decide +kernel) rfl rfl rfl) ?_
    refine gm_sz (gm_p_const (pc := 5) (i := .iconst 2) (v := gm_vi 2) (by decide +kernel) (by decide +kernel)) ?_
    refine fw_ic (cc := .le) (pc := 6) (off := 14) (by decide +kernel) (by decide) hi2 ⟨by decide, by decide⟩ (fun h6 => ?_) (fun h6 => ?_)
    · have h6 : w ≤ 2 := h6
      refine gm_sz (gm_p_load (pc := 20) (i := .aload_n 0) (sr := 2) (j := 0) (by decide +kernel) rfl rfl rfl) ?_
      refine gm_sz (fw_gr (pc := 21) (ix := 23) (ci := 0) (j := 3) (r := 3) (by decide +kernel) (e0k hE (k := 1) (c := 0) (by decide +kernel)) (by decide +kernel) (by decide +kernel) (e0r hE (k := 1) (j := 3) (r := 3) (by decide +kernel))) ?_
      refine gm_sz (fw_gr (pc := 24) (ix := 416) (ci := 1) (j := 14) (r := 14) (by decide +kernel) (e0k hE (k := 3) (c := 1) (by decide +kernel)) (by decide +kernel) (by decide +kernel) (e0r hE (k := 3) (j := 14) (r := 14) (by decide +kernel))) ?_
      refine gm_sz (gm_p_load (pc := 27) (i := .iload_n 1) (sr := 0) (j := 1) (by decide +kernel) rfl rfl rfl) ?_
      refine gm_sz (gm_p_load (pc := 28) (i := .iload_n 2) (sr := 0) (j := 2) (by decide +kernel) rfl rfl rfl) ?_
      refine gm_c_virt (k := 14) (ci := 2) (mj := 10) (ix := 186) (pc := 29) (as := [gm_vi k, gm_vi w]) (st := []) (d' := d - 1) (bc' := 0) (bs' := 0) (by decide +kernel) (by decide +kernel) (by decide +kernel) (by decide +kernel) (e0k hE (k := 14) (c := 2) (by decide +kernel)).1 (e0k hE (k := 14) (c := 2) (by decide +kernel)).2 (by decide) (by decide +kernel) (show 2 = gm_na 10 by decide +kernel) (fw_c2 fw_si fw_si) (show 3 ≤ gm_ml 10 by decide +kernel) (Nat.le_of_ble_eq_true rfl) (by omega) (Nat.zero_le _) (Nat.zero_le _) ?_
      refine rw_get (s := N 14) (w := 3) (x := N (323 + (k * 3 + w))) (e0k hE (k := 14) (c := 2) (by decide +kernel)) (e0a hE (k := 15) (q := (0, 72)) (by decide +kernel)) (e0r hE (k := 14) (j := 2) (r := 15) (by decide +kernel)) (by decide) (ti_ope hT) (hT.1 (14, 1, 3) (by decide)) ⟨by omega, by omega⟩ ⟨by omega, by omega⟩ ⟨by omega, by omega⟩ ⟨by omega, by omega⟩ (ti_aO hT (by omega) (by omega)) ?_
      show gm_Wp X LX d _ _ 233 32 _ [gm_vi (N (323 + (k * 3 + w)))] n K _ _ Q
      exact gm_r_int (pc := 32) (by decide +kernel) (Or.inl (by decide +kernel)) (kv (by omega))
    · have h6 : ¬ w ≤ 2 := h6
      exact gm_throw (ik := 195) (is := 414) (ic := 199) (x := 4) (id := 46) (lw := true) (by decide +kernel) (by decide +kernel) (by decide +kernel) (by decide +kernel) (by decide +kernel) (by decide +kernel) (by decide +kernel) (by decide +kernel) (Nat.le_of_ble_eq_true rfl) (by omega) (by omega) (by omega) (k4 (by omega))
theorem cl_log0 (hd : 14 ≤ d) (hbc : 4 ≤ bc) (hbs : 24 ≤ bs) (hE : E0 n K R) (hT : TI N h sp M) (hN : NR N) (hi : gm_ir k) (hi2 : gm_ir w) (hk : ¬ (0 ≤ k ∧ k < N 14)) (kv : 0 ≤ w ∧ w ≤ 2 → Q (.inl (some (gm_vi (-1)))) n K R M) (k4 : ¬ (0 ≤ w ∧ w ≤ 2) → Q (.inr 4) n K R M) : gm_Wp X LX d bc bs 233 0 (gm_ent 233 [gm_vr 1, gm_vi k, gm_vi w]) [] n K R M Q := by
  obtain ⟨⟨⟨a0, b0⟩, ⟨a1, b1⟩, ⟨a10, b10⟩, ⟨a11, b11⟩, ⟨a12, b12⟩, a9, b9⟩, ⟨⟨a2, b2⟩, ⟨a5, b5⟩, ⟨a3, b3⟩, ⟨a4, b4⟩, ⟨a6, b6⟩, ⟨a14, b14⟩, ⟨a7, b7⟩, a13, b13⟩, rF, rP, rL⟩ := id hN
  refine gm_sz (gm_p_load (pc := 0) (i := .iload_n 2) (sr := 0) (j := 2) (by decide +kernel) rfl rfl rfl) ?_
  refine fw_if (cc := .lt) (pc := 1) (off := 8) (by decide +kernel) (by decide) hi2 (fun h1 => ?_) (fun h1 => ?_)
  · have h1 : w < 0 := h1
    exact gm_throw (ik := 195) (is := 414) (ic := 199) (x := 4) (id := 46) (lw := true) (by decide +kernel) (by decide +kernel) (by decide +kernel) (by decide +kernel) (by decide +kernel) (by decide +kernel) (by decide +kernel) (by decide +kernel) (Nat.le_of_ble_eq_true rfl) (by omega) (by omega) (by omega) (k4 (by omega))
  · have h1 : ¬ w < 0 := h1
    refine gm_sz (gm_p_load (pc := 4) (i := .iload_n 2) (sr := 0) (j := 2) (by decide +kernel) rfl rfl rfl) ?_
    refine gm_sz (gm_p_const (pc := 5) (i := .iconst 2) (v := gm_vi 2) (by decide +kernel) (by decide +kernel)) ?_
    refine fw_ic (cc := .le) (pc := 6) (off := 14) (by decide +kernel) (by decide) hi2 ⟨by decide, by decide⟩ (fun h6 => ?_) (fun h6 => ?_)
    · have h6 : w ≤ 2 := h6
      refine gm_sz (gm_p_load (pc := 20) (i := .aload_n 0) (sr := 2) (j := 0) (by decide +kernel) rfl rfl rfl) ?_
      refine gm_sz (fw_gr (pc := 21) (ix := 23) (ci := 0) (j := 3) (r := 3) (by decide +kernel) (e0k hE (k := 1) (c := 0) (by decide +kernel)) (by decide +kernel) (by decide +kernel) (e0r hE (k := 1) (j := 3) (r := 3) (by decide +kernel))) ?_
      refine gm_sz (fw_gr (pc := 24) (ix := 416) (ci := 1) (j := 14) (r := 14) (by decide +kernel) (e0k hE (k := 3) (c := 1) (by decide +kernel)) (by decide +kernel) (by decide +kernel) (e0r hE (k := 3) (j := 14) (r := 14) (by decide +kernel))) ?_
      refine gm_sz (gm_p_load (pc := 27) (i := .iload_n 1) (sr := 0) (j := 1) (by decide +kernel) rfl rfl rfl) ?_
      refine gm_sz (gm_p_load (pc := 28) (i := .iload_n 2) (sr := 0) (j := 2) (by decide +kernel) rfl rfl rfl) ?_
      refine gm_c_virt (k := 14) (ci := 2) (mj := 10) (ix := 186) (pc := 29) (as := [gm_vi k, gm_vi w]) (st := []) (d' := d - 1) (bc' := 0) (bs' := 0) (by decide +kernel) (by decide +kernel) (by decide +kernel) (by decide +kernel) (e0k hE (k := 14) (c := 2) (by decide +kernel)).1 (e0k hE (k := 14) (c := 2) (by decide +kernel)).2 (by decide) (by decide +kernel) (show 2 = gm_na 10 by decide +kernel) (fw_c2 fw_si fw_si) (show 3 ≤ gm_ml 10 by decide +kernel) (Nat.le_of_ble_eq_true rfl) (by omega) (Nat.zero_le _) (Nat.zero_le _) ?_
      refine rw_none (s := N 14) (e0k hE (k := 14) (c := 2) (by decide +kernel)) (ti_ope hT) (by omega) ⟨hi, ⟨by omega, by omega⟩⟩ ?_
      show gm_Wp X LX d _ _ 233 32 _ [gm_vi (-1)] n K _ _ Q
      exact gm_r_int (pc := 32) (by decide +kernel) (Or.inl (by decide +kernel)) (kv (by omega))
    · have h6 : ¬ w ≤ 2 := h6
      exact gm_throw (ik := 195) (is := 414) (ic := 199) (x := 4) (id := 46) (lw := true) (by decide +kernel) (by decide +kernel) (by decide +kernel) (by decide +kernel) (by decide +kernel) (by decide +kernel) (by decide +kernel) (by decide +kernel) (Nat.le_of_ble_eq_true rfl) (by omega) (by omega) (by omega) (k4 (by omega))
theorem re_log (hd : 6 ≤ d) (hE : E0 n K R) (hT : TR N h M) (hN : NR N) (hi : gm_ir k) (hi2 : gm_ir w) (kv : 0 ≤ w ∧ w ≤ 2 → 0 ≤ k ∧ k < N 14 → ∀ M2, M2 226 0 = 0 → Q (.inl (some (gm_vi ((N (323 + (k * 3 + w))))))) n K R M2) (kn : 0 ≤ w ∧ w ≤ 2 → ¬ (0 ≤ k ∧ k < N 14) → ∀ M2, M2 226 0 = 0 → Q (.inl (some (gm_vi (-1)))) n K R M2) (k1 : ¬ (0 ≤ w ∧ w ≤ 2) → ∀ M2, M2 226 0 = 1 → Q (.inl (some (gm_vi 0))) n K R M2) : gm_Wp X LX d bc bs 367 0 (gm_ent 367 [gm_vr 226, gm_vi k, gm_vi w]) [] n K R M Q := by
  obtain ⟨⟨⟨a0, b0⟩, ⟨a1, b1⟩, ⟨a10, b10⟩, ⟨a11, b11⟩, ⟨a12, b12⟩, a9, b9⟩, ⟨⟨a2, b2⟩, ⟨a5, b5⟩, ⟨a3, b3⟩, ⟨a4, b4⟩, ⟨a6, b6⟩, ⟨a14, b14⟩, ⟨a7, b7⟩, a13, b13⟩, rF, rP, rL⟩ := id hN
  refine gm_sz (gm_p_load (pc := 0) (i := .aload_n 0) (sr := 2) (j := 0) (by decide +kernel) rfl rfl rfl) ?_
  refine gm_sz (gm_p_const (pc := 1) (i := .iconst 0) (v := gm_vi 0) (by decide +kernel) (by decide +kernel)) ?_
  refine gm_sz (fw_pi (pc := 2) (ix := 3) (ci := 11) (j := 0) (M' := gm_uM M 226 0 0) (by decide +kernel) (e0k hE (k := 226) (c := 11) (by decide +kernel)) (by decide +kernel) (by decide +kernel) (by decide +kernel) rfl) ?_
  refine gm_sz (gm_p_load (pc := 5) (i := .aload_n 0) (sr := 2) (j := 0) (by decide +kernel) rfl rfl rfl) ?_
  refine gm_sz (gm_p_load (pc := 6) (i := .iload_n 2) (sr := 0) (j := 2) (by decide +kernel) rfl rfl rfl) ?_
  refine gm_sz (gm_p_const (pc := 7) (i := .iconst 0) (v := gm_vi 0) (by decide +kernel) (by decide +kernel)) ?_
  refine gm_sz (gm_p_const (pc := 8) (i := .iconst 2) (v := gm_vi 2) (by decide +kernel) (by decide +kernel)) ?_
  refine gm_c_stat (mj := 286) (ix := 90) (pc := 9) (as := [gm_vi w, gm_vi 0, gm_vi 2]) (st := [gm_vr 226]) (d' := d - 1) (bc' := 0) (bs' := 0) (by decide +kernel) (by decide +kernel) (by decide +kernel) (by decide +kernel) (show 3 = gm_na 286 by decide +kernel) (fw_c3 fw_si fw_si fw_si) (show 3 ≤ gm_ml 286 by decide +kernel) (Nat.le_of_ble_eq_true rfl) (by omega) (Nat.zero_le _) (Nat.zero_le _) ?_
  refine in_286 (x := w) (y := 0) (z := 2) hi2 ⟨by decide, by decide⟩ ⟨by decide, by decide⟩ (fun k9a k9 => ?_) (fun k9 => ?_)
  · show gm_Wp X LX d _ _ 367 12 _ [gm_vi 1, gm_vr 226] n K _ _ Q
    have k9a : 0 ≤ w := k9a
    have k9 : w ≤ 2 := k9
    refine fw_iftd (cc := .ne) (pc := 12) (off := 7) (by decide +kernel) (by decide) ⟨by decide, by decide⟩ (by decide) ?_
    refine gm_sz (gm_p_const (pc := 19) (i := .iconst 0) (v := gm_vi 0) (by decide +kernel) (by decide +kernel)) ?_
    refine gm_sz (gm_p_const (pc := 20) (i := .iconst 1) (v := gm_vi 1) (by decide +kernel) (by decide +kernel)) ?_
    refine gm_c_virt (k := 226) (ci := 11) (mj := 282) (ix := 300) (pc := 21) (as := [gm_vi 0, gm_vi 1]) (st := []) (d' := d - 1) (bc' := 0) (bs' := 0) (by decide +kernel) (by decide +kernel) (by decide +kernel) (by decide +kernel) (e0k hE (k := 226) (c := 11) (by decide +kernel)).1 (e0k hE (k := 226) (c := 11) (by decide +kernel)).2 (by decide) (by decide +kernel) (show 2 = gm_na 282 by decide +kernel) (fw_c2 fw_si fw_si) (show 3 ≤ gm_ml 282 by decide +kernel) (Nat.le_of_ble_eq_true rfl) (by omega) (Nat.zero_le _) (Nat.zero_le _) ?_
    refine tf_0 hE ?_
    show gm_Wp X LX d _ _ 367 24 _ [gm_vi 0] n K _ _ Q
    refine fw_iftd (cc := .eq) (pc := 24) (off := 5) (by decide +kernel) (by decide) ⟨by decide, by decide⟩ (by decide) ?_
    refine gm_sz (gm_p_load (pc := 29) (i := .iload_n 1) (sr := 0) (j := 1) (by decide +kernel) rfl rfl rfl) ?_
    refine gm_sz (gm_p_const (pc := 30) (i := .iconst 0) (v := gm_vi 0) (by decide +kernel) (by decide +kernel)) ?_
    refine gm_sz (gm_p_load (pc := 31) (i := .aload_n 0) (sr := 2) (j := 0) (by decide +kernel) rfl rfl rfl) ?_
    refine gm_sz (fw_gr (pc := 32) (ix := 13) (ci := 11) (j := 1) (r := 227) (by decide +kernel) (e0k hE (k := 226) (c := 11) (by decide +kernel)) (by decide +kernel) (by decide +kernel) (e0r hE (k := 226) (j := 1) (r := 227) (by decide +kernel))) ?_
    refine gm_sz (gm_p_const (pc := 35) (i := .bipush 14) (v := gm_vi 14) (by decide +kernel) (by decide +kernel)) ?_
    refine gm_sz (fw_ia (pc := 37) (k := 227) (len := 2093) (e0 := 14) (x := N 14) (by decide +kernel) (e0a hE (k := 227) (q := (0, 2093)) (by decide +kernel)).1 (e0a hE (k := 227) (q := (0, 2093)) (by decide +kernel)).2 (by decide) ⟨by omega, by omega⟩ ((uM_ne (by omega)).trans (tr_w hT (by decide) (by decide) (by decide)))) ?_
    refine gm_sz (gm_p_const (pc := 38) (i := .iconst 1) (v := gm_vi 1) (by decide +kernel) (by decide +kernel)) ?_
    refine gm_sz (gm_p_bin (pc := 39) (i := .isub) (f := fun x y => x - y) (by decide +kernel) rfl) ?_
    refine gm_c_stat (mj := 286) (ix := 90) (pc := 40) (as := [gm_vi k, gm_vi 0, gm_vi ((N 14) - 1)]) (st := []) (d' := d - 1) (bc' := 0) (bs' := 0) (by decide +kernel) (by decide +kernel) (by decide +kernel) (by decide +kernel) (show 3 = gm_na 286 by decide +kernel) (fw_c3 fw_si fw_si fw_si) (show 3 ≤ gm_ml 286 by decide +kernel) (Nat.le_of_ble_eq_true rfl) (by omega) (Nat.zero_le _) (Nat.zero_le _) ?_
    refine in_286 (x := k) (y := 0) (z := ((N 14) - 1)) hi ⟨by decide, by decide⟩ ⟨by omega, by omega⟩ (fun k40a k40 => ?_) (fun k40 => ?_)
    · show gm_Wp X LX d _ _ 367 43 _ [gm_vi 1] n K _ _ Q
      have k40a : 0 ≤ k := k40a
      have k40 : k ≤ ((N 14) - 1) := k40
      refine fw_iffd (cc := .eq) (pc := 43) (off := 20) (by decide +kernel) (by decide) ⟨by decide, by decide⟩ (by decide) ?_
      refine gm_sz (gm_p_load (pc := 46) (i := .aload_n 0) (sr := 2) (j := 0) (by decide +kernel) rfl rfl rfl) ?_
      refine gm_sz (fw_gr (pc := 47) (ix := 13) (ci := 11) (j := 1) (r := 227) (by decide +kernel) (e0k hE (k := 226) (c := 11) (by decide +kernel)) (by decide +kernel) (by decide +kernel) (e0r hE (k := 226) (j := 1) (r := 227) (by decide +kernel))) ?_
      refine gm_sz (gm_p_const (pc := 50) (i := .sipush 323) (v := gm_vi 323) (by decide +kernel) (by decide +kernel)) ?_
      refine gm_sz (gm_p_const (pc := 53) (i := .iconst 3) (v := gm_vi 3) (by decide +kernel) (by decide +kernel)) ?_
      refine gm_sz (gm_p_load (pc := 54) (i := .iload_n 1) (sr := 0) (j := 1) (by decide +kernel) rfl rfl rfl) ?_
      refine gm_sz (gm_p_bin (pc := 55) (i := .imul) (f := fun x y => x * y) (by decide +kernel) rfl) ?_
      refine gm_sz (gm_p_bin (pc := 56) (i := .iadd) (f := fun x y => x + y) (by decide +kernel) rfl) ?_
      refine gm_sz (gm_p_load (pc := 57) (i := .iload_n 2) (sr := 0) (j := 2) (by decide +kernel) rfl rfl rfl) ?_
      refine gm_sz (gm_p_bin (pc := 58) (i := .iadd) (f := fun x y => x + y) (by decide +kernel) rfl) ?_
      refine gm_sz (fw_ia (pc := 59) (k := 227) (len := 2093) (e0 := (323 + (3 * k)) + w) (x := N (323 + (k * 3 + w))) (by decide +kernel) (e0a hE (k := 227) (q := (0, 2093)) (by decide +kernel)).1 (e0a hE (k := 227) (q := (0, 2093)) (by decide +kernel)).2 (by decide) ⟨by omega, by omega⟩ ((uM_ne (by omega)).trans (tr_x hT (show (323 + (3 * k)) + w = (323 + (k * 3 + w)) by omega) (by omega) (by omega) (by omega)))) ?_
      refine gm_sz (gm_p_goto (pc := 60) (off := 4) (by decide +kernel) (by decide)) ?_
      exact gm_r_int (pc := 64) (by decide +kernel) (Or.inl (by decide +kernel)) (kv (by omega) (by omega) _ uM_at)
    · show gm_Wp X LX d _ _ 367 43 _ [gm_vi 0] n K _ _ Q
      have k40 : ¬ (0 ≤ k ∧ k ≤ ((N 14) - 1)) := k40
      refine fw_iftd (cc := .eq) (pc := 43) (off := 20) (by decide +kernel) (by decide) ⟨by decide, by decide⟩ (by decide) ?_
      refine gm_sz (gm_p_const (pc := 63) (i := .iconst (-1)) (v := gm_vi (-1)) (by decide +kernel) (by decide +kernel)) ?_
      exact gm_r_int (pc := 64) (by decide +kernel) (Or.inl (by decide +kernel)) (kn (by omega) (by omega) _ uM_at)
  · show gm_Wp X LX d _ _ 367 12 _ [gm_vi 0, gm_vr 226] n K _ _ Q
    have k9 : ¬ (0 ≤ w ∧ w ≤ 2) := k9
    refine fw_iffd (cc := .ne) (pc := 12) (off := 7) (by decide +kernel) (by decide) ⟨by decide, by decide⟩ (by decide) ?_
    refine gm_sz (gm_p_const (pc := 15) (i := .iconst 1) (v := gm_vi 1) (by decide +kernel) (by decide +kernel)) ?_
    refine gm_sz (gm_p_goto (pc := 16) (off := 4) (by decide +kernel) (by decide)) ?_
    refine gm_sz (gm_p_const (pc := 20) (i := .iconst 1) (v := gm_vi 1) (by decide +kernel) (by decide +kernel)) ?_
    refine gm_c_virt (k := 226) (ci := 11) (mj := 282) (ix := 300) (pc := 21) (as := [gm_vi 1, gm_vi 1]) (st := []) (d' := d - 1) (bc' := 0) (bs' := 0) (by decide +kernel) (by decide +kernel) (by decide +kernel) (by decide +kernel) (e0k hE (k := 226) (c := 11) (by decide +kernel)).1 (e0k hE (k := 226) (c := 11) (by decide +kernel)).2 (by decide) (by decide +kernel) (show 2 = gm_na 282 by decide +kernel) (fw_c2 fw_si fw_si) (show 3 ≤ gm_ml 282 by decide +kernel) (Nat.le_of_ble_eq_true rfl) (by omega) (Nat.zero_le _) (Nat.zero_le _) ?_
    refine tf_1 hE ?_
    show gm_Wp X LX d _ _ 367 24 _ [gm_vi 1] n K _ _ Q
    refine fw_iffd (cc := .eq) (pc := 24) (off := 5) (by decide +kernel) (by decide) ⟨by decide, by decide⟩ (by decide) ?_
    refine gm_sz (gm_p_const (pc := 27) (i := .iconst 0) (v := gm_vi 0) (by decide +kernel) (by decide +kernel)) ?_
    exact gm_r_int (pc := 28) (by decide +kernel) (Or.inl (by decide +kernel)) (k1 (by omega) _ uM_at)
end SQ50
end
/-! 7c51.sa -/
section
/-! CALLS THAT ONLY ASK, without loops: class and reference answer alike. -/
section SA51
variable {X : Int → Int} {LX d bc bs n g z g1 : Nat} {la : Nat → Nat} {K : gm_K} {R : gm_R} {M : gm_M} {N : Int → Int} {lw : Option (List lln)} {A : List (Int → Int)} {im : Option ((Int → Int) × Option (List lln))} {t w : Int} {f : Int → Int} {a b c e : Int} {NC : Nat} {C Ln G : Int → Int}
noncomputable def q_heat (N : Int → Int) (a : Int) : Int × Int := tif (¬ (0 ≤ a ∧ a ≤ 299)) (1, 0) (0, hts (N 13) a)
theorem iq_heat : gm_ir (q_heat N a).1 := by
  unfold q_heat
  exact tif_ir (show (-2147483648 : Int) ≤ 1 ∧ (1 : Int) < 2147483648 from by decide) ((show (-2147483648 : Int) ≤ 0 ∧ (0 : Int) < 2147483648 from by decide))
theorem cq_heat (hd : 24 ≤ d) (hbc : 4 ≤ bc) (hbs : 24 ≤ bs) (hE : E0 n K R) (hn : 245 ≤ n) (hK : K 245 = (2, 1)) (hG : GJ N) (hV : CLV N lw A im t w f M) (ia : gm_ir a) : gm_Wp X LX d bc bs 128 0 (gm_ent 128 [gm_vr 1, gm_vi a]) [] n K R M (hQ [(0, 1)] (CF (q_heat N a).1 (oV (q_heat N a).1 (q_heat N a).2))) := by
  exact cl_heat (Nat.le_trans (by decide) hd) hbc hbs hE hV.1.1 hG.1.1 ia (fun h => hQ_v hn hK (cf_v hK (tif_f (fun hh => hh h)) rfl)) (fun h => hQ_x hn hK (c := 1) (by decide) (cf_x hK (tif_t h) (by decide)))
theorem rq_heat (hd : 24 ≤ d) (hE : E0 n K R) (hS6 : NSb 6 N) (hG : GJ N) (hV : RFV N lw A im t w f M) (ia : gm_ir a) : gm_Wp X LX d bc bs 284 0 (gm_ent 284 [gm_vr 226, gm_vi a]) [] n K R M (RF (q_heat N a).1 (q_heat N a).2) := by
  have k226 := k226 hE
  exact re_heat (Nat.le_trans (by decide) hd) hE hV.1.1 hG.1.1 ia (fun h M2 h0 => rf_e k226 (tif_f (fun hh => hh h)) (fun _ => rfl) h0) (fun h M2 h0 => rf_e k226 (tif_t h) (fun e => absurd e (by decide)) h0)
theorem fw_heat (hb : bg g la K R M) (hR : REL la K M N lw A im t w f) (ia : gm_ir a) : ∀ z g1, bs_ok la z g1 → ¬ z = 100003 → gm_Wp X LX 279 6 600 127 0 (gm_ent 127 (gm_vr 1 :: bc_as [a] true)) [] (245 + 4 * g1) (bs_K la K) (bs_R z g1) (bs_M la M) (CF (q_heat N a).1 (oV (q_heat N a).1 (q_heat N a).2)) := by
  intro z g1 hz hz3
  have hE := e0_w hb hz
  exact hl_127 (d := 278) (k1_e hE) (cq_heat (by decide) (by decide) (by decide) hE (k245 hE).1 (k245 hE).2 hR.1.1 (clv_w hb hR.2.2.1) ia)
theorem fm_heat (hb : bg g la K R M) (hR : REL la K M N lw A im t w f) (ia : gm_ir a) : gm_Wp X LX 279 6 600 284 0 (gm_ent 284 (gm_vr 226 :: [a].map gm_vi)) [] 245 (bs_K la K) (bs_R 100003 0) (bs_M la M) (RF (q_heat N a).1 (q_heat N a).2) := rq_heat (by decide) (e0_w hb (Or.inr (Or.inl ⟨rfl, rfl⟩))) (ns6 (bs_F0 (z := 100003) hb) (rfv_w (la := la) hR.2.2.2).1.1.1 hR.1.1.1.1) hR.1.1 (rfv_w hR.2.2.2) ia
noncomputable def q_speed (N : Int → Int) (a : Int) (b : Int) : Int × Int := tif (¬ ((0 ≤ a ∧ a < N 0) ∧ (0 ≤ b ∧ b < N 1))) (1, 0) (0, nsp N a b)
theorem iq_speed : gm_ir (q_speed N a b).1 := by
  unfold q_speed
  exact tif_ir (show (-2147483648 : Int) ≤ 1 ∧ (1 : Int) < 2147483648 from by decide) ((show (-2147483648 : Int) ≤ 0 ∧ (0 : Int) < 2147483648 from by decide))
theorem cq_speed (hd : 24 ≤ d) (hbc : 4 ≤ bc) (hbs : 24 ≤ bs) (hE : E0 n K R) (hn : 245 ≤ n) (hK : K 245 = (2, 1)) (hG : GJ N) (hV : CLV N lw A im t w f M) (ia : gm_ir a) (ib : gm_ir b) : gm_Wp X LX d bc bs 131 0 (gm_ent 131 [gm_vr 1, gm_vi a, gm_vi b]) [] n K R M (hQ [(3, 1)] (CF (q_speed N a b).1 (oV (q_speed N a b).1 (q_speed N a b).2))) := by
  exact cl_speed (Nat.le_trans (by decide) hd) hbc hbs hE hV.1.1 hG.1.1 ia ib (fun h => by rw [show spd N a b = nsp N a b from if_pos ⟨h.1.2, h.2.2⟩]; exact hQ_v hn hK (cf_v hK (tif_f (fun hh => hh h)) rfl)) (fun h => hQ_x hn hK (c := 1) (by decide) (cf_x hK (tif_t h) (by decide)))
theorem rq_speed (hd : 24 ≤ d) (hE : E0 n K R) (hS6 : NSb 6 N) (hG : GJ N) (hV : RFV N lw A im t w f M) (ia : gm_ir a) (ib : gm_ir b) : gm_Wp X LX d bc bs 287 0 (gm_ent 287 [gm_vr 226, gm_vi a, gm_vi b]) [] n K R M (RF (q_speed N a b).1 (q_speed N a b).2) := by
  have k226 := k226 hE
  exact re_speed (Nat.le_trans (by decide) hd) hE hV.1.1 hG.1.1 hS6 ia ib (fun h M2 h0 => rf_e k226 (tif_f (fun hh => hh h)) (fun _ => rfl) h0) (fun h M2 h0 => rf_e k226 (tif_t h) (fun e => absurd e (by decide)) h0)
theorem fw_speed (hb : bg g la K R M) (hR : REL la K M N lw A im t w f) (ia : gm_ir a) (ib : gm_ir b) : ∀ z g1, bs_ok la z g1 → ¬ z = 100003 → gm_Wp X LX 279 6 600 130 0 (gm_ent 130 (gm_vr 1 :: bc_as [a, b] true)) [] (245 + 4 * g1) (bs_K la K) (bs_R z g1) (bs_M la M) (CF (q_speed N a b).1 (oV (q_speed N a b).1 (q_speed N a b).2)) := by
  intro z g1 hz hz3
  have hE := e0_w hb hz
  exact hl_130 (d := 278) (k1_e hE) (cq_speed (by decide) (by decide) (by decide) hE (k245 hE).1 (k245 hE).2 hR.1.1 (clv_w hb hR.2.2.1) ia ib)
theorem fm_speed (hb : bg g la K R M) (hR : REL la K M N lw A im t w f) (ia : gm_ir a) (ib : gm_ir b) : gm_Wp X LX 279 6 600 287 0 (gm_ent 287 (gm_vr 226 :: [a, b].map gm_vi)) [] 245 (bs_K la K) (bs_R 100003 0) (bs_M la M) (RF (q_speed N a b).1 (q_speed N a b).2) := rq_speed (by decide) (e0_w hb (Or.inr (Or.inl ⟨rfl, rfl⟩))) (ns6 (bs_F0 (z := 100003) hb) (rfv_w (la := la) hR.2.2.2).1.1.1 hR.1.1.1.1) hR.1.1 (rfv_w hR.2.2.2) ia ib
noncomputable def q_flow (lw : Option (List lln)) (N : Int → Int) (a : Int) (b : Int) (c : Int) : Int × Int := tif (¬ ((0 ≤ a ∧ a < N 0) ∧ (0 ≤ b ∧ b < N 1))) (1, 0) (tif (¬ (0 ≤ c ∧ c ≤ 299)) (2, 0) (0, aphi lw N (hts (N 13)) a b c))
theorem iq_flow : gm_ir (q_flow lw N a b c).1 := by
  unfold q_flow
  exact tif_ir (show (-2147483648 : Int) ≤ 1 ∧ (1 : Int) < 2147483648 from by decide) (tif_ir (show (-2147483648 : Int) ≤ 2 ∧ (2 : Int) < 2147483648 from by decide) ((show (-2147483648 : Int) ≤ 0 ∧ (0 : Int) < 2147483648 from by decide)))
theorem cq_flow (hd : 24 ≤ d) (hbc : 4 ≤ bc) (hbs : 24 ≤ bs) (hE : E0 n K R) (hn : 245 ≤ n) (hK : K 245 = (2, 1)) (hc : CC n K R NC C Ln G lw) (hL : LBX NC C Ln lw M) (hG : GJ N) (hV : CLV N lw A im t w f M) (ia : gm_ir a) (ib : gm_ir b) (ic : gm_ir c) : gm_Wp X LX d bc bs 136 0 (gm_ent 136 [gm_vr 1, gm_vi a, gm_vi b, gm_vi c]) [] n K R M (hQ [(3, 1), (0, 2)] (CF (q_flow lw N a b c).1 (oV (q_flow lw N a b c).1 (q_flow lw N a b c).2))) := by
  exact cl_flow (Nat.le_trans (by decide) hd) hbc hbs hE hV.1.1 hG.1.1 (flw_a hE hc hG.1.1 hG.1.2.1) (fic_of hL hV) ia ib ic (fun h h2 M2 _ => hQ_v hn hK (cf_v hK ((tif_f (fun hh => hh h)).trans (tif_f (fun hh => hh h2))) rfl)) (fun h => hQ_x hn hK (c := 1) (by decide) (cf_x hK (tif_t h) (by decide))) (fun h h2 => hQ_x hn hK (c := 2) (by decide) (cf_x hK ((tif_f (fun hh => hh h)).trans (tif_t h2)) (by decide)))
theorem rq_flow (hd : 24 ≤ d) (hE : E0 n K R) (hT : jT fun j => M 227 (395 + j)) (hS6 : NSb 6 N) (hG : GJ N) (hV : RFV N lw A im t w f M) (ia : gm_ir a) (ib : gm_ir b) (ic : gm_ir c) : gm_Wp X LX d bc bs 291 0 (gm_ent 291 [gm_vr 226, gm_vi a, gm_vi b, gm_vi c]) [] n K R M (RF (q_flow lw N a b c).1 (q_flow lw N a b c).2) := by
  have k226 := k226 hE
  exact re_flow (Nat.le_trans (by decide) hd) hE hV.1.1 hG.1.1 (flr_a hE (lawg_of hV.1.2.1 hT) hgeo_r hG.1.1 hG.1.1 hS6) ⟨hV.2.1, fun _ _ => rfl⟩ ia ib ic (fun h h2 M2 h0 => rf_e k226 ((tif_f (fun hh => hh h)).trans (tif_f (fun hh => hh h2))) (fun _ => rfl) h0) (fun h M2 h0 => rf_e k226 (tif_t h) (fun e => absurd e (by decide)) h0) (fun h h2 M2 h0 => rf_e k226 ((tif_f (fun hh => hh h)).trans (tif_t h2)) (fun e => absurd e (by decide)) h0)
theorem fw_flow (hb : bg g la K R M) (hR : REL la K M N lw A im t w f) (ia : gm_ir a) (ib : gm_ir b) (ic : gm_ir c) : ∀ z g1, bs_ok la z g1 → ¬ z = 100003 → gm_Wp X LX 279 6 600 135 0 (gm_ent 135 (gm_vr 1 :: bc_as [a, b, c] true)) [] (245 + 4 * g1) (bs_K la K) (bs_R z g1) (bs_M la M) (CF (q_flow lw N a b c).1 (oV (q_flow lw N a b c).1 (q_flow lw N a b c).2)) := by
  intro z g1 hz hz3
  have hE := e0_w hb hz
  obtain ⟨NC, C, Ln, hcc, hlb⟩ := cc_w hb hz hz3 hR.2.1.1 hR.2.2.2.1.2.1
  exact hl_135 (d := 278) (k1_e hE) (cq_flow (by decide) (by decide) (by decide) hE (k245 hE).1 (k245 hE).2 hcc hlb hR.1.1 (clv_w hb hR.2.2.1) ia ib ic)
theorem fm_flow (hb : bg g la K R M) (hR : REL la K M N lw A im t w f) (ia : gm_ir a) (ib : gm_ir b) (ic : gm_ir c) : gm_Wp X LX 279 6 600 291 0 (gm_ent 291 (gm_vr 226 :: [a, b, c].map gm_vi)) [] 245 (bs_K la K) (bs_R 100003 0) (bs_M la M) (RF (q_flow lw N a b c).1 (q_flow lw N a b c).2) := rq_flow (by decide) (e0_w hb (Or.inr (Or.inl ⟨rfl, rfl⟩))) (gJ_w hb) (ns6 (bs_F0 (z := 100003) hb) (rfv_w (la := la) hR.2.2.2).1.1.1 hR.1.1.1.1) hR.1.1 (rfv_w hR.2.2.2) ia ib ic
noncomputable def q_table (N : Int → Int) (a : Int) (b : Int) : Int × Int := tif (¬ ((0 ≤ a ∧ a < N 6) ∧ (0 ≤ b ∧ b < N 0))) (1, 0) (0, (N (287 + (a * 6 + b))))
theorem iq_table : gm_ir (q_table N a b).1 := by
  unfold q_table
  exact tif_ir (show (-2147483648 : Int) ≤ 1 ∧ (1 : Int) < 2147483648 from by decide) ((show (-2147483648 : Int) ≤ 0 ∧ (0 : Int) < 2147483648 from by decide))
theorem cq_table (hd : 24 ≤ d) (hbc : 4 ≤ bc) (hbs : 24 ≤ bs) (hE : E0 n K R) (hn : 245 ≤ n) (hK : K 245 = (2, 1)) (hG : GJ N) (hV : CLV N lw A im t w f M) (ia : gm_ir a) (ib : gm_ir b) : gm_Wp X LX d bc bs 192 0 (gm_ent 192 [gm_vr 1, gm_vi a, gm_vi b]) [] n K R M (hQ [(3, 1)] (CF (q_table N a b).1 (oV (q_table N a b).1 (q_table N a b).2))) := by
  exact cl_table (Nat.le_trans (by decide) hd) hbc hbs hE hV.1.1 hG.1.1 ia ib (fun h => hQ_v hn hK (cf_v hK (tif_f (fun hh => hh h)) rfl)) (fun h => hQ_x hn hK (c := 1) (by decide) (cf_x hK (tif_t h) (by decide)))
theorem rq_table (hd : 24 ≤ d) (hE : E0 n K R) (hS6 : NSb 6 N) (hG : GJ N) (hV : RFV N lw A im t w f M) (ia : gm_ir a) (ib : gm_ir b) : gm_Wp X LX d bc bs 341 0 (gm_ent 341 [gm_vr 226, gm_vi a, gm_vi b]) [] n K R M (RF (q_table N a b).1 (q_table N a b).2) := by
  have k226 := k226 hE
  exact re_table (Nat.le_trans (by decide) hd) hE hV.1.1 hG.1.1 ia ib (fun h M2 h0 => rf_e k226 (tif_f (fun hh => hh h)) (fun _ => rfl) h0) (fun h M2 h0 => rf_e k226 (tif_t h) (fun e => absurd e (by decide)) h0)
theorem fw_table (hb : bg g la K R M) (hR : REL la K M N lw A im t w f) (ia : gm_ir a) (ib : gm_ir b) : ∀ z g1, bs_ok la z g1 → ¬ z = 100003 → gm_Wp X LX 279 6 600 191 0 (gm_ent 191 (gm_vr 1 :: bc_as [a, b] true)) [] (245 + 4 * g1) (bs_K la K) (bs_R z g1) (bs_M la M) (CF (q_table N a b).1 (oV (q_table N a b).1 (q_table N a b).2)) := by
  intro z g1 hz hz3
  have hE := e0_w hb hz
  exact hl_191 (d := 278) (k1_e hE) (cq_table (by decide) (by decide) (by decide) hE (k245 hE).1 (k245 hE).2 hR.1.1 (clv_w hb hR.2.2.1) ia ib)
theorem fm_table (hb : bg g la K R M) (hR : REL la K M N lw A im t w f) (ia : gm_ir a) (ib : gm_ir b) : gm_Wp X LX 279 6 600 341 0 (gm_ent 341 (gm_vr 226 :: [a, b].map gm_vi)) [] 245 (bs_K la K) (bs_R 100003 0) (bs_M la M) (RF (q_table N a b).1 (q_table N a b).2) := rq_table (by decide) (e0_w hb (Or.inr (Or.inl ⟨rfl, rfl⟩))) (ns6 (bs_F0 (z := 100003) hb) (rfv_w (la := la) hR.2.2.2).1.1.1 hR.1.1.1.1) hR.1.1 (rfv_w hR.2.2.2) ia ib
noncomputable def q_log (N : Int → Int) (a : Int) (b : Int) : Int × Int := tif (¬ (0 ≤ b ∧ b ≤ 2)) (1, 0) (tif (¬ (0 ≤ a ∧ a < N 14)) (0, -1) (0, (N (323 + (a * 3 + b)))))
theorem iq_log : gm_ir (q_log N a b).1 := by
  unfold q_log
  exact tif_ir (show (-2147483648 : Int) ≤ 1 ∧ (1 : Int) < 2147483648 from by decide) (tif_ir (show (-2147483648 : Int) ≤ 0 ∧ (0 : Int) < 2147483648 from by decide) ((show (-2147483648 : Int) ≤ 0 ∧ (0 : Int) < 2147483648 from by decide)))
theorem cq_log (hd : 24 ≤ d) (hbc : 4 ≤ bc) (hbs : 24 ≤ bs) (hE : E0 n K R) (hn : 245 ≤ n) (hK : K 245 = (2, 1)) (hG : GJ N) (hV : CLV N lw A im t w f M) (ia : gm_ir a) (ib : gm_ir b) : gm_Wp X LX d bc bs 233 0 (gm_ent 233 [gm_vr 1, gm_vi a, gm_vi b]) [] n K R M (hQ [(4, 1)] (CF (q_log N a b).1 (oV (q_log N a b).1 (q_log N a b).2))) := by
  by_cases hk : 0 ≤ a ∧ a < N 14
  · exact cl_log1 (Nat.le_trans (by decide) hd) hbc hbs hE hV.1.1 hG.1.1 ib hk (fun h => hQ_v hn hK (cf_v hK ((tif_f (fun hh => hh h)).trans (tif_f (fun hh => hh hk))) rfl)) (fun h => hQ_x hn hK (c := 1) (by decide) (cf_x hK (tif_t h) (by decide)))
  · exact cl_log0 (Nat.le_trans (by decide) hd) hbc hbs hE hV.1.1 hG.1.1 ia ib hk (fun h => hQ_v hn hK (cf_v hK ((tif_f (fun hh => hh h)).trans (tif_t hk)) rfl)) (fun h => hQ_x hn hK (c := 1) (by decide) (cf_x hK (tif_t h) (by decide)))
theorem rq_log (hd : 24 ≤ d) (hE : E0 n K R) (hS6 : NSb 6 N) (hG : GJ N) (hV : RFV N lw A im t w f M) (ia : gm_ir a) (ib : gm_ir b) : gm_Wp X LX d bc bs 367 0 (gm_ent 367 [gm_vr 226, gm_vi a, gm_vi b]) [] n K R M (RF (q_log N a b).1 (q_log N a b).2) := by
  have k226 := k226 hE
  exact re_log (Nat.le_trans (by decide) hd) hE hV.1.1 hG.1.1 ia ib (fun h hk M2 h0 => rf_e k226 ((tif_f (fun hh => hh h)).trans (tif_f (fun hh => hh hk))) (fun _ => rfl) h0) (fun h hk M2 h0 => rf_e k226 ((tif_f (fun hh => hh h)).trans (tif_t hk)) (fun _ => rfl) h0) (fun h M2 h0 => rf_e k226 (tif_t h) (fun e => absurd e (by decide)) h0)
theorem fw_log (hb : bg g la K R M) (hR : REL la K M N lw A im t w f) (ia : gm_ir a) (ib : gm_ir b) : ∀ z g1, bs_ok la z g1 → ¬ z = 100003 → gm_Wp X LX 279 6 600 232 0 (gm_ent 232 (gm_vr 1 :: bc_as [a, b] true)) [] (245 + 4 * g1) (bs_K la K) (bs_R z g1) (bs_M la M) (CF (q_log N a b).1 (oV (q_log N a b).1 (q_log N a b).2)) := by
  intro z g1 hz hz3
  have hE := e0_w hb hz
  exact hl_232 (d := 278) (k1_e hE) (cq_log (by decide) (by decide) (by decide) hE (k245 hE).1 (k245 hE).2 hR.1.1 (clv_w hb hR.2.2.1) ia ib)
theorem fm_log (hb : bg g la K R M) (hR : REL la K M N lw A im t w f) (ia : gm_ir a) (ib : gm_ir b) : gm_Wp X LX 279 6 600 367 0 (gm_ent 367 (gm_vr 226 :: [a, b].map gm_vi)) [] 245 (bs_K la K) (bs_R 100003 0) (bs_M la M) (RF (q_log N a b).1 (q_log N a b).2) := rq_log (by decide) (e0_w hb (Or.inr (Or.inl ⟨rfl, rfl⟩))) (ns6 (bs_F0 (z := 100003) hb) (rfv_w (la := la) hR.2.2.2).1.1.1 hR.1.1.1.1) hR.1.1 (rfv_w hR.2.2.2) ia ib
end SA51
end
