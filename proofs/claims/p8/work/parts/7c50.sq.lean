/-! CALLS THAT ONLY ASK, without loops: what they answer. -/
section SQ50
variable {X : Int → Int} {LX d bc bs n : Nat} {K : gm_K} {R : gm_R} {M : gm_M} {Q : gm_Q} {N h : Int → Int} {sp : Int → Int → Int} {FI : gm_M → Prop} {φ : Int → Int → Int → Int} {l lane row year y p w x k c v a b t : Int}
theorem cl_speed (hd : 14 ≤ d) (hbc : 4 ≤ bc) (hbs : 24 ≤ bs) (hE : E0 n K R) (hT : TI N h sp M) (hN : NR N) (hi : gm_ir l) (hi2 : gm_ir x) (kv : (0 ≤ l ∧ l < N 0) ∧ (0 ≤ x ∧ x < N 1) → Q (.inl (some (gm_vi (sp l x)))) n K R M) (k3 : ¬ ((0 ≤ l ∧ l < N 0) ∧ (0 ≤ x ∧ x < N 1)) → Q (.inr 3) n K R M) : gm_Wp X LX d bc bs 131 0 (gm_ent 131 [gm_vr 1, gm_vi l, gm_vi x]) [] n K R M Q := by
  obtain ⟨⟨⟨a0, b0⟩, ⟨a1, b1⟩, ⟨a10, b10⟩, ⟨a11, b11⟩, ⟨a12, b12⟩, a9, b9⟩, ⟨⟨a2, b2⟩, ⟨a5, b5⟩, ⟨a3, b3⟩, ⟨a4, b4⟩, ⟨a6, b6⟩, ⟨a14, b14⟩, ⟨a7, b7⟩, a13, b13⟩, rF, rP, rL⟩ := id hN
  refine gm_sz (gm_p_load (pc := 0) (i := .aload_n 0) (sr := 2) (j := 0) (by decide +kernel) rfl rfl rfl) ?_
  refine gm_sz (gm_p_load (pc := 1) (i := .iload_n 1) (sr := 0) (j := 1) (by decide +kernel) rfl rfl rfl) ?_
  refine gm_c_virt (k := 1) (ci := 0) (mj := 132) (ix := 166) (pc := 2) (as := [gm_vi l]) (st := []) (d' := d - 1) (bc' := 1) (bs' := 6) (by decide +kernel) (by decide +kernel) (by decide +kernel) (by decide +kernel) (e0k hE (k := 1) (c := 0) (by decide +kernel)).1 (e0k hE (k := 1) (c := 0) (by decide +kernel)).2 (by decide) (by decide +kernel) (show 1 = gm_na 132 by decide +kernel) (fw_c1 fw_si) (show 2 ≤ gm_ml 132 by decide +kernel) (Nat.le_of_ble_eq_true rfl) (by omega) (by omega) (by omega) ?_
  refine nd_132 (i := l) (by omega) (by omega) (by omega) hE hT hN hi (fun c2 => ?_) (fun c2 => ?_)
  · show gm_Wp X LX d _ _ 131 5 _ [] n K _ _ Q
    have c2 : 0 ≤ l ∧ l < N 0 := c2
    refine gm_sz (gm_p_load (pc := 5) (i := .aload_n 0) (sr := 2) (j := 0) (by decide +kernel) rfl rfl rfl) ?_
    refine gm_sz (gm_p_load (pc := 6) (i := .iload_n 2) (sr := 0) (j := 2) (by decide +kernel) rfl rfl rfl) ?_
    refine gm_c_virt (k := 1) (ci := 0) (mj := 134) (ix := 169) (pc := 7) (as := [gm_vi x]) (st := []) (d' := d - 1) (bc' := 1) (bs' := 6) (by decide +kernel) (by decide +kernel) (by decide +kernel) (by decide +kernel) (e0k hE (k := 1) (c := 0) (by decide +kernel)).1 (e0k hE (k := 1) (c := 0) (by decide +kernel)).2 (by decide) (by decide +kernel) (show 1 = gm_na 134 by decide +kernel) (fw_c1 fw_si) (show 2 ≤ gm_ml 134 by decide +kernel) (Nat.le_of_ble_eq_true rfl) (by omega) (by omega) (by omega) ?_
    refine nd_134 (i := x) (by omega) (by omega) (by omega) hE hT hN hi2 (fun c7 => ?_) (fun c7 => ?_)
    · show gm_Wp X LX d _ _ 131 10 _ [] n K _ _ Q
      have c7 : 0 ≤ x ∧ x < N 1 := c7
      refine gm_sz (gm_p_load (pc := 10) (i := .aload_n 0) (sr := 2) (j := 0) (by decide +kernel) rfl rfl rfl) ?_
      refine gm_sz (fw_gr (pc := 11) (ix := 49) (ci := 0) (j := 8) (r := 200) (by decide +kernel) (e0k hE (k := 1) (c := 0) (by decide +kernel)) (by decide +kernel) (by decide +kernel) (e0r hE (k := 1) (j := 8) (r := 200) (by decide +kernel))) ?_
      refine gm_sz (gm_p_load (pc := 14) (i := .iload_n 1) (sr := 0) (j := 1) (by decide +kernel) rfl rfl rfl) ?_
      refine gm_sz (gm_p_load (pc := 15) (i := .iload_n 2) (sr := 0) (j := 2) (by decide +kernel) rfl rfl rfl) ?_
      refine gm_c_virt (k := 200) (ci := 4) (mj := 36) (ix := 172) (pc := 16) (as := [gm_vi l, gm_vi x]) (st := []) (d' := d - 1) (bc' := 0) (bs' := 0) (by decide +kernel) (by decide +kernel) (by decide +kernel) (by decide +kernel) (e0k hE (k := 200) (c := 4) (by decide +kernel)).1 (e0k hE (k := 200) (c := 4) (by decide +kernel)).2 (by decide) (by decide +kernel) (show 2 = gm_na 36 by decide +kernel) (fw_c2 fw_si fw_si) (show 3 ≤ gm_ml 36 by decide +kernel) (Nat.le_of_ble_eq_true rfl) (by omega) (Nat.zero_le _) (Nat.zero_le _) ?_
      refine ic_spd hE hT hN ⟨by omega, by omega⟩ ⟨by omega, by omega⟩ ?_
      show gm_Wp X LX d _ _ 131 19 _ [gm_vi (sp l x)] n K _ _ Q
      exact gm_r_int (pc := 19) (by decide +kernel) (Or.inl (by decide +kernel)) (kv ⟨⟨by omega, by omega⟩, ⟨by omega, by omega⟩⟩)
    · show Q (.inr 3) n K _ _
      have c7 : ¬ (0 ≤ x ∧ x < N 1) := c7
      exact (k3 (by omega))
  · show Q (.inr 3) n K _ _
    have c2 : ¬ (0 ≤ l ∧ l < N 0) := c2
    exact (k3 (by omega))
theorem re_speed (hd : 6 ≤ d) (hE : E0 n K R) (hT : TR N h M) (hN : NR N) (hS : NSb 6 N) (hi : gm_ir l) (hi2 : gm_ir x) (kv : (0 ≤ l ∧ l < N 0) ∧ (0 ≤ x ∧ x < N 1) → ∀ M2, M2 226 0 = 0 → Q (.inl (some (gm_vi (nsp N l x)))) n K R M2) (k1 : ¬ ((0 ≤ l ∧ l < N 0) ∧ (0 ≤ x ∧ x < N 1)) → ∀ M2, M2 226 0 = 1 → Q (.inl (some (gm_vi 0))) n K R M2) : gm_Wp X LX d bc bs 287 0 (gm_ent 287 [gm_vr 226, gm_vi l, gm_vi x]) [] n K R M Q := by
  obtain ⟨⟨⟨a0, b0⟩, ⟨a1, b1⟩, ⟨a10, b10⟩, ⟨a11, b11⟩, ⟨a12, b12⟩, a9, b9⟩, ⟨⟨a2, b2⟩, ⟨a5, b5⟩, ⟨a3, b3⟩, ⟨a4, b4⟩, ⟨a6, b6⟩, ⟨a14, b14⟩, ⟨a7, b7⟩, a13, b13⟩, rF, rP, rL⟩ := id hN
  refine gm_sz (gm_p_load (pc := 0) (i := .aload_n 0) (sr := 2) (j := 0) (by decide +kernel) rfl rfl rfl) ?_
  refine gm_sz (gm_p_const (pc := 1) (i := .iconst 0) (v := gm_vi 0) (by decide +kernel) (by decide +kernel)) ?_
  refine gm_sz (fw_pi (pc := 2) (ix := 3) (ci := 11) (j := 0) (M' := gm_uM M 226 0 0) (by decide +kernel) (e0k hE (k := 226) (c := 11) (by decide +kernel)) (by decide +kernel) (by decide +kernel) (by decide +kernel) rfl) ?_
  refine gm_sz (gm_p_load (pc := 5) (i := .aload_n 0) (sr := 2) (j := 0) (by decide +kernel) rfl rfl rfl) ?_
  refine gm_sz (gm_p_load (pc := 6) (i := .aload_n 0) (sr := 2) (j := 0) (by decide +kernel) rfl rfl rfl) ?_
  refine gm_sz (gm_p_load (pc := 7) (i := .iload_n 1) (sr := 0) (j := 1) (by decide +kernel) rfl rfl rfl) ?_
  refine gm_c_virt (k := 226) (ci := 11) (mj := 288) (ix := 356) (pc := 8) (as := [gm_vi l]) (st := [gm_vr 226]) (d' := d - 1) (bc' := 0) (bs' := 0) (by decide +kernel) (by decide +kernel) (by decide +kernel) (by decide +kernel) (e0k hE (k := 226) (c := 11) (by decide +kernel)).1 (e0k hE (k := 226) (c := 11) (by decide +kernel)).2 (by decide) (by decide +kernel) (show 1 = gm_na 288 by decide +kernel) (fw_c1 fw_si) (show 2 ≤ gm_ml 288 by decide +kernel) (Nat.le_of_ble_eq_true rfl) (by omega) (Nat.zero_le _) (Nat.zero_le _) ?_
  refine no_288 (i := l) (by omega) hE (tr_fr (W := [(226, some 0)]) hT (fr_p fr_0 (Or.inr (by decide))) (by decide)) hN hi (fun n8 => ?_) (fun n8 => ?_)
  · show gm_Wp X LX d _ _ 287 11 _ [gm_vi 1, gm_vr 226] n K _ _ Q
    have n8 : ¬ (0 ≤ l ∧ l < N 0) := n8
    refine fw_iftd (cc := .ne) (pc := 11) (off := 11) (by decide +kernel) (by decide) ⟨by decide, by decide⟩ (by decide) ?_
    refine gm_sz (gm_p_const (pc := 22) (i := .iconst 1) (v := gm_vi 1) (by decide +kernel) (by decide +kernel)) ?_
    refine gm_sz (gm_p_goto (pc := 23) (off := 4) (by decide +kernel) (by decide)) ?_
    refine gm_sz (gm_p_const (pc := 27) (i := .iconst 1) (v := gm_vi 1) (by decide +kernel) (by decide +kernel)) ?_
    refine gm_c_virt (k := 226) (ci := 11) (mj := 282) (ix := 300) (pc := 28) (as := [gm_vi 1, gm_vi 1]) (st := []) (d' := d - 1) (bc' := 0) (bs' := 0) (by decide +kernel) (by decide +kernel) (by decide +kernel) (by decide +kernel) (e0k hE (k := 226) (c := 11) (by decide +kernel)).1 (e0k hE (k := 226) (c := 11) (by decide +kernel)).2 (by decide) (by decide +kernel) (show 2 = gm_na 282 by decide +kernel) (fw_c2 fw_si fw_si) (show 3 ≤ gm_ml 282 by decide +kernel) (Nat.le_of_ble_eq_true rfl) (by omega) (Nat.zero_le _) (Nat.zero_le _) ?_
    refine tf_1 hE ?_
    show gm_Wp X LX d _ _ 287 31 _ [gm_vi 1] n K _ _ Q
    refine fw_iffd (cc := .eq) (pc := 31) (off := 7) (by decide +kernel) (by decide) ⟨by decide, by decide⟩ (by decide) ?_
    refine gm_sz (gm_p_const (pc := 34) (i := .iconst 0) (v := gm_vi 0) (by decide +kernel) (by decide +kernel)) ?_
    refine gm_sz (gm_p_goto (pc := 35) (off := 9) (by decide +kernel) (by decide)) ?_
    exact gm_r_int (pc := 44) (by decide +kernel) (Or.inl (by decide +kernel)) (k1 (by omega) _ uM_at)
  · show gm_Wp X LX d _ _ 287 11 _ [gm_vi 0, gm_vr 226] n K _ _ Q
    have n8 : 0 ≤ l ∧ l < N 0 := n8
    refine fw_iffd (cc := .ne) (pc := 11) (off := 11) (by decide +kernel) (by decide) ⟨by decide, by decide⟩ (by decide) ?_
    refine gm_sz (gm_p_load (pc := 14) (i := .aload_n 0) (sr := 2) (j := 0) (by decide +kernel) rfl rfl rfl) ?_
    refine gm_sz (gm_p_load (pc := 15) (i := .iload_n 2) (sr := 0) (j := 2) (by decide +kernel) rfl rfl rfl) ?_
    refine gm_c_virt (k := 226) (ci := 11) (mj := 289) (ix := 359) (pc := 16) (as := [gm_vi x]) (st := [gm_vr 226]) (d' := d - 1) (bc' := 0) (bs' := 0) (by decide +kernel) (by decide +kernel) (by decide +kernel) (by decide +kernel) (e0k hE (k := 226) (c := 11) (by decide +kernel)).1 (e0k hE (k := 226) (c := 11) (by decide +kernel)).2 (by decide) (by decide +kernel) (show 1 = gm_na 289 by decide +kernel) (fw_c1 fw_si) (show 2 ≤ gm_ml 289 by decide +kernel) (Nat.le_of_ble_eq_true rfl) (by omega) (Nat.zero_le _) (Nat.zero_le _) ?_
    refine no_289 (i := x) (by omega) hE (tr_fr (W := [(226, some 0)]) hT (fr_p fr_0 (Or.inr (by decide))) (by decide)) hN hi2 (fun n16 => ?_) (fun n16 => ?_)
    · show gm_Wp X LX d _ _ 287 19 _ [gm_vi 1, gm_vr 226] n K _ _ Q
      have n16 : ¬ (0 ≤ x ∧ x < N 1) := n16
      refine fw_iffd (cc := .eq) (pc := 19) (off := 7) (by decide +kernel) (by decide) ⟨by decide, by decide⟩ (by decide) ?_
      refine gm_sz (gm_p_const (pc := 22) (i := .iconst 1) (v := gm_vi 1) (by decide +kernel) (by decide +kernel)) ?_
      refine gm_sz (gm_p_goto (pc := 23) (off := 4) (by decide +kernel) (by decide)) ?_
      refine gm_sz (gm_p_const (pc := 27) (i := .iconst 1) (v := gm_vi 1) (by decide +kernel) (by decide +kernel)) ?_
      refine gm_c_virt (k := 226) (ci := 11) (mj := 282) (ix := 300) (pc := 28) (as := [gm_vi 1, gm_vi 1]) (st := []) (d' := d - 1) (bc' := 0) (bs' := 0) (by decide +kernel) (by decide +kernel) (by decide +kernel) (by decide +kernel) (e0k hE (k := 226) (c := 11) (by decide +kernel)).1 (e0k hE (k := 226) (c := 11) (by decide +kernel)).2 (by decide) (by decide +kernel) (show 2 = gm_na 282 by decide +kernel) (fw_c2 fw_si fw_si) (show 3 ≤ gm_ml 282 by decide +kernel) (Nat.le_of_ble_eq_true rfl) (by omega) (Nat.zero_le _) (Nat.zero_le _) ?_
      refine tf_1 hE ?_
      show gm_Wp X LX d _ _ 287 31 _ [gm_vi 1] n K _ _ Q
      refine fw_iffd (cc := .eq) (pc := 31) (off := 7) (by decide +kernel) (by decide) ⟨by decide, by decide⟩ (by decide) ?_
      refine gm_sz (gm_p_const (pc := 34) (i := .iconst 0) (v := gm_vi 0) (by decide +kernel) (by decide +kernel)) ?_
      refine gm_sz (gm_p_goto (pc := 35) (off := 9) (by decide +kernel) (by decide)) ?_
      exact gm_r_int (pc := 44) (by decide +kernel) (Or.inl (by decide +kernel)) (k1 (by omega) _ uM_at)
    · show gm_Wp X LX d _ _ 287 19 _ [gm_vi 0, gm_vr 226] n K _ _ Q
      have n16 : 0 ≤ x ∧ x < N 1 := n16
      refine fw_iftd (cc := .eq) (pc := 19) (off := 7) (by decide +kernel) (by decide) ⟨by decide, by decide⟩ (by decide) ?_
      refine gm_sz (gm_p_const (pc := 26) (i := .iconst 0) (v := gm_vi 0) (by decide +kernel) (by decide +kernel)) ?_
      refine gm_sz (gm_p_const (pc := 27) (i := .iconst 1) (v := gm_vi 1) (by decide +kernel) (by decide +kernel)) ?_
      refine gm_c_virt (k := 226) (ci := 11) (mj := 282) (ix := 300) (pc := 28) (as := [gm_vi 0, gm_vi 1]) (st := []) (d' := d - 1) (bc' := 0) (bs' := 0) (by decide +kernel) (by decide +kernel) (by decide +kernel) (by decide +kernel) (e0k hE (k := 226) (c := 11) (by decide +kernel)).1 (e0k hE (k := 226) (c := 11) (by decide +kernel)).2 (by decide) (by decide +kernel) (show 2 = gm_na 282 by decide +kernel) (fw_c2 fw_si fw_si) (show 3 ≤ gm_ml 282 by decide +kernel) (Nat.le_of_ble_eq_true rfl) (by omega) (Nat.zero_le _) (Nat.zero_le _) ?_
      refine tf_0 hE ?_
      show gm_Wp X LX d _ _ 287 31 _ [gm_vi 0] n K _ _ Q
      refine fw_iftd (cc := .eq) (pc := 31) (off := 7) (by decide +kernel) (by decide) ⟨by decide, by decide⟩ (by decide) ?_
      refine gm_sz (gm_p_load (pc := 38) (i := .aload_n 0) (sr := 2) (j := 0) (by decide +kernel) rfl rfl rfl) ?_
      refine gm_sz (gm_p_load (pc := 39) (i := .iload_n 1) (sr := 0) (j := 1) (by decide +kernel) rfl rfl rfl) ?_
      refine gm_sz (gm_p_load (pc := 40) (i := .iload_n 2) (sr := 0) (j := 2) (by decide +kernel) rfl rfl rfl) ?_
      refine gm_c_virt (k := 226) (ci := 11) (mj := 290) (ix := 338) (pc := 41) (as := [gm_vi l, gm_vi x]) (st := []) (d' := d - 1) (bc' := 0) (bs' := 0) (by decide +kernel) (by decide +kernel) (by decide +kernel) (by decide +kernel) (e0k hE (k := 226) (c := 11) (by decide +kernel)).1 (e0k hE (k := 226) (c := 11) (by decide +kernel)).2 (by decide) (by decide +kernel) (show 2 = gm_na 290 by decide +kernel) (fw_c2 fw_si fw_si) (show 3 ≤ gm_ml 290 by decide +kernel) (Nat.le_of_ble_eq_true rfl) (by omega) (Nat.zero_le _) (Nat.zero_le _) ?_
      refine re_c290 (lane := l) (row := x) hE (tr_fr (W := [(226, some 0)]) hT (fr_p fr_0 (Or.inr (by decide))) (by decide)) hN ⟨by omega, by omega⟩ ⟨by omega, by omega⟩ hS ?_
      show gm_Wp X LX d _ _ 287 44 _ [gm_vi (nsp N l x)] n K _ _ Q
      exact gm_r_int (pc := 44) (by decide +kernel) (Or.inl (by decide +kernel)) (kv ⟨⟨by omega, by omega⟩, ⟨by omega, by omega⟩⟩ _ uM_at)
end SQ50
