/-! THE CLASS'S READER OF A LAW, method by method (laid by wip/pp/p5c.py). -/
/-- what is kept of codes and LINES -/
def ctk (us lc : Int) (D C : Int → Int) : Prop := ((0 ≤ us ∧ us ≤ 400) ∧ 0 ≤ lc ∧ lc ≤ 12) ∧ (∀ j, 0 ≤ j → j < 48 → 0 ≤ D j ∧ D j ≤ 400) ∧ ∀ j, 0 ≤ j → j < 400 → gm_ir (C j)
/-- a method of one number that says whether G stands at the token -/
def cA (X : Int → Int) (LX n : Nat) (K : gm_K) (R : gm_R) (M : gm_M) (e lc : Int) (D : Int → Int) (mi : Nat) (vs : List gm_V) (G : Int → Bool × Int) (dn : Nat) : Prop := ∀ (d bc bs : Nat) (b us : Int) (C : Int → Int) (Q : gm_Q), dn ≤ d → 0 ≤ b ∧ b ≤ e → ctk us lc D C → (∀ us2 C2, ctk us2 lc D C2 → (G b).1 = true → Q (.inl (some (gm_vi 1))) n K R (ct M e (G b).2 (-1) us2 lc D C2)) → (∀ us2 C2, ctk us2 lc D C2 → ¬ (G b).1 = true → Q (.inl (some (gm_vi 0))) n K R (ct M e (G b).2 (G b).2 us2 lc D C2)) → gm_Wp X LX d bc bs mi 0 (gm_ent mi vs) [] n K R (ct M e b (-1) us lc D C) Q
section CL
variable {X : Int → Int} {LX d bc bs n : Nat} {K : gm_K} {R : gm_R} {M : gm_M} {Q : gm_Q} {e b w us lc x : Int} {D C : Int → Int}
theorem tx_c99 (hE : tx_E n K R M e) (hok : ctk us lc D C) (hx : gm_ir x) (hq : ∀ us2 C2, ctk us2 lc D C2 → Q (.inl none) n K R (ct M e b w us2 lc D C2)) : gm_Wp X LX d bc bs 99 0 (gm_ent 99 [gm_vr 215, gm_vi x]) [] n K R (ct M e b w us lc D C) Q := by
  obtain ⟨⟨⟨u1, u2⟩, u3⟩, u4, u5⟩ := id hok
  refine gm_sz (gm_p_load (pc := 0) (i := .aload_n 0) (sr := 2) (j := 0) (by decide +kernel) rfl rfl rfl) ?_
  refine gm_sz (fw_gi (pc := 1) (ix := 24) (ci := 9) (j := 4) (x := us) (by decide +kernel) (tE215c hE) (by decide +kernel) (by decide +kernel) rfl) ?_
  refine gm_sz (gm_p_load (pc := 4) (i := .aload_n 0) (sr := 2) (j := 0) (by decide +kernel) rfl rfl rfl) ?_
  refine gm_sz (fw_gr (pc := 5) (ix := 20) (ci := 9) (j := 3) (r := 219) (by decide +kernel) (tE215c hE) (by decide +kernel) (by decide +kernel) (tEr hE).2.2.2.1) ?_
  refine gm_sz (fw_al (pc := 8) (k := 219) (len := 400) (by decide +kernel) (tE219 hE).1 (tE219 hE).2 (by decide)) ?_
  refine fw_ic (cc := .ge) (pc := 9) (off := 23) (by decide +kernel) (by decide) ⟨by omega, by omega⟩ ⟨by decide, by decide⟩ (fun j1 => ?_) (fun j1 => ?_)
  · have j1 : 400 ≤ us := j1
    exact gm_r_void (pc := 32) (by decide +kernel) (by decide +kernel) (hq us C hok)
  · have j1 : ¬ 400 ≤ us := j1
    refine gm_sz (gm_p_load (pc := 12) (i := .aload_n 0) (sr := 2) (j := 0) (by decide +kernel) rfl rfl rfl) ?_
    refine gm_sz (fw_gr (pc := 13) (ix := 20) (ci := 9) (j := 3) (r := 219) (by decide +kernel) (tE215c hE) (by decide +kernel) (by decide +kernel) (tEr hE).2.2.2.1) ?_
    refine gm_sz (gm_p_load (pc := 16) (i := .aload_n 0) (sr := 2) (j := 0) (by decide +kernel) rfl rfl rfl) ?_
    refine gm_sz (fw_gi (pc := 17) (ix := 24) (ci := 9) (j := 4) (x := us) (by decide +kernel) (tE215c hE) (by decide +kernel) (by decide +kernel) rfl) ?_
    refine gm_sz (gm_p_load (pc := 20) (i := .iload_n 1) (sr := 0) (j := 1) (by decide +kernel) rfl rfl rfl) ?_
    refine gm_sz (fw_is (pc := 21) (k := 219) (len := 400) (e0 := us) (x := x) (M' := ct M e b w us lc D (fun z => if z = us then x else C z)) (by decide +kernel) (tE219 hE).1 (tE219 hE).2 (by decide) ⟨by omega, by omega⟩ ct_C) ?_
    refine gm_sz (gm_p_load (pc := 22) (i := .aload_n 0) (sr := 2) (j := 0) (by decide +kernel) rfl rfl rfl) ?_
    refine gm_sz (gm_p_dup (pc := 23) (by decide +kernel) fw_sr) ?_
    refine gm_sz (fw_gi (pc := 24) (ix := 24) (ci := 9) (j := 4) (x := us) (by decide +kernel) (tE215c hE) (by decide +kernel) (by decide +kernel) rfl) ?_
    refine gm_sz (gm_p_const (pc := 27) (i := .iconst 1) (v := gm_vi 1) (by decide +kernel) (by decide +kernel)) ?_
    refine gm_sz (gm_p_bin (pc := 28) (i := .iadd) (f := fun x y => x + y) (by decide +kernel) rfl) ?_
    refine gm_sz (fw_pi (pc := 29) (ix := 24) (ci := 9) (j := 4) (M' := ct M e b w (us + 1) lc D (fun z => if z = us then x else C z)) (by decide +kernel) (tE215c hE) (by decide +kernel) (by decide +kernel) (by decide +kernel) ct_us) ?_
    refine gm_r_void (pc := 32) (by decide +kernel) (by decide +kernel) (hq _ _ ⟨⟨⟨by omega, by omega⟩, u3⟩, u4, fun j h1 h2 => ?_⟩)
    show gm_ir (if j = us then x else C j)
    split
    · exact hx
    · exact u5 j h1 h2
theorem tx_c101 (hd : 6 ≤ d) (hE : tx_E n K R M e) (hb : 0 ≤ b ∧ b ≤ e) (h1 : ∀ c, -9 ≤ c → c ≤ -2 → g_fact (M 2) e b → Q (.inl (some (gm_vi c))) n K R (ct M e b w us lc D C)) (h0 : ¬ g_fact (M 2) e b → Q (.inl (some (gm_vi (-1)))) n K R (ct M e b w us lc D C)) : gm_Wp X LX d bc bs 101 0 (gm_ent 101 [gm_vr 215]) [] n K R (ct M e b w us lc D C) Q := by
  obtain ⟨-, he0, he4⟩ := tEe hE
  refine gm_sz (gm_p_load (pc := 0) (i := .aload_n 0) (sr := 2) (j := 0) (by decide +kernel) rfl rfl rfl) ?_
  refine gm_sz (fw_gr (pc := 1) (ix := 47) (ci := 9) (j := 0) (r := 216) (by decide +kernel) (tE215c hE) (by decide +kernel) (by decide +kernel) (tEr hE).2.1) ?_
  refine gm_sz (gm_p_ldcs (pc := 4) (i := .ldc 122) (ix := 122) (id := 7) (by decide +kernel) (Or.inl rfl) (by decide +kernel)) ?_
  refine gm_c_virt (k := 216) (ci := 8) (mj := 81) (ix := 84) (pc := 6) (as := [gm_vo 7]) (st := []) (d' := d - 1) (bc' := 0) (bs' := 0) (by decide +kernel) (by decide +kernel) (by decide +kernel) (by decide +kernel) (tE216c hE).1 (tE216c hE).2 (by decide) (by decide +kernel) (show 1 = gm_na 81 by decide +kernel) (fw_c1 fw_so) (show 2 ≤ gm_ml 81 by decide +kernel) (Nat.le_of_ble_eq_true rfl) (by omega) (Nat.zero_le _) (Nat.zero_le _) ?_
  refine tx_c81 (by omega) hE (by decide) (show tx_o 7 = wo_lane by decide +kernel) hb (fun j1 => ?_) (fun j1 => ?_)
  · show gm_Wp X LX d _ _ 101 9 _ [gm_vi 1] n K R _ Q
    have j1 : tx_is (M 2) e b wo_lane := j1
    refine fw_iffd (cc := .eq) (pc := 9) (off := 6) (by decide +kernel) (by decide) ⟨by decide, by decide⟩ (by decide) ?_
    refine gm_sz (gm_p_const (pc := 12) (i := .bipush (-2)) (v := gm_vi (-2)) (by decide +kernel) (by decide +kernel)) ?_
    exact gm_r_int (pc := 14) (by decide +kernel) (Or.inl (by decide +kernel)) (h1 _ (by decide) (by decide) (Or.inl j1))
  · show gm_Wp X LX d _ _ 101 9 _ [gm_vi 0] n K R _ Q
    have j1 : ¬ tx_is (M 2) e b wo_lane := j1
    refine fw_iftd (cc := .eq) (pc := 9) (off := 6) (by decide +kernel) (by decide) ⟨by decide, by decide⟩ (by decide) ?_
    refine gm_sz (gm_p_load (pc := 15) (i := .aload_n 0) (sr := 2) (j := 0) (by decide +kernel) rfl rfl rfl) ?_
    refine gm_sz (fw_gr (pc := 16) (ix := 47) (ci := 9) (j := 0) (r := 216) (by decide +kernel) (tE215c hE) (by decide +kernel) (by decide +kernel) (tEr hE).2.1) ?_
    refine gm_sz (gm_p_ldcs (pc := 19) (i := .ldc 124) (ix := 124) (id := 8) (by decide +kernel) (Or.inl rfl) (by decide +kernel)) ?_
    refine gm_c_virt (k := 216) (ci := 8) (mj := 81) (ix := 84) (pc := 21) (as := [gm_vo 8]) (st := []) (d' := d - 1) (bc' := 0) (bs' := 0) (by decide +kernel) (by decide +kernel) (by decide +kernel) (by decide +kernel) (tE216c hE).1 (tE216c hE).2 (by decide) (by decide +kernel) (show 1 = gm_na 81 by decide +kernel) (fw_c1 fw_so) (show 2 ≤ gm_ml 81 by decide +kernel) (Nat.le_of_ble_eq_true rfl) (by omega) (Nat.zero_le _) (Nat.zero_le _) ?_
    refine tx_c81 (by omega) hE (by decide) (show tx_o 8 = wo_row by decide +kernel) hb (fun j2 => ?_) (fun j2 => ?_)
    · show gm_Wp X LX d _ _ 101 24 _ [gm_vi 1] n K R _ Q
      have j2 : tx_is (M 2) e b wo_row := j2
      refine fw_iffd (cc := .eq) (pc := 24) (off := 6) (by decide +kernel) (by decide) ⟨by decide, by decide⟩ (by decide) ?_
      refine gm_sz (gm_p_const (pc := 27) (i := .bipush (-3)) (v := gm_vi (-3)) (by decide +kernel) (by decide +kernel)) ?_
      exact gm_r_int (pc := 29) (by decide +kernel) (Or.inl (by decide +kernel)) (h1 _ (by decide) (by decide) (Or.inr (Or.inl j2)))
    · show gm_Wp X LX d _ _ 101 24 _ [gm_vi 0] n K R _ Q
      have j2 : ¬ tx_is (M 2) e b wo_row := j2
      refine fw_iftd (cc := .eq) (pc := 24) (off := 6) (by decide +kernel) (by decide) ⟨by decide, by decide⟩ (by decide) ?_
      refine gm_sz (gm_p_load (pc := 30) (i := .aload_n 0) (sr := 2) (j := 0) (by decide +kernel) rfl rfl rfl) ?_
      refine gm_sz (fw_gr (pc := 31) (ix := 47) (ci := 9) (j := 0) (r := 216) (by decide +kernel) (tE215c hE) (by decide +kernel) (by decide +kernel) (tEr hE).2.1) ?_
      refine gm_sz (gm_p_ldcs (pc := 34) (i := .ldc 126) (ix := 126) (id := 9) (by decide +kernel) (Or.inl rfl) (by decide +kernel)) ?_
      refine gm_c_virt (k := 216) (ci := 8) (mj := 81) (ix := 84) (pc := 36) (as := [gm_vo 9]) (st := []) (d' := d - 1) (bc' := 0) (bs' := 0) (by decide +kernel) (by decide +kernel) (by decide +kernel) (by decide +kernel) (tE216c hE).1 (tE216c hE).2 (by decide) (by decide +kernel) (show 1 = gm_na 81 by decide +kernel) (fw_c1 fw_so) (show 2 ≤ gm_ml 81 by decide +kernel) (Nat.le_of_ble_eq_true rfl) (by omega) (Nat.zero_le _) (Nat.zero_le _) ?_
      refine tx_c81 (by omega) hE (by decide) (show tx_o 9 = wo_year by decide +kernel) hb (fun j3 => ?_) (fun j3 => ?_)
      · show gm_Wp X LX d _ _ 101 39 _ [gm_vi 1] n K R _ Q
        have j3 : tx_is (M 2) e b wo_year := j3
        refine fw_iffd (cc := .eq) (pc := 39) (off := 6) (by decide +kernel) (by decide) ⟨by decide, by decide⟩ (by decide) ?_
        refine gm_sz (gm_p_const (pc := 42) (i := .bipush (-4)) (v := gm_vi (-4)) (by decide +kernel) (by decide +kernel)) ?_
        exact gm_r_int (pc := 44) (by decide +kernel) (Or.inl (by decide +kernel)) (h1 _ (by decide) (by decide) (Or.inr (Or.inr (Or.inl j3))))
      · show gm_Wp X LX d _ _ 101 39 _ [gm_vi 0] n K R _ Q
        have j3 : ¬ tx_is (M 2) e b wo_year := j3
        refine fw_iftd (cc := .eq) (pc := 39) (off := 6) (by decide +kernel) (by decide) ⟨by decide, by decide⟩ (by decide) ?_
        refine gm_sz (gm_p_load (pc := 45) (i := .aload_n 0) (sr := 2) (j := 0) (by decide +kernel) rfl rfl rfl) ?_
        refine gm_sz (fw_gr (pc := 46) (ix := 47) (ci := 9) (j := 0) (r := 216) (by decide +kernel) (tE215c hE) (by decide +kernel) (by decide +kernel) (tEr hE).2.1) ?_
        refine gm_sz (gm_p_ldcs (pc := 49) (i := .ldc 128) (ix := 128) (id := 10) (by decide +kernel) (Or.inl rfl) (by decide +kernel)) ?_
        refine gm_c_virt (k := 216) (ci := 8) (mj := 81) (ix := 84) (pc := 51) (as := [gm_vo 10]) (st := []) (d' := d - 1) (bc' := 0) (bs' := 0) (by decide +kernel) (by decide +kernel) (by decide +kernel) (by decide +kernel) (tE216c hE).1 (tE216c hE).2 (by decide) (by decide +kernel) (show 1 = gm_na 81 by decide +kernel) (fw_c1 fw_so) (show 2 ≤ gm_ml 81 by decide +kernel) (Nat.le_of_ble_eq_true rfl) (by omega) (Nat.zero_le _) (Nat.zero_le _) ?_
        refine tx_c81 (by omega) hE (by decide) (show tx_o 10 = wo_heat by decide +kernel) hb (fun j4 => ?_) (fun j4 => ?_)
        · show gm_Wp X LX d _ _ 101 54 _ [gm_vi 1] n K R _ Q
          have j4 : tx_is (M 2) e b wo_heat := j4
          refine fw_iffd (cc := .eq) (pc := 54) (off := 6) (by decide +kernel) (by decide) ⟨by decide, by decide⟩ (by decide) ?_
          refine gm_sz (gm_p_const (pc := 57) (i := .bipush (-5)) (v := gm_vi (-5)) (by decide +kernel) (by decide +kernel)) ?_
          exact gm_r_int (pc := 59) (by decide +kernel) (Or.inl (by decide +kernel)) (h1 _ (by decide) (by decide) (Or.inr (Or.inr (Or.inr (Or.inl j4)))))
        · show gm_Wp X LX d _ _ 101 54 _ [gm_vi 0] n K R _ Q
          have j4 : ¬ tx_is (M 2) e b wo_heat := j4
          refine fw_iftd (cc := .eq) (pc := 54) (off := 6) (by decide +kernel) (by decide) ⟨by decide, by decide⟩ (by decide) ?_
          refine gm_sz (gm_p_load (pc := 60) (i := .aload_n 0) (sr := 2) (j := 0) (by decide +kernel) rfl rfl rfl) ?_
          refine gm_sz (fw_gr (pc := 61) (ix := 47) (ci := 9) (j := 0) (r := 216) (by decide +kernel) (tE215c hE) (by decide +kernel) (by decide +kernel) (tEr hE).2.1) ?_
          refine gm_sz (gm_p_ldcs (pc := 64) (i := .ldc 130) (ix := 130) (id := 11) (by decide +kernel) (Or.inl rfl) (by decide +kernel)) ?_
          refine gm_c_virt (k := 216) (ci := 8) (mj := 81) (ix := 84) (pc := 66) (as := [gm_vo 11]) (st := []) (d' := d - 1) (bc' := 0) (bs' := 0) (by decide +kernel) (by decide +kernel) (by decide +kernel) (by decide +kernel) (tE216c hE).1 (tE216c hE).2 (by decide) (by decide +kernel) (show 1 = gm_na 81 by decide +kernel) (fw_c1 fw_so) (show 2 ≤ gm_ml 81 by decide +kernel) (Nat.le_of_ble_eq_true rfl) (by omega) (Nat.zero_le _) (Nat.zero_le _) ?_
          refine tx_c81 (by omega) hE (by decide) (show tx_o 11 = wo_speed by decide +kernel) hb (fun j5 => ?_) (fun j5 => ?_)
          · show gm_Wp X LX d _ _ 101 69 _ [gm_vi 1] n K R _ Q
            have j5 : tx_is (M 2) e b wo_speed := j5
            refine fw_iffd (cc := .eq) (pc := 69) (off := 6) (by decide +kernel) (by decide) ⟨by decide, by decide⟩ (by decide) ?_
            refine gm_sz (gm_p_const (pc := 72) (i := .bipush (-6)) (v := gm_vi (-6)) (by decide +kernel) (by decide +kernel)) ?_
            exact gm_r_int (pc := 74) (by decide +kernel) (Or.inl (by decide +kernel)) (h1 _ (by decide) (by decide) (Or.inr (Or.inr (Or.inr (Or.inr (Or.inl j5))))))
          · show gm_Wp X LX d _ _ 101 69 _ [gm_vi 0] n K R _ Q
            have j5 : ¬ tx_is (M 2) e b wo_speed := j5
            refine fw_iftd (cc := .eq) (pc := 69) (off := 6) (by decide +kernel) (by decide) ⟨by decide, by decide⟩ (by decide) ?_
            refine gm_sz (gm_p_load (pc := 75) (i := .aload_n 0) (sr := 2) (j := 0) (by decide +kernel) rfl rfl rfl) ?_
            refine gm_sz (fw_gr (pc := 76) (ix := 47) (ci := 9) (j := 0) (r := 216) (by decide +kernel) (tE215c hE) (by decide +kernel) (by decide +kernel) (tEr hE).2.1) ?_
            refine gm_sz (gm_p_ldcs (pc := 79) (i := .ldc 132) (ix := 132) (id := 12) (by decide +kernel) (Or.inl rfl) (by decide +kernel)) ?_
            refine gm_c_virt (k := 216) (ci := 8) (mj := 81) (ix := 84) (pc := 81) (as := [gm_vo 12]) (st := []) (d' := d - 1) (bc' := 0) (bs' := 0) (by decide +kernel) (by decide +kernel) (by decide +kernel) (by decide +kernel) (tE216c hE).1 (tE216c hE).2 (by decide) (by decide +kernel) (show 1 = gm_na 81 by decide +kernel) (fw_c1 fw_so) (show 2 ≤ gm_ml 81 by decide +kernel) (Nat.le_of_ble_eq_true rfl) (by omega) (Nat.zero_le _) (Nat.zero_le _) ?_
            refine tx_c81 (by omega) hE (by decide) (show tx_o 12 = wo_person by decide +kernel) hb (fun j6 => ?_) (fun j6 => ?_)
            · show gm_Wp X LX d _ _ 101 84 _ [gm_vi 1] n K R _ Q
              have j6 : tx_is (M 2) e b wo_person := j6
              refine fw_iffd (cc := .eq) (pc := 84) (off := 6) (by decide +kernel) (by decide) ⟨by decide, by decide⟩ (by decide) ?_
              refine gm_sz (gm_p_const (pc := 87) (i := .bipush (-7)) (v := gm_vi (-7)) (by decide +kernel) (by decide +kernel)) ?_
              exact gm_r_int (pc := 89) (by decide +kernel) (Or.inl (by decide +kernel)) (h1 _ (by decide) (by decide) (Or.inr (Or.inr (Or.inr (Or.inr (Or.inr (Or.inl j6)))))))
            · show gm_Wp X LX d _ _ 101 84 _ [gm_vi 0] n K R _ Q
              have j6 : ¬ tx_is (M 2) e b wo_person := j6
              refine fw_iftd (cc := .eq) (pc := 84) (off := 6) (by decide +kernel) (by decide) ⟨by decide, by decide⟩ (by decide) ?_
              refine gm_sz (gm_p_load (pc := 90) (i := .aload_n 0) (sr := 2) (j := 0) (by decide +kernel) rfl rfl rfl) ?_
              refine gm_sz (fw_gr (pc := 91) (ix := 47) (ci := 9) (j := 0) (r := 216) (by decide +kernel) (tE215c hE) (by decide +kernel) (by decide +kernel) (tEr hE).2.1) ?_
              refine gm_sz (gm_p_ldcs (pc := 94) (i := .ldc 134) (ix := 134) (id := 13) (by decide +kernel) (Or.inl rfl) (by decide +kernel)) ?_
              refine gm_c_virt (k := 216) (ci := 8) (mj := 81) (ix := 84) (pc := 96) (as := [gm_vo 13]) (st := []) (d' := d - 1) (bc' := 0) (bs' := 0) (by decide +kernel) (by decide +kernel) (by decide +kernel) (by decide +kernel) (tE216c hE).1 (tE216c hE).2 (by decide) (by decide +kernel) (show 1 = gm_na 81 by decide +kernel) (fw_c1 fw_so) (show 2 ≤ gm_ml 81 by decide +kernel) (Nat.le_of_ble_eq_true rfl) (by omega) (Nat.zero_le _) (Nat.zero_le _) ?_
              refine tx_c81 (by omega) hE (by decide) (show tx_o 13 = wo_age by decide +kernel) hb (fun j7 => ?_) (fun j7 => ?_)
              · show gm_Wp X LX d _ _ 101 99 _ [gm_vi 1] n K R _ Q
                have j7 : tx_is (M 2) e b wo_age := j7
                refine fw_iffd (cc := .eq) (pc := 99) (off := 6) (by decide +kernel) (by decide) ⟨by decide, by decide⟩ (by decide) ?_
                refine gm_sz (gm_p_const (pc := 102) (i := .bipush (-8)) (v := gm_vi (-8)) (by decide +kernel) (by decide +kernel)) ?_
                exact gm_r_int (pc := 104) (by decide +kernel) (Or.inl (by decide +kernel)) (h1 _ (by decide) (by decide) (Or.inr (Or.inr (Or.inr (Or.inr (Or.inr (Or.inr (Or.inl j7))))))))
              · show gm_Wp X LX d _ _ 101 99 _ [gm_vi 0] n K R _ Q
                have j7 : ¬ tx_is (M 2) e b wo_age := j7
                refine fw_iftd (cc := .eq) (pc := 99) (off := 6) (by decide +kernel) (by decide) ⟨by decide, by decide⟩ (by decide) ?_
                refine gm_sz (gm_p_load (pc := 105) (i := .aload_n 0) (sr := 2) (j := 0) (by decide +kernel) rfl rfl rfl) ?_
                refine gm_sz (fw_gr (pc := 106) (ix := 47) (ci := 9) (j := 0) (r := 216) (by decide +kernel) (tE215c hE) (by decide +kernel) (by decide +kernel) (tEr hE).2.1) ?_
                refine gm_sz (gm_p_ldcs (pc := 109) (i := .ldc 136) (ix := 136) (id := 14) (by decide +kernel) (Or.inl rfl) (by decide +kernel)) ?_
                refine gm_c_virt (k := 216) (ci := 8) (mj := 81) (ix := 84) (pc := 111) (as := [gm_vo 14]) (st := []) (d' := d - 1) (bc' := 0) (bs' := 0) (by decide +kernel) (by decide +kernel) (by decide +kernel) (by decide +kernel) (tE216c hE).1 (tE216c hE).2 (by decide) (by decide +kernel) (show 1 = gm_na 81 by decide +kernel) (fw_c1 fw_so) (show 2 ≤ gm_ml 81 by decide +kernel) (Nat.le_of_ble_eq_true rfl) (by omega) (Nat.zero_le _) (Nat.zero_le _) ?_
                refine tx_c81 (by omega) hE (by decide) (show tx_o 14 = wo_deep by decide +kernel) hb (fun j8 => ?_) (fun j8 => ?_)
                · show gm_Wp X LX d _ _ 101 114 _ [gm_vi 1] n K R _ Q
                  have j8 : tx_is (M 2) e b wo_deep := j8
                  refine fw_iffd (cc := .eq) (pc := 114) (off := 8) (by decide +kernel) (by decide) ⟨by decide, by decide⟩ (by decide) ?_
                  refine gm_sz (gm_p_const (pc := 117) (i := .bipush (-9)) (v := gm_vi (-9)) (by decide +kernel) (by decide +kernel)) ?_
                  refine gm_sz (gm_p_goto (pc := 119) (off := 4) (by decide +kernel) (by decide)) ?_
                  exact gm_r_int (pc := 123) (by decide +kernel) (Or.inl (by decide +kernel)) (h1 _ (by decide) (by decide) (Or.inr (Or.inr (Or.inr (Or.inr (Or.inr (Or.inr (Or.inr (j8)))))))))
                · show gm_Wp X LX d _ _ 101 114 _ [gm_vi 0] n K R _ Q
                  have j8 : ¬ tx_is (M 2) e b wo_deep := j8
                  refine fw_iftd (cc := .eq) (pc := 114) (off := 8) (by decide +kernel) (by decide) ⟨by decide, by decide⟩ (by decide) ?_
                  refine gm_sz (gm_p_const (pc := 122) (i := .iconst (-1)) (v := gm_vi (-1)) (by decide +kernel) (by decide +kernel)) ?_
                  exact gm_r_int (pc := 123) (by decide +kernel) (Or.inl (by decide +kernel)) (h0 fun hh => by rcases hh with hh | hh | hh | hh | hh | hh | hh | hh <;> contradiction)
theorem g_sum0 {f : Int → Int} {t : Nat} (h : ¬ g_pt f e b) : g_sum f e (t + 1) b = (false, b) := tif_f h
theorem g_sum1 {f : Int → Int} {t : Nat} (h : g_pt f e b) (h2 : ¬ tx_k f e (tx_n f e b) = 43) : g_sum f e (t + 1) b = (true, tx_n f e b) := by
  unfold g_sum
  rw [tif_t h, tif_f h2]
theorem g_sum2 {f : Int → Int} {t : Nat} (h : g_pt f e b) (h2 : tx_k f e (tx_n f e b) = 43) : g_sum f e (t + 1) b = g_sum f e t (tx_n f e (tx_n f e b)) := by
  show tif (g_pt f e b) _ _ = _
  rw [tif_t h, tif_t h2]
theorem tx_s100 (hd : 8 ≤ d) (hE : tx_E n K R M e) : ∀ (t : Nat) (i b us : Int) (C : Int → Int) (z : Option gm_V), i + t = 400 → 0 ≤ i → 0 ≤ b ∧ b ≤ e → ctk us lc D C → (∀ us2 C2, ctk us2 lc D C2 → (g_sum (M 2) e t b).1 = true → Q (.inl (some (gm_vi 1))) n K R (ct M e (g_sum (M 2) e t b).2 (-1) us2 lc D C2)) → (∀ us2 C2, ctk us2 lc D C2 → ¬ (g_sum (M 2) e t b).1 = true → Q (.inl (some (gm_vi 0))) n K R (ct M e (g_sum (M 2) e t b).2 (g_sum (M 2) e t b).2 us2 lc D C2)) → gm_Wp X LX d bc bs 100 2 [some (gm_vr 215), some (gm_vi i), z] [] n K R (ct M e b (-1) us lc D C) Q := by
  obtain ⟨-, he0, he4⟩ := tEe hE
  intro t
  induction t with
  | zero =>
    intro i b us C z hit hi0 hb hok h1 h0
    refine gm_sz (gm_p_load (pc := 2) (i := .iload_n 1) (sr := 0) (j := 1) (by decide +kernel) rfl rfl rfl) ?_
    refine gm_sz (gm_p_const (pc := 3) (i := .sipush 400) (v := gm_vi 400) (by decide +kernel) (by decide +kernel)) ?_
    refine fw_ict (cc := .ge) (pc := 6) (off := 83) (by decide +kernel) (by decide) ⟨by omega, by omega⟩ ⟨by decide, by decide⟩ (show 400 ≤ i by omega) ?_
    refine gm_sz (gm_p_load (pc := 89) (i := .aload_n 0) (sr := 2) (j := 0) (by decide +kernel) rfl rfl rfl) ?_
    refine gm_sz (fw_gr (pc := 90) (ix := 47) (ci := 9) (j := 0) (r := 216) (by decide +kernel) (tE215c hE) (by decide +kernel) (by decide +kernel) (tEr hE).2.1) ?_
    refine gm_c_virt (k := 216) (ci := 8) (mj := 93) (ix := 51) (pc := 93) (as := []) (st := []) (d' := d - 1) (bc' := 0) (bs' := 0) (by decide +kernel) (by decide +kernel) (by decide +kernel) (by decide +kernel) (tE216c hE).1 (tE216c hE).2 (by decide) (by decide +kernel) (show 0 = gm_na 93 by decide +kernel) fw_c0 (show 1 ≤ gm_ml 93 by decide +kernel) (Nat.le_of_ble_eq_true rfl) (by omega) (Nat.zero_le _) (Nat.zero_le _) ?_
    refine tx_c93 hE hb ?_
    show gm_Wp X LX d _ _ 100 96 _ [gm_vi 0] n K R _ Q
    exact gm_r_int (pc := 96) (by decide +kernel) (Or.inr ⟨(by decide +kernel), Or.inl rfl⟩) (h0 us C hok (fun h => by cases h))
  | succ t ih =>
    intro i b us C z hit hi0 hb hok h1 h0
    have hkb := tx_kc (f := M 2) (e := e) (b := b) (fun h => tEb hE hb.1 (by omega))
    have hvb := tx_vb (f := M 2) (e := e) (m := 3) (b := b) (by decide)
    have hgb := tx_nb (f := M 2) hb.2
    have hgk := tx_kc (f := M 2) (e := e) (b := tx_n (M 2) e b) (fun h => tEb hE (by omega) (by omega))
    refine gm_sz (gm_p_load (pc := 2) (i := .iload_n 1) (sr := 0) (j := 1) (by decide +kernel) rfl rfl rfl) ?_
    refine gm_sz (gm_p_const (pc := 3) (i := .sipush 400) (v := gm_vi 400) (by decide +kernel) (by decide +kernel)) ?_
    refine fw_icf (cc := .ge) (pc := 6) (off := 83) (by decide +kernel) (by decide) ⟨by omega, by omega⟩ ⟨by decide, by decide⟩ (show ¬ 400 ≤ i by omega) ?_
    refine gm_sz (gm_p_load (pc := 9) (i := .aload_n 0) (sr := 2) (j := 0) (by decide +kernel) rfl rfl rfl) ?_
    refine gm_sz (fw_gr (pc := 10) (ix := 47) (ci := 9) (j := 0) (r := 216) (by decide +kernel) (tE215c hE) (by decide +kernel) (by decide +kernel) (tEr hE).2.1) ?_
    refine gm_sz (fw_gi (pc := 13) (ix := 102) (ci := 8) (j := 6) (x := tx_k (M 2) e b) (by decide +kernel) (tE216c hE) (by decide +kernel) (by decide +kernel) rfl) ?_
    refine gm_sz (gm_p_const (pc := 16) (i := .sipush 258) (v := gm_vi 258) (by decide +kernel) (by decide +kernel)) ?_
    refine fw_ic (cc := .ne) (pc := 19) (off := 13) (by decide +kernel) (by decide) ⟨by omega, by omega⟩ ⟨by decide, by decide⟩ (fun j1 => ?_) (fun j1 => ?_)
    · have j1 : ¬ (tx_k (M 2) e b) = 258 := j1
      refine gm_sz (gm_p_load (pc := 32) (i := .aload_n 0) (sr := 2) (j := 0) (by decide +kernel) rfl rfl rfl) ?_
      refine gm_c_virt (k := 215) (ci := 9) (mj := 101) (ix := 119) (pc := 33) (as := []) (st := []) (d' := d - 1) (bc' := 0) (bs' := 0) (by decide +kernel) (by decide +kernel) (by decide +kernel) (by decide +kernel) (tE215c hE).1 (tE215c hE).2 (by decide) (by decide +kernel) (show 0 = gm_na 101 by decide +kernel) fw_c0 (show 1 ≤ gm_ml 101 by decide +kernel) (Nat.le_of_ble_eq_true rfl) (by omega) (Nat.zero_le _) (Nat.zero_le _) ?_
      refine tx_c101 (by omega) hE hb (fun c2 j3 j4 j5 => ?_) (fun j5 => ?_)
      · show gm_Wp X LX d _ _ 100 36 _ [gm_vi c2] n K R _ Q
        have j3 : -9 ≤ c2 := j3
        have j4 : c2 ≤ -2 := j4
        have j5 : g_fact (M 2) e b := j5
        have j5k := g_fk j5
        refine gm_sz (gm_p_stor (pc := 36) (i := .istore_n 2) (sr := 0) (j := 2) (by decide +kernel) rfl (show 3 ≤ _ from Nat.le_of_ble_eq_true rfl) rfl) ?_
        refine gm_sz (gm_p_load (pc := 37) (i := .iload_n 2) (sr := 0) (j := 2) (by decide +kernel) rfl rfl rfl) ?_
        refine gm_sz (gm_p_const (pc := 38) (i := .iconst (-1)) (v := gm_vi (-1)) (by decide +kernel) (by decide +kernel)) ?_
        refine fw_ict (cc := .ne) (pc := 39) (off := 11) (by decide +kernel) (by decide) ⟨by omega, by omega⟩ ⟨by decide, by decide⟩ (show ¬ c2 = (-1) by omega) ?_
        refine gm_sz (gm_p_load (pc := 50) (i := .aload_n 0) (sr := 2) (j := 0) (by decide +kernel) rfl rfl rfl) ?_
        refine gm_sz (gm_p_load (pc := 51) (i := .iload_n 2) (sr := 0) (j := 2) (by decide +kernel) rfl rfl rfl) ?_
        refine gm_c_virt (k := 215) (ci := 9) (mj := 99) (ix := 94) (pc := 52) (as := [gm_vi c2]) (st := []) (d' := d - 1) (bc' := 0) (bs' := 0) (by decide +kernel) (by decide +kernel) (by decide +kernel) (by decide +kernel) (tE215c hE).1 (tE215c hE).2 (by decide) (by decide +kernel) (show 1 = gm_na 99 by decide +kernel) (fw_c1 fw_si) (show 2 ≤ gm_ml 99 by decide +kernel) (Nat.le_of_ble_eq_true rfl) (by omega) (Nat.zero_le _) (Nat.zero_le _) ?_
        refine tx_c99 hE hok ⟨by omega, by omega⟩ (fun u6 C7 k8 => ?_)
        show gm_Wp X LX d _ _ 100 55 _ [] n K R _ Q
        refine gm_sz (gm_p_load (pc := 55) (i := .aload_n 0) (sr := 2) (j := 0) (by decide +kernel) rfl rfl rfl) ?_
        refine gm_sz (fw_gr (pc := 56) (ix := 47) (ci := 9) (j := 0) (r := 216) (by decide +kernel) (tE215c hE) (by decide +kernel) (by decide +kernel) (tEr hE).2.1) ?_
        refine gm_c_virt (k := 216) (ci := 8) (mj := 76) (ix := 57) (pc := 59) (as := []) (st := []) (d' := d - 1) (bc' := 0) (bs' := 0) (by decide +kernel) (by decide +kernel) (by decide +kernel) (by decide +kernel) (tE216c hE).1 (tE216c hE).2 (by decide) (by decide +kernel) (show 0 = gm_na 76 by decide +kernel) fw_c0 (show 1 ≤ gm_ml 76 by decide +kernel) (Nat.le_of_ble_eq_true rfl) (by omega) (Nat.zero_le _) (Nat.zero_le _) ?_
        refine tx_c76 (by omega) hE hb ?_
        show gm_Wp X LX d _ _ 100 62 _ [] n K R _ Q
        have g9 : 0 ≤ tx_n (M 2) e b ∧ tx_n (M 2) e b ≤ e := by have := tx_nb (f := M 2) (b := b) hb.2; omega
        refine gm_sz (gm_p_load (pc := 62) (i := .aload_n 0) (sr := 2) (j := 0) (by decide +kernel) rfl rfl rfl) ?_
        refine gm_sz (fw_gr (pc := 63) (ix := 47) (ci := 9) (j := 0) (r := 216) (by decide +kernel) (tE215c hE) (by decide +kernel) (by decide +kernel) (tEr hE).2.1) ?_
        refine gm_sz (fw_gi (pc := 66) (ix := 102) (ci := 8) (j := 6) (x := tx_k (M 2) e (tx_n (M 2) e b)) (by decide +kernel) (tE216c hE) (by decide +kernel) (by decide +kernel) rfl) ?_
        refine gm_sz (gm_p_const (pc := 69) (i := .bipush 43) (v := gm_vi 43) (by decide +kernel) (by decide +kernel)) ?_
        refine fw_ic (cc := .eq) (pc := 71) (off := 5) (by decide +kernel) (by decide) ⟨by omega, by omega⟩ ⟨by decide, by decide⟩ (fun j10 => ?_) (fun j10 => ?_)
        · have j10 : (tx_k (M 2) e (tx_n (M 2) e b)) = 43 := j10
          refine gm_sz (gm_p_load (pc := 76) (i := .aload_n 0) (sr := 2) (j := 0) (by decide +kernel) rfl rfl rfl) ?_
          refine gm_sz (fw_gr (pc := 77) (ix := 47) (ci := 9) (j := 0) (r := 216) (by decide +kernel) (tE215c hE) (by decide +kernel) (by decide +kernel) (tEr hE).2.1) ?_
          refine gm_c_virt (k := 216) (ci := 8) (mj := 76) (ix := 57) (pc := 80) (as := []) (st := []) (d' := d - 1) (bc' := 0) (bs' := 0) (by decide +kernel) (by decide +kernel) (by decide +kernel) (by decide +kernel) (tE216c hE).1 (tE216c hE).2 (by decide) (by decide +kernel) (show 0 = gm_na 76 by decide +kernel) fw_c0 (show 1 ≤ gm_ml 76 by decide +kernel) (Nat.le_of_ble_eq_true rfl) (by omega) (Nat.zero_le _) (Nat.zero_le _) ?_
          refine tx_c76 (by omega) hE g9 ?_
          show gm_Wp X LX d _ _ 100 83 _ [] n K R _ Q
          have g11 : 0 ≤ tx_n (M 2) e (tx_n (M 2) e b) ∧ tx_n (M 2) e (tx_n (M 2) e b) ≤ e := by have := tx_nb (f := M 2) (b := tx_n (M 2) e b) g9.2; omega
          refine gm_sz (gm_p_iinc (pc := 83) (j := 1) (z := 1) (by decide +kernel) rfl) ?_
          refine gm_sz (gm_p_goto (pc := 86) (off := (-84)) (by decide +kernel) (by decide)) ?_
          rw [g_sum2 (Or.inr j5) (by omega)] at h1 h0
          exact ih (i + 1) _ _ _ _ (by omega) (by omega) g11 k8 h1 h0
        · have j10 : ¬ (tx_k (M 2) e (tx_n (M 2) e b)) = 43 := j10
          refine gm_sz (gm_p_const (pc := 74) (i := .iconst 1) (v := gm_vi 1) (by decide +kernel) (by decide +kernel)) ?_
          rw [g_sum1 (Or.inr j5) (by omega)] at h1
          exact gm_r_int (pc := 75) (by decide +kernel) (Or.inr ⟨(by decide +kernel), Or.inr rfl⟩) (h1 _ _ k8 rfl)
      · show gm_Wp X LX d _ _ 100 36 _ [gm_vi (-1)] n K R _ Q
        have j5 : ¬ g_fact (M 2) e b := j5
        refine gm_sz (gm_p_stor (pc := 36) (i := .istore_n 2) (sr := 0) (j := 2) (by decide +kernel) rfl (show 3 ≤ _ from Nat.le_of_ble_eq_true rfl) rfl) ?_
        refine gm_sz (gm_p_load (pc := 37) (i := .iload_n 2) (sr := 0) (j := 2) (by decide +kernel) rfl rfl rfl) ?_
        refine gm_sz (gm_p_const (pc := 38) (i := .iconst (-1)) (v := gm_vi (-1)) (by decide +kernel) (by decide +kernel)) ?_
        refine fw_icfd (cc := .ne) (pc := 39) (off := 11) (by decide +kernel) (by decide) ⟨by decide, by decide⟩ ⟨by decide, by decide⟩ (by decide) ?_
        refine gm_sz (gm_p_load (pc := 42) (i := .aload_n 0) (sr := 2) (j := 0) (by decide +kernel) rfl rfl rfl) ?_
        refine gm_sz (fw_gr (pc := 43) (ix := 47) (ci := 9) (j := 0) (r := 216) (by decide +kernel) (tE215c hE) (by decide +kernel) (by decide +kernel) (tEr hE).2.1) ?_
        refine gm_c_virt (k := 216) (ci := 8) (mj := 93) (ix := 51) (pc := 46) (as := []) (st := []) (d' := d - 1) (bc' := 0) (bs' := 0) (by decide +kernel) (by decide +kernel) (by decide +kernel) (by decide +kernel) (tE216c hE).1 (tE216c hE).2 (by decide) (by decide +kernel) (show 0 = gm_na 93 by decide +kernel) fw_c0 (show 1 ≤ gm_ml 93 by decide +kernel) (Nat.le_of_ble_eq_true rfl) (by omega) (Nat.zero_le _) (Nat.zero_le _) ?_
        refine tx_c93 hE hb ?_
        show gm_Wp X LX d _ _ 100 49 _ [gm_vi 0] n K R _ Q
        have np : ¬ g_pt (M 2) e b := fun hh => by
          rcases hh with hh | hh
          · omega
          · exact j5 hh
        rw [g_sum0 np] at h0
        exact gm_r_int (pc := 49) (by decide +kernel) (Or.inr ⟨(by decide +kernel), Or.inl rfl⟩) (h0 _ _ hok (fun h => by cases h))
    · have j1 : (tx_k (M 2) e b) = 258 := Classical.not_not.mp j1
      refine gm_sz (gm_p_load (pc := 22) (i := .aload_n 0) (sr := 2) (j := 0) (by decide +kernel) rfl rfl rfl) ?_
      refine gm_sz (fw_gr (pc := 23) (ix := 47) (ci := 9) (j := 0) (r := 216) (by decide +kernel) (tE215c hE) (by decide +kernel) (by decide +kernel) (tEr hE).2.1) ?_
      refine gm_sz (fw_gi (pc := 26) (ix := 116) (ci := 8) (j := 7) (x := tx_v (M 2) e 3 b) (by decide +kernel) (tE216c hE) (by decide +kernel) (by decide +kernel) rfl) ?_
      refine gm_sz (gm_p_goto (pc := 29) (off := 7) (by decide +kernel) (by decide)) ?_
      refine gm_sz (gm_p_stor (pc := 36) (i := .istore_n 2) (sr := 0) (j := 2) (by decide +kernel) rfl (show 3 ≤ _ from Nat.le_of_ble_eq_true rfl) rfl) ?_
      refine gm_sz (gm_p_load (pc := 37) (i := .iload_n 2) (sr := 0) (j := 2) (by decide +kernel) rfl rfl rfl) ?_
      refine gm_sz (gm_p_const (pc := 38) (i := .iconst (-1)) (v := gm_vi (-1)) (by decide +kernel) (by decide +kernel)) ?_
      refine fw_ic (cc := .ne) (pc := 39) (off := 11) (by decide +kernel) (by decide) ⟨by omega, by omega⟩ ⟨by decide, by decide⟩ (fun j12 => ?_) (fun j12 => ?_)
      · have j12 : ¬ (tx_v (M 2) e 3 b) = (-1) := j12
        refine gm_sz (gm_p_load (pc := 50) (i := .aload_n 0) (sr := 2) (j := 0) (by decide +kernel) rfl rfl rfl) ?_
        refine gm_sz (gm_p_load (pc := 51) (i := .iload_n 2) (sr := 0) (j := 2) (by decide +kernel) rfl rfl rfl) ?_
        refine gm_c_virt (k := 215) (ci := 9) (mj := 99) (ix := 94) (pc := 52) (as := [gm_vi (tx_v (M 2) e 3 b)]) (st := []) (d' := d - 1) (bc' := 0) (bs' := 0) (by decide +kernel) (by decide +kernel) (by decide +kernel) (by decide +kernel) (tE215c hE).1 (tE215c hE).2 (by decide) (by decide +kernel) (show 1 = gm_na 99 by decide +kernel) (fw_c1 fw_si) (show 2 ≤ gm_ml 99 by decide +kernel) (Nat.le_of_ble_eq_true rfl) (by omega) (Nat.zero_le _) (Nat.zero_le _) ?_
        refine tx_c99 hE hok ⟨by omega, by omega⟩ (fun u13 C14 k15 => ?_)
        show gm_Wp X LX d _ _ 100 55 _ [] n K R _ Q
        refine gm_sz (gm_p_load (pc := 55) (i := .aload_n 0) (sr := 2) (j := 0) (by decide +kernel) rfl rfl rfl) ?_
        refine gm_sz (fw_gr (pc := 56) (ix := 47) (ci := 9) (j := 0) (r := 216) (by decide +kernel) (tE215c hE) (by decide +kernel) (by decide +kernel) (tEr hE).2.1) ?_
        refine gm_c_virt (k := 216) (ci := 8) (mj := 76) (ix := 57) (pc := 59) (as := []) (st := []) (d' := d - 1) (bc' := 0) (bs' := 0) (by decide +kernel) (by decide +kernel) (by decide +kernel) (by decide +kernel) (tE216c hE).1 (tE216c hE).2 (by decide) (by decide +kernel) (show 0 = gm_na 76 by decide +kernel) fw_c0 (show 1 ≤ gm_ml 76 by decide +kernel) (Nat.le_of_ble_eq_true rfl) (by omega) (Nat.zero_le _) (Nat.zero_le _) ?_
        refine tx_c76 (by omega) hE hb ?_
        show gm_Wp X LX d _ _ 100 62 _ [] n K R _ Q
        have g16 : 0 ≤ tx_n (M 2) e b ∧ tx_n (M 2) e b ≤ e := by have := tx_nb (f := M 2) (b := b) hb.2; omega
        refine gm_sz (gm_p_load (pc := 62) (i := .aload_n 0) (sr := 2) (j := 0) (by decide +kernel) rfl rfl rfl) ?_
        refine gm_sz (fw_gr (pc := 63) (ix := 47) (ci := 9) (j := 0) (r := 216) (by decide +kernel) (tE215c hE) (by decide +kernel) (by decide +kernel) (tEr hE).2.1) ?_
        refine gm_sz (fw_gi (pc := 66) (ix := 102) (ci := 8) (j := 6) (x := tx_k (M 2) e (tx_n (M 2) e b)) (by decide +kernel) (tE216c hE) (by decide +kernel) (by decide +kernel) rfl) ?_
        refine gm_sz (gm_p_const (pc := 69) (i := .bipush 43) (v := gm_vi 43) (by decide +kernel) (by decide +kernel)) ?_
        refine fw_ic (cc := .eq) (pc := 71) (off := 5) (by decide +kernel) (by decide) ⟨by omega, by omega⟩ ⟨by decide, by decide⟩ (fun j17 => ?_) (fun j17 => ?_)
        · have j17 : (tx_k (M 2) e (tx_n (M 2) e b)) = 43 := j17
          refine gm_sz (gm_p_load (pc := 76) (i := .aload_n 0) (sr := 2) (j := 0) (by decide +kernel) rfl rfl rfl) ?_
          refine gm_sz (fw_gr (pc := 77) (ix := 47) (ci := 9) (j := 0) (r := 216) (by decide +kernel) (tE215c hE) (by decide +kernel) (by decide +kernel) (tEr hE).2.1) ?_
          refine gm_c_virt (k := 216) (ci := 8) (mj := 76) (ix := 57) (pc := 80) (as := []) (st := []) (d' := d - 1) (bc' := 0) (bs' := 0) (by decide +kernel) (by decide +kernel) (by decide +kernel) (by decide +kernel) (tE216c hE).1 (tE216c hE).2 (by decide) (by decide +kernel) (show 0 = gm_na 76 by decide +kernel) fw_c0 (show 1 ≤ gm_ml 76 by decide +kernel) (Nat.le_of_ble_eq_true rfl) (by omega) (Nat.zero_le _) (Nat.zero_le _) ?_
          refine tx_c76 (by omega) hE g16 ?_
          show gm_Wp X LX d _ _ 100 83 _ [] n K R _ Q
          have g18 : 0 ≤ tx_n (M 2) e (tx_n (M 2) e b) ∧ tx_n (M 2) e (tx_n (M 2) e b) ≤ e := by have := tx_nb (f := M 2) (b := tx_n (M 2) e b) g16.2; omega
          refine gm_sz (gm_p_iinc (pc := 83) (j := 1) (z := 1) (by decide +kernel) rfl) ?_
          refine gm_sz (gm_p_goto (pc := 86) (off := (-84)) (by decide +kernel) (by decide)) ?_
          rw [g_sum2 (Or.inl ⟨by omega, by omega⟩) (by omega)] at h1 h0
          exact ih (i + 1) _ _ _ _ (by omega) (by omega) g18 k15 h1 h0
        · have j17 : ¬ (tx_k (M 2) e (tx_n (M 2) e b)) = 43 := j17
          refine gm_sz (gm_p_const (pc := 74) (i := .iconst 1) (v := gm_vi 1) (by decide +kernel) (by decide +kernel)) ?_
          rw [g_sum1 (Or.inl ⟨by omega, by omega⟩) (by omega)] at h1
          exact gm_r_int (pc := 75) (by decide +kernel) (Or.inr ⟨(by decide +kernel), Or.inr rfl⟩) (h1 _ _ k15 rfl)
      · have j12 : (tx_v (M 2) e 3 b) = (-1) := Classical.not_not.mp j12
        refine gm_sz (gm_p_load (pc := 42) (i := .aload_n 0) (sr := 2) (j := 0) (by decide +kernel) rfl rfl rfl) ?_
        refine gm_sz (fw_gr (pc := 43) (ix := 47) (ci := 9) (j := 0) (r := 216) (by decide +kernel) (tE215c hE) (by decide +kernel) (by decide +kernel) (tEr hE).2.1) ?_
        refine gm_c_virt (k := 216) (ci := 8) (mj := 93) (ix := 51) (pc := 46) (as := []) (st := []) (d' := d - 1) (bc' := 0) (bs' := 0) (by decide +kernel) (by decide +kernel) (by decide +kernel) (by decide +kernel) (tE216c hE).1 (tE216c hE).2 (by decide) (by decide +kernel) (show 0 = gm_na 93 by decide +kernel) fw_c0 (show 1 ≤ gm_ml 93 by decide +kernel) (Nat.le_of_ble_eq_true rfl) (by omega) (Nat.zero_le _) (Nat.zero_le _) ?_
        refine tx_c93 hE hb ?_
        show gm_Wp X LX d _ _ 100 49 _ [gm_vi 0] n K R _ Q
        have np : ¬ g_pt (M 2) e b := fun hh => by
          rcases hh with hh | hh
          · omega
          · have := g_fk hh
            omega
        rw [g_sum0 np] at h0
        exact gm_r_int (pc := 49) (by decide +kernel) (Or.inr ⟨(by decide +kernel), Or.inl rfl⟩) (h0 _ _ hok (fun h => by cases h))
theorem tx_c100 (hE : tx_E n K R M e) : cA X LX n K R M e lc D 100 [gm_vr 215] (g_sum (M 2) e 400) 8 := by
  intro d bc bs b us C Q hd hb hok h1 h0
  refine gm_sz (gm_p_const (pc := 0) (i := .iconst 0) (v := gm_vi 0) (by decide +kernel) (by decide +kernel)) ?_
  refine gm_sz (gm_p_stor (pc := 1) (i := .istore_n 1) (sr := 0) (j := 1) (by decide +kernel) rfl (show 2 ≤ _ from Nat.le_of_ble_eq_true rfl) rfl) ?_
  exact tx_s100 hd hE 400 0 b us C none rfl (Int.le_refl _) hb hok h1 h0
section GA
variable {f : Int → Int} {A A2 : Int → Bool × Int} {ok : Prop} {t : Nat}
theorem g_a0 (h : tx_is f e b wo_not ∨ tx_k f e b = 40) (h2 : ¬ ok) : g_atm f e A A2 ok b = (false, b) := by unfold g_atm; rw [tif_t h, tif_f h2]
theorem g_a1 (h : tx_is f e b wo_not) (h2 : ok) : g_atm f e A A2 ok b = A (tx_n f e b) := by unfold g_atm; rw [tif_t (Or.inl h), tif_t h2, tif_t h]
theorem g_a2 (h : ¬ tx_is f e b wo_not) (h0 : tx_k f e b = 40) (h2 : ok) (h3 : ¬ (A2 (tx_n f e b)).1 = true) : g_atm f e A A2 ok b = A2 (tx_n f e b) := by unfold g_atm; rw [tif_t (Or.inr h0), tif_t h2, tif_f h, tif_f h3]
theorem g_a3 (h : ¬ tx_is f e b wo_not) (h0 : tx_k f e b = 40) (h2 : ok) (h3 : (A2 (tx_n f e b)).1 = true) (h4 : tx_k f e (A2 (tx_n f e b)).2 = 41) : g_atm f e A A2 ok b = (true, tx_n f e (A2 (tx_n f e b)).2) := by unfold g_atm; rw [tif_t (Or.inr h0), tif_t h2, tif_f h, tif_t h3, tif_t h4]
theorem g_a4 (h : ¬ tx_is f e b wo_not) (h0 : tx_k f e b = 40) (h2 : ok) (h3 : (A2 (tx_n f e b)).1 = true) (h4 : ¬ tx_k f e (A2 (tx_n f e b)).2 = 41) : g_atm f e A A2 ok b = (false, (A2 (tx_n f e b)).2) := by unfold g_atm; rw [tif_t (Or.inr h0), tif_t h2, tif_f h, tif_t h3, tif_f h4]
theorem g_a5 (h : ¬ tx_is f e b wo_not) (h0 : ¬ tx_k f e b = 40) (h2 : tx_is f e b wo_side ∨ tx_is f e b wo_first) : g_atm f e A A2 ok b = (true, tx_n f e b) := by unfold g_atm; rw [tif_f (fun hh => hh.elim h h0), tif_t h2]
theorem g_a6 (h : ¬ tx_is f e b wo_not) (h0 : ¬ tx_k f e b = 40) (h2 : ¬ tx_is f e b wo_side) (h3 : ¬ tx_is f e b wo_first) (h4 : ¬ (g_sum f e 400 b).1 = true) : g_atm f e A A2 ok b = g_sum f e 400 b := by unfold g_atm; rw [tif_f (fun hh => hh.elim h h0), tif_f (fun hh => hh.elim h2 h3), tif_f h4]
theorem g_a7 (h : ¬ tx_is f e b wo_not) (h0 : ¬ tx_k f e b = 40) (h2 : ¬ tx_is f e b wo_side) (h3 : ¬ tx_is f e b wo_first) (h4 : (g_sum f e 400 b).1 = true) (h5 : ¬ (tx_k f e (g_sum f e 400 b).2 = 60 ∨ tx_k f e (g_sum f e 400 b).2 = 62)) : g_atm f e A A2 ok b = (false, (g_sum f e 400 b).2) := by unfold g_atm; rw [tif_f (fun hh => hh.elim h h0), tif_f (fun hh => hh.elim h2 h3), tif_t h4, tif_f h5]
theorem g_a8 (h : ¬ tx_is f e b wo_not) (h0 : ¬ tx_k f e b = 40) (h2 : ¬ tx_is f e b wo_side) (h3 : ¬ tx_is f e b wo_first) (h4 : (g_sum f e 400 b).1 = true) (h5 : tx_k f e (g_sum f e 400 b).2 = 60 ∨ tx_k f e (g_sum f e 400 b).2 = 62) : g_atm f e A A2 ok b = g_sum f e 400 (tx_n f e (g_sum f e 400 b).2) := by unfold g_atm; rw [tif_f (fun hh => hh.elim h h0), tif_f (fun hh => hh.elim h2 h3), tif_t h4, tif_t h5]
theorem g_l0 (h : ¬ (A b).1 = true) : g_all f e A (t + 1) b = A b := tif_f h
theorem g_l1 (h : (A b).1 = true) (h2 : ¬ tx_is f e (A b).2 wo_and) : g_all f e A (t + 1) b = (true, (A b).2) := by unfold g_all; rw [tif_t h, tif_f h2]
theorem g_l2 (h : (A b).1 = true) (h2 : tx_is f e (A b).2 wo_and) : g_all f e A (t + 1) b = g_all f e A t (tx_n f e (A b).2) := by
  show tif ((A b).1 = true) _ _ = _
  rw [tif_t h, tif_t h2]
theorem g_d0 (h : ¬ (g_all f e A 400 b).1 = true) : g_cnd f e A (t + 1) b = g_all f e A 400 b := tif_f h
theorem g_d1 (h : (g_all f e A 400 b).1 = true) (h2 : ¬ tx_is f e (g_all f e A 400 b).2 wo_or) : g_cnd f e A (t + 1) b = (true, (g_all f e A 400 b).2) := by unfold g_cnd; rw [tif_t h, tif_f h2]
theorem g_d2 (h : (g_all f e A 400 b).1 = true) (h2 : tx_is f e (g_all f e A 400 b).2 wo_or) : g_cnd f e A (t + 1) b = g_cnd f e A t (tx_n f e (g_all f e A 400 b).2) := by
  show tif ((g_all f e A 400 b).1 = true) _ _ = _
  rw [tif_t h, tif_t h2]
end GA
theorem tx_c97 {A A2 : Int → Bool × Int} {ok : Prop} {dep : Int} {dA dC dn : Nat} (hE : tx_E n K R M e) (hdep : 0 ≤ dep ∧ dep ≤ 6) (hok6 : ok ↔ dep < 6) (hA : ok → cA X LX n K R M e lc D 97 [gm_vr 215, gm_vi (dep + 1)] A dA) (hC : ok → cA X LX n K R M e lc D 96 [gm_vr 215, gm_vi (dep + 1)] A2 dC) (iA : g_in e A) (iC : g_in e A2) (hd9 : 9 ≤ dn ∧ (ok → dA + 1 ≤ dn ∧ dC + 1 ≤ dn)) : cA X LX n K R M e lc D 97 [gm_vr 215, gm_vi dep] (g_atm (M 2) e A A2 ok) dn := by
  obtain ⟨-, he0, he4⟩ := tEe hE
  intro d bc bs b us C Q hd hb hok h1 h0
  have hkb := tx_kc (f := M 2) (e := e) (b := b) (fun h => tEb hE hb.1 (by omega))
  have hsb := g_sum_in (f := M 2) 400 b hb.1 hb.2
  have hsk := tx_kc (f := M 2) (e := e) (b := (g_sum (M 2) e 400 b).2) (fun h => tEb hE (by omega) (by omega))
  refine gm_sz (gm_p_load (pc := 0) (i := .aload_n 0) (sr := 2) (j := 0) (by decide +kernel) rfl rfl rfl) ?_
  refine gm_sz (fw_gr (pc := 1) (ix := 47) (ci := 9) (j := 0) (r := 216) (by decide +kernel) (tE215c hE) (by decide +kernel) (by decide +kernel) (tEr hE).2.1) ?_
  refine gm_sz (gm_p_ldcs (pc := 4) (i := .ldc 100) (ix := 100) (id := 4) (by decide +kernel) (Or.inl rfl) (by decide +kernel)) ?_
  refine gm_c_virt (k := 216) (ci := 8) (mj := 81) (ix := 84) (pc := 6) (as := [gm_vo 4]) (st := []) (d' := d - 1) (bc' := 0) (bs' := 0) (by decide +kernel) (by decide +kernel) (by decide +kernel) (by decide +kernel) (tE216c hE).1 (tE216c hE).2 (by decide) (by decide +kernel) (show 1 = gm_na 81 by decide +kernel) (fw_c1 fw_so) (show 2 ≤ gm_ml 81 by decide +kernel) (Nat.le_of_ble_eq_true rfl) (by omega) (Nat.zero_le _) (Nat.zero_le _) ?_
  refine tx_c81 (by omega) hE (by decide) (show tx_o 4 = wo_not by decide +kernel) hb (fun j1 => ?_) (fun j1 => ?_)
  · show gm_Wp X LX d _ _ 97 9 _ [gm_vi 1] n K R _ Q
    have j1 : tx_is (M 2) e b wo_not := j1
    refine gm_sz (gm_p_stor (pc := 9) (i := .istore_n 2) (sr := 0) (j := 2) (by decide +kernel) rfl (show 3 ≤ _ from Nat.le_of_ble_eq_true rfl) rfl) ?_
    refine gm_sz (gm_p_load (pc := 10) (i := .iload_n 2) (sr := 0) (j := 2) (by decide +kernel) rfl rfl rfl) ?_
    refine fw_iftd (cc := .ne) (pc := 11) (off := 15) (by decide +kernel) (by decide) ⟨by decide, by decide⟩ (by decide) ?_
    refine gm_sz (gm_p_load (pc := 26) (i := .iload_n 1) (sr := 0) (j := 1) (by decide +kernel) rfl rfl rfl) ?_
    refine gm_sz (gm_p_const (pc := 27) (i := .bipush 6) (v := gm_vi 6) (by decide +kernel) (by decide +kernel)) ?_
    refine fw_ic (cc := .lt) (pc := 29) (off := 11) (by decide +kernel) (by decide) ⟨by omega, by omega⟩ ⟨by decide, by decide⟩ (fun j2 => ?_) (fun j2 => ?_)
    · have j2 : dep < 6 := j2
      refine gm_sz (gm_p_load (pc := 40) (i := .aload_n 0) (sr := 2) (j := 0) (by decide +kernel) rfl rfl rfl) ?_
      refine gm_sz (fw_gr (pc := 41) (ix := 47) (ci := 9) (j := 0) (r := 216) (by decide +kernel) (tE215c hE) (by decide +kernel) (by decide +kernel) (tEr hE).2.1) ?_
      refine gm_c_virt (k := 216) (ci := 8) (mj := 76) (ix := 57) (pc := 44) (as := []) (st := []) (d' := d - 1) (bc' := 0) (bs' := 0) (by decide +kernel) (by decide +kernel) (by decide +kernel) (by decide +kernel) (tE216c hE).1 (tE216c hE).2 (by decide) (by decide +kernel) (show 0 = gm_na 76 by decide +kernel) fw_c0 (show 1 ≤ gm_ml 76 by decide +kernel) (Nat.le_of_ble_eq_true rfl) (by omega) (Nat.zero_le _) (Nat.zero_le _) ?_
      refine tx_c76 (by omega) hE hb ?_
      show gm_Wp X LX d _ _ 97 47 _ [] n K R _ Q
      have g3 : 0 ≤ tx_n (M 2) e b ∧ tx_n (M 2) e b ≤ e := by have := tx_nb (f := M 2) (b := b) hb.2; omega
      refine gm_sz (gm_p_load (pc := 47) (i := .iload_n 2) (sr := 0) (j := 2) (by decide +kernel) rfl rfl rfl) ?_
      refine fw_iffd (cc := .eq) (pc := 48) (off := 13) (by decide +kernel) (by decide) ⟨by decide, by decide⟩ (by decide) ?_
      refine gm_sz (gm_p_load (pc := 51) (i := .aload_n 0) (sr := 2) (j := 0) (by decide +kernel) rfl rfl rfl) ?_
      refine gm_sz (gm_p_load (pc := 52) (i := .iload_n 1) (sr := 0) (j := 1) (by decide +kernel) rfl rfl rfl) ?_
      refine gm_sz (gm_p_const (pc := 53) (i := .iconst 1) (v := gm_vi 1) (by decide +kernel) (by decide +kernel)) ?_
      refine gm_sz (gm_p_bin (pc := 54) (i := .iadd) (f := fun x y => x + y) (by decide +kernel) rfl) ?_
      refine gm_c_virt (k := 215) (ci := 9) (mj := 97) (ix := 91) (pc := 55) (as := [gm_vi (dep + 1)]) (st := []) (d' := d - 1) (bc' := 0) (bs' := 0) (by decide +kernel) (by decide +kernel) (by decide +kernel) (by decide +kernel) (tE215c hE).1 (tE215c hE).2 (by decide) (by decide +kernel) (show 1 = gm_na 97 by decide +kernel) (fw_c1 fw_si) (show 2 ≤ gm_ml 97 by decide +kernel) (Nat.le_of_ble_eq_true rfl) (by omega) (Nat.zero_le _) (Nat.zero_le _) ?_
      refine hA (hok6.mpr j2) _ _ _ _ _ _ _ (by have := hd9.2 (hok6.mpr j2); omega) g3 hok (fun u4 C5 k6 j7 => ?_) (fun u4 C5 k6 j7 => ?_)
      · show gm_Wp X LX d _ _ 97 58 _ [gm_vi 1] n K R _ Q
        have j7 : (A (tx_n (M 2) e b)).1 = true := j7
        have g8 : 0 ≤ (A (tx_n (M 2) e b)).2 ∧ (A (tx_n (M 2) e b)).2 ≤ e := by have := iA (tx_n (M 2) e b) g3.1 g3.2; have := g3.1; omega
        refine gm_sz (gm_p_goto (pc := 58) (off := 30) (by decide +kernel) (by decide)) ?_
        refine gm_sz (gm_p_stor (pc := 88) (i := .istore_n 3) (sr := 0) (j := 3) (by decide +kernel) rfl (show 4 ≤ _ from Nat.le_of_ble_eq_true rfl) rfl) ?_
        refine gm_sz (gm_p_load (pc := 89) (i := .iload_n 3) (sr := 0) (j := 3) (by decide +kernel) rfl rfl rfl) ?_
        refine fw_iffd (cc := .eq) (pc := 90) (off := 13) (by decide +kernel) (by decide) ⟨by decide, by decide⟩ (by decide) ?_
        refine gm_sz (gm_p_load (pc := 93) (i := .iload_n 2) (sr := 0) (j := 2) (by decide +kernel) rfl rfl rfl) ?_
        refine fw_iffd (cc := .eq) (pc := 94) (off := 9) (by decide +kernel) (by decide) ⟨by decide, by decide⟩ (by decide) ?_
        refine gm_sz (gm_p_load (pc := 97) (i := .aload_n 0) (sr := 2) (j := 0) (by decide +kernel) rfl rfl rfl) ?_
        refine gm_sz (gm_p_const (pc := 98) (i := .bipush (-15)) (v := gm_vi (-15)) (by decide +kernel) (by decide +kernel)) ?_
        refine gm_c_virt (k := 215) (ci := 9) (mj := 99) (ix := 94) (pc := 100) (as := [gm_vi (-15)]) (st := []) (d' := d - 1) (bc' := 0) (bs' := 0) (by decide +kernel) (by decide +kernel) (by decide +kernel) (by decide +kernel) (tE215c hE).1 (tE215c hE).2 (by decide) (by decide +kernel) (show 1 = gm_na 99 by decide +kernel) (fw_c1 fw_si) (show 2 ≤ gm_ml 99 by decide +kernel) (Nat.le_of_ble_eq_true rfl) (by omega) (Nat.zero_le _) (Nat.zero_le _) ?_
        refine tx_c99 hE k6 ⟨by decide, by decide⟩ (fun u9 C10 k11 => ?_)
        show gm_Wp X LX d _ _ 97 103 _ [] n K R _ Q
        refine gm_sz (gm_p_load (pc := 103) (i := .iload_n 3) (sr := 0) (j := 3) (by decide +kernel) rfl rfl rfl) ?_
        rw [g_a1 j1 (hok6.mpr j2)] at h1
        exact gm_r_int (pc := 104) (by decide +kernel) (Or.inr ⟨(by decide +kernel), Or.inr rfl⟩) (h1 _ _ k11 j7)
      · show gm_Wp X LX d _ _ 97 58 _ [gm_vi 0] n K R _ Q
        have j7 : ¬ (A (tx_n (M 2) e b)).1 = true := j7
        have g8 : 0 ≤ (A (tx_n (M 2) e b)).2 ∧ (A (tx_n (M 2) e b)).2 ≤ e := by have := iA (tx_n (M 2) e b) g3.1 g3.2; have := g3.1; omega
        refine gm_sz (gm_p_goto (pc := 58) (off := 30) (by decide +kernel) (by decide)) ?_
        refine gm_sz (gm_p_stor (pc := 88) (i := .istore_n 3) (sr := 0) (j := 3) (by decide +kernel) rfl (show 4 ≤ _ from Nat.le_of_ble_eq_true rfl) rfl) ?_
        refine gm_sz (gm_p_load (pc := 89) (i := .iload_n 3) (sr := 0) (j := 3) (by decide +kernel) rfl rfl rfl) ?_
        refine fw_iftd (cc := .eq) (pc := 90) (off := 13) (by decide +kernel) (by decide) ⟨by decide, by decide⟩ (by decide) ?_
        refine gm_sz (gm_p_load (pc := 103) (i := .iload_n 3) (sr := 0) (j := 3) (by decide +kernel) rfl rfl rfl) ?_
        rw [g_a1 j1 (hok6.mpr j2)] at h0
        exact gm_r_int (pc := 104) (by decide +kernel) (Or.inr ⟨(by decide +kernel), Or.inl rfl⟩) (h0 _ _ k6 j7)
    · have j2 : ¬ dep < 6 := j2
      refine gm_sz (gm_p_load (pc := 32) (i := .aload_n 0) (sr := 2) (j := 0) (by decide +kernel) rfl rfl rfl) ?_
      refine gm_sz (fw_gr (pc := 33) (ix := 47) (ci := 9) (j := 0) (r := 216) (by decide +kernel) (tE215c hE) (by decide +kernel) (by decide +kernel) (tEr hE).2.1) ?_
      refine gm_c_virt (k := 216) (ci := 8) (mj := 93) (ix := 51) (pc := 36) (as := []) (st := []) (d' := d - 1) (bc' := 0) (bs' := 0) (by decide +kernel) (by decide +kernel) (by decide +kernel) (by decide +kernel) (tE216c hE).1 (tE216c hE).2 (by decide) (by decide +kernel) (show 0 = gm_na 93 by decide +kernel) fw_c0 (show 1 ≤ gm_ml 93 by decide +kernel) (Nat.le_of_ble_eq_true rfl) (by omega) (Nat.zero_le _) (Nat.zero_le _) ?_
      refine tx_c93 hE hb ?_
      show gm_Wp X LX d _ _ 97 39 _ [gm_vi 0] n K R _ Q
      rw [g_a0 (Or.inl j1) (fun h => j2 (hok6.mp h))] at h0
      exact gm_r_int (pc := 39) (by decide +kernel) (Or.inr ⟨(by decide +kernel), Or.inl rfl⟩) (h0 _ _ hok (fun h => by cases h))
  · show gm_Wp X LX d _ _ 97 9 _ [gm_vi 0] n K R _ Q
    have j1 : ¬ tx_is (M 2) e b wo_not := j1
    refine gm_sz (gm_p_stor (pc := 9) (i := .istore_n 2) (sr := 0) (j := 2) (by decide +kernel) rfl (show 3 ≤ _ from Nat.le_of_ble_eq_true rfl) rfl) ?_
    refine gm_sz (gm_p_load (pc := 10) (i := .iload_n 2) (sr := 0) (j := 2) (by decide +kernel) rfl rfl rfl) ?_
    refine fw_iffd (cc := .ne) (pc := 11) (off := 15) (by decide +kernel) (by decide) ⟨by decide, by decide⟩ (by decide) ?_
    refine gm_sz (gm_p_load (pc := 14) (i := .aload_n 0) (sr := 2) (j := 0) (by decide +kernel) rfl rfl rfl) ?_
    refine gm_sz (fw_gr (pc := 15) (ix := 47) (ci := 9) (j := 0) (r := 216) (by decide +kernel) (tE215c hE) (by decide +kernel) (by decide +kernel) (tEr hE).2.1) ?_
    refine gm_sz (fw_gi (pc := 18) (ix := 102) (ci := 8) (j := 6) (x := tx_k (M 2) e b) (by decide +kernel) (tE216c hE) (by decide +kernel) (by decide +kernel) rfl) ?_
    refine gm_sz (gm_p_const (pc := 21) (i := .bipush 40) (v := gm_vi 40) (by decide +kernel) (by decide +kernel)) ?_
    refine fw_ic (cc := .ne) (pc := 23) (off := 82) (by decide +kernel) (by decide) ⟨by omega, by omega⟩ ⟨by decide, by decide⟩ (fun j12 => ?_) (fun j12 => ?_)
    · have j12 : ¬ (tx_k (M 2) e b) = 40 := j12
      refine gm_sz (gm_p_load (pc := 105) (i := .aload_n 0) (sr := 2) (j := 0) (by decide +kernel) rfl rfl rfl) ?_
      refine gm_sz (fw_gr (pc := 106) (ix := 47) (ci := 9) (j := 0) (r := 216) (by decide +kernel) (tE215c hE) (by decide +kernel) (by decide +kernel) (tEr hE).2.1) ?_
      refine gm_sz (gm_p_ldcs (pc := 109) (i := .ldc 109) (ix := 109) (id := 5) (by decide +kernel) (Or.inl rfl) (by decide +kernel)) ?_
      refine gm_c_virt (k := 216) (ci := 8) (mj := 95) (ix := 67) (pc := 111) (as := [gm_vo 5]) (st := []) (d' := d - 1) (bc' := 0) (bs' := 0) (by decide +kernel) (by decide +kernel) (by decide +kernel) (by decide +kernel) (tE216c hE).1 (tE216c hE).2 (by decide) (by decide +kernel) (show 1 = gm_na 95 by decide +kernel) (fw_c1 fw_so) (show 2 ≤ gm_ml 95 by decide +kernel) (Nat.le_of_ble_eq_true rfl) (by omega) (Nat.zero_le _) (Nat.zero_le _) ?_
      refine tx_c95 (by omega) hE (by decide) (show tx_o 5 = wo_side by decide +kernel) hb (fun j13 => ?_) (fun j13 => ?_)
      · show gm_Wp X LX d _ _ 97 114 _ [gm_vi 1] n K R _ Q
        have j13 : tx_is (M 2) e b wo_side := j13
        have g14 : 0 ≤ tx_n (M 2) e b ∧ tx_n (M 2) e b ≤ e := by have := tx_nb (f := M 2) (b := b) hb.2; omega
        refine fw_iffd (cc := .eq) (pc := 114) (off := 11) (by decide +kernel) (by decide) ⟨by decide, by decide⟩ (by decide) ?_
        refine gm_sz (gm_p_load (pc := 117) (i := .aload_n 0) (sr := 2) (j := 0) (by decide +kernel) rfl rfl rfl) ?_
        refine gm_sz (gm_p_const (pc := 118) (i := .bipush (-10)) (v := gm_vi (-10)) (by decide +kernel) (by decide +kernel)) ?_
        refine gm_c_virt (k := 215) (ci := 9) (mj := 99) (ix := 94) (pc := 120) (as := [gm_vi (-10)]) (st := []) (d' := d - 1) (bc' := 0) (bs' := 0) (by decide +kernel) (by decide +kernel) (by decide +kernel) (by decide +kernel) (tE215c hE).1 (tE215c hE).2 (by decide) (by decide +kernel) (show 1 = gm_na 99 by decide +kernel) (fw_c1 fw_si) (show 2 ≤ gm_ml 99 by decide +kernel) (Nat.le_of_ble_eq_true rfl) (by omega) (Nat.zero_le _) (Nat.zero_le _) ?_
        refine tx_c99 hE hok ⟨by decide, by decide⟩ (fun u15 C16 k17 => ?_)
        show gm_Wp X LX d _ _ 97 123 _ [] n K R _ Q
        refine gm_sz (gm_p_const (pc := 123) (i := .iconst 1) (v := gm_vi 1) (by decide +kernel) (by decide +kernel)) ?_
        rw [g_a5 j1 (by omega) (Or.inl j13)] at h1
        exact gm_r_int (pc := 124) (by decide +kernel) (Or.inr ⟨(by decide +kernel), Or.inr rfl⟩) (h1 _ _ k17 rfl)
      · show gm_Wp X LX d _ _ 97 114 _ [gm_vi 0] n K R _ Q
        have j13 : ¬ tx_is (M 2) e b wo_side := j13
        refine fw_iftd (cc := .eq) (pc := 114) (off := 11) (by decide +kernel) (by decide) ⟨by decide, by decide⟩ (by decide) ?_
        refine gm_sz (gm_p_load (pc := 125) (i := .aload_n 0) (sr := 2) (j := 0) (by decide +kernel) rfl rfl rfl) ?_
        refine gm_sz (fw_gr (pc := 126) (ix := 47) (ci := 9) (j := 0) (r := 216) (by decide +kernel) (tE215c hE) (by decide +kernel) (by decide +kernel) (tEr hE).2.1) ?_
        refine gm_sz (gm_p_ldcs (pc := 129) (i := .ldc 111) (ix := 111) (id := 6) (by decide +kernel) (Or.inl rfl) (by decide +kernel)) ?_
        refine gm_c_virt (k := 216) (ci := 8) (mj := 95) (ix := 67) (pc := 131) (as := [gm_vo 6]) (st := []) (d' := d - 1) (bc' := 0) (bs' := 0) (by decide +kernel) (by decide +kernel) (by decide +kernel) (by decide +kernel) (tE216c hE).1 (tE216c hE).2 (by decide) (by decide +kernel) (show 1 = gm_na 95 by decide +kernel) (fw_c1 fw_so) (show 2 ≤ gm_ml 95 by decide +kernel) (Nat.le_of_ble_eq_true rfl) (by omega) (Nat.zero_le _) (Nat.zero_le _) ?_
        refine tx_c95 (by omega) hE (by decide) (show tx_o 6 = wo_first by decide +kernel) hb (fun j18 => ?_) (fun j18 => ?_)
        · show gm_Wp X LX d _ _ 97 134 _ [gm_vi 1] n K R _ Q
          have j18 : tx_is (M 2) e b wo_first := j18
          have g19 : 0 ≤ tx_n (M 2) e b ∧ tx_n (M 2) e b ≤ e := by have := tx_nb (f := M 2) (b := b) hb.2; omega
          refine fw_iffd (cc := .eq) (pc := 134) (off := 11) (by decide +kernel) (by decide) ⟨by decide, by decide⟩ (by decide) ?_
          refine gm_sz (gm_p_load (pc := 137) (i := .aload_n 0) (sr := 2) (j := 0) (by decide +kernel) rfl rfl rfl) ?_
          refine gm_sz (gm_p_const (pc := 138) (i := .bipush (-11)) (v := gm_vi (-11)) (by decide +kernel) (by decide +kernel)) ?_
          refine gm_c_virt (k := 215) (ci := 9) (mj := 99) (ix := 94) (pc := 140) (as := [gm_vi (-11)]) (st := []) (d' := d - 1) (bc' := 0) (bs' := 0) (by decide +kernel) (by decide +kernel) (by decide +kernel) (by decide +kernel) (tE215c hE).1 (tE215c hE).2 (by decide) (by decide +kernel) (show 1 = gm_na 99 by decide +kernel) (fw_c1 fw_si) (show 2 ≤ gm_ml 99 by decide +kernel) (Nat.le_of_ble_eq_true rfl) (by omega) (Nat.zero_le _) (Nat.zero_le _) ?_
          refine tx_c99 hE hok ⟨by decide, by decide⟩ (fun u20 C21 k22 => ?_)
          show gm_Wp X LX d _ _ 97 143 _ [] n K R _ Q
          refine gm_sz (gm_p_const (pc := 143) (i := .iconst 1) (v := gm_vi 1) (by decide +kernel) (by decide +kernel)) ?_
          rw [g_a5 j1 (by omega) (Or.inr j18)] at h1
          exact gm_r_int (pc := 144) (by decide +kernel) (Or.inr ⟨(by decide +kernel), Or.inr rfl⟩) (h1 _ _ k22 rfl)
        · show gm_Wp X LX d _ _ 97 134 _ [gm_vi 0] n K R _ Q
          have j18 : ¬ tx_is (M 2) e b wo_first := j18
          refine fw_iftd (cc := .eq) (pc := 134) (off := 11) (by decide +kernel) (by decide) ⟨by decide, by decide⟩ (by decide) ?_
          refine gm_sz (gm_p_load (pc := 145) (i := .aload_n 0) (sr := 2) (j := 0) (by decide +kernel) rfl rfl rfl) ?_
          refine gm_c_virt (k := 215) (ci := 9) (mj := 100) (ix := 113) (pc := 146) (as := []) (st := []) (d' := d - 1) (bc' := 0) (bs' := 0) (by decide +kernel) (by decide +kernel) (by decide +kernel) (by decide +kernel) (tE215c hE).1 (tE215c hE).2 (by decide) (by decide +kernel) (show 0 = gm_na 100 by decide +kernel) fw_c0 (show 1 ≤ gm_ml 100 by decide +kernel) (Nat.le_of_ble_eq_true rfl) (by omega) (Nat.zero_le _) (Nat.zero_le _) ?_
          refine tx_c100 hE _ _ _ _ _ _ _ (by omega) hb hok (fun u23 C24 k25 j26 => ?_) (fun u23 C24 k25 j26 => ?_)
          · show gm_Wp X LX d _ _ 97 149 _ [gm_vi 1] n K R _ Q
            have j26 : (g_sum (M 2) e 400 b).1 = true := j26
            have g27 : 0 ≤ (g_sum (M 2) e 400 b).2 ∧ (g_sum (M 2) e 400 b).2 ≤ e := by have := g_sum_in (f := M 2) 400 b hb.1 hb.2; have := hb.1; omega
            refine fw_iftd (cc := .ne) (pc := 149) (off := 5) (by decide +kernel) (by decide) ⟨by decide, by decide⟩ (by decide) ?_
            refine gm_sz (gm_p_load (pc := 154) (i := .aload_n 0) (sr := 2) (j := 0) (by decide +kernel) rfl rfl rfl) ?_
            refine gm_sz (fw_gr (pc := 155) (ix := 47) (ci := 9) (j := 0) (r := 216) (by decide +kernel) (tE215c hE) (by decide +kernel) (by decide +kernel) (tEr hE).2.1) ?_
            refine gm_sz (fw_gi (pc := 158) (ix := 102) (ci := 8) (j := 6) (x := tx_k (M 2) e ((g_sum (M 2) e 400 b).2)) (by decide +kernel) (tE216c hE) (by decide +kernel) (by decide +kernel) rfl) ?_
            refine gm_sz (gm_p_stor (pc := 161) (i := .istore_n 3) (sr := 0) (j := 3) (by decide +kernel) rfl (show 4 ≤ _ from Nat.le_of_ble_eq_true rfl) rfl) ?_
            refine gm_sz (gm_p_load (pc := 162) (i := .iload_n 3) (sr := 0) (j := 3) (by decide +kernel) rfl rfl rfl) ?_
            refine gm_sz (gm_p_const (pc := 163) (i := .bipush 60) (v := gm_vi 60) (by decide +kernel) (by decide +kernel)) ?_
            refine fw_ic (cc := .eq) (pc := 165) (off := 17) (by decide +kernel) (by decide) ⟨by omega, by omega⟩ ⟨by decide, by decide⟩ (fun j28 => ?_) (fun j28 => ?_)
            · have j28 : (tx_k (M 2) e ((g_sum (M 2) e 400 b).2)) = 60 := j28
              refine gm_sz (gm_p_load (pc := 182) (i := .aload_n 0) (sr := 2) (j := 0) (by decide +kernel) rfl rfl rfl) ?_
              refine gm_sz (fw_gr (pc := 183) (ix := 47) (ci := 9) (j := 0) (r := 216) (by decide +kernel) (tE215c hE) (by decide +kernel) (by decide +kernel) (tEr hE).2.1) ?_
              refine gm_c_virt (k := 216) (ci := 8) (mj := 76) (ix := 57) (pc := 186) (as := []) (st := []) (d' := d - 1) (bc' := 0) (bs' := 0) (by decide +kernel) (by decide +kernel) (by decide +kernel) (by decide +kernel) (tE216c hE).1 (tE216c hE).2 (by decide) (by decide +kernel) (show 0 = gm_na 76 by decide +kernel) fw_c0 (show 1 ≤ gm_ml 76 by decide +kernel) (Nat.le_of_ble_eq_true rfl) (by omega) (Nat.zero_le _) (Nat.zero_le _) ?_
              refine tx_c76 (by omega) hE g27 ?_
              show gm_Wp X LX d _ _ 97 189 _ [] n K R _ Q
              have g29 : 0 ≤ tx_n (M 2) e ((g_sum (M 2) e 400 b).2) ∧ tx_n (M 2) e ((g_sum (M 2) e 400 b).2) ≤ e := by have := tx_nb (f := M 2) (b := (g_sum (M 2) e 400 b).2) g27.2; omega
              refine gm_sz (gm_p_load (pc := 189) (i := .aload_n 0) (sr := 2) (j := 0) (by decide +kernel) rfl rfl rfl) ?_
              refine gm_sz (gm_p_const (pc := 190) (i := .bipush (-12)) (v := gm_vi (-12)) (by decide +kernel) (by decide +kernel)) ?_
              refine gm_c_virt (k := 215) (ci := 9) (mj := 99) (ix := 94) (pc := 192) (as := [gm_vi (-12)]) (st := []) (d' := d - 1) (bc' := 0) (bs' := 0) (by decide +kernel) (by decide +kernel) (by decide +kernel) (by decide +kernel) (tE215c hE).1 (tE215c hE).2 (by decide) (by decide +kernel) (show 1 = gm_na 99 by decide +kernel) (fw_c1 fw_si) (show 2 ≤ gm_ml 99 by decide +kernel) (Nat.le_of_ble_eq_true rfl) (by omega) (Nat.zero_le _) (Nat.zero_le _) ?_
              refine tx_c99 hE k25 ⟨by decide, by decide⟩ (fun u30 C31 k32 => ?_)
              show gm_Wp X LX d _ _ 97 195 _ [] n K R _ Q
              refine gm_sz (gm_p_load (pc := 195) (i := .aload_n 0) (sr := 2) (j := 0) (by decide +kernel) rfl rfl rfl) ?_
              refine gm_c_virt (k := 215) (ci := 9) (mj := 100) (ix := 113) (pc := 196) (as := []) (st := []) (d' := d - 1) (bc' := 0) (bs' := 0) (by decide +kernel) (by decide +kernel) (by decide +kernel) (by decide +kernel) (tE215c hE).1 (tE215c hE).2 (by decide) (by decide +kernel) (show 0 = gm_na 100 by decide +kernel) fw_c0 (show 1 ≤ gm_ml 100 by decide +kernel) (Nat.le_of_ble_eq_true rfl) (by omega) (Nat.zero_le _) (Nat.zero_le _) ?_
              refine tx_c100 hE _ _ _ _ _ _ _ (by omega) g29 k32 (fun u33 C34 k35 j36 => ?_) (fun u33 C34 k35 j36 => ?_)
              · show gm_Wp X LX d _ _ 97 199 _ [gm_vi 1] n K R _ Q
                have j36 : (g_sum (M 2) e 400 (tx_n (M 2) e ((g_sum (M 2) e 400 b).2))).1 = true := j36
                have g37 : 0 ≤ (g_sum (M 2) e 400 (tx_n (M 2) e ((g_sum (M 2) e 400 b).2))).2 ∧ (g_sum (M 2) e 400 (tx_n (M 2) e ((g_sum (M 2) e 400 b).2))).2 ≤ e := by have := g_sum_in (f := M 2) 400 (tx_n (M 2) e ((g_sum (M 2) e 400 b).2)) g29.1 g29.2; have := g29.1; omega
                refine fw_iftd (cc := .ne) (pc := 199) (off := 5) (by decide +kernel) (by decide) ⟨by decide, by decide⟩ (by decide) ?_
                refine gm_sz (gm_p_load (pc := 204) (i := .aload_n 0) (sr := 2) (j := 0) (by decide +kernel) rfl rfl rfl) ?_
                refine gm_sz (gm_p_load (pc := 205) (i := .iload_n 3) (sr := 0) (j := 3) (by decide +kernel) rfl rfl rfl) ?_
                refine gm_sz (gm_p_const (pc := 206) (i := .bipush 60) (v := gm_vi 60) (by decide +kernel) (by decide +kernel)) ?_
                refine fw_ic (cc := .ne) (pc := 208) (off := 8) (by decide +kernel) (by decide) ⟨by omega, by omega⟩ ⟨by decide, by decide⟩ (fun j38 => ?_) (fun j38 => ?_)
                · have j38 : ¬ (tx_k (M 2) e ((g_sum (M 2) e 400 b).2)) = 60 := j38
                  refine gm_sz (gm_p_const (pc := 216) (i := .bipush (-14)) (v := gm_vi (-14)) (by decide +kernel) (by decide +kernel)) ?_
                  refine gm_c_virt (k := 215) (ci := 9) (mj := 99) (ix := 94) (pc := 218) (as := [gm_vi (-14)]) (st := []) (d' := d - 1) (bc' := 0) (bs' := 0) (by decide +kernel) (by decide +kernel) (by decide +kernel) (by decide +kernel) (tE215c hE).1 (tE215c hE).2 (by decide) (by decide +kernel) (show 1 = gm_na 99 by decide +kernel) (fw_c1 fw_si) (show 2 ≤ gm_ml 99 by decide +kernel) (Nat.le_of_ble_eq_true rfl) (by omega) (Nat.zero_le _) (Nat.zero_le _) ?_
                  refine tx_c99 hE k35 ⟨by decide, by decide⟩ (fun u39 C40 k41 => ?_)
                  show gm_Wp X LX d _ _ 97 221 _ [] n K R _ Q
                  refine gm_sz (gm_p_const (pc := 221) (i := .iconst 1) (v := gm_vi 1) (by decide +kernel) (by decide +kernel)) ?_
                  rw [g_a8 j1 (by omega) j13 j18 j26 (by omega)] at h1
                  exact gm_r_int (pc := 222) (by decide +kernel) (Or.inr ⟨(by decide +kernel), Or.inr rfl⟩) (h1 _ _ k41 j36)
                · have j38 : (tx_k (M 2) e ((g_sum (M 2) e 400 b).2)) = 60 := Classical.not_not.mp j38
                  refine gm_sz (gm_p_const (pc := 211) (i := .bipush (-13)) (v := gm_vi (-13)) (by decide +kernel) (by decide +kernel)) ?_
                  refine gm_sz (gm_p_goto (pc := 213) (off := 5) (by decide +kernel) (by decide)) ?_
                  refine gm_c_virt (k := 215) (ci := 9) (mj := 99) (ix := 94) (pc := 218) (as := [gm_vi (-13)]) (st := []) (d' := d - 1) (bc' := 0) (bs' := 0) (by decide +kernel) (by decide +kernel) (by decide +kernel) (by decide +kernel) (tE215c hE).1 (tE215c hE).2 (by decide) (by decide +kernel) (show 1 = gm_na 99 by decide +kernel) (fw_c1 fw_si) (show 2 ≤ gm_ml 99 by decide +kernel) (Nat.le_of_ble_eq_true rfl) (by omega) (Nat.zero_le _) (Nat.zero_le _) ?_
                  refine tx_c99 hE k35 ⟨by decide, by decide⟩ (fun u42 C43 k44 => ?_)
                  show gm_Wp X LX d _ _ 97 221 _ [] n K R _ Q
                  refine gm_sz (gm_p_const (pc := 221) (i := .iconst 1) (v := gm_vi 1) (by decide +kernel) (by decide +kernel)) ?_
                  rw [g_a8 j1 (by omega) j13 j18 j26 (by omega)] at h1
                  exact gm_r_int (pc := 222) (by decide +kernel) (Or.inr ⟨(by decide +kernel), Or.inr rfl⟩) (h1 _ _ k44 j36)
              · show gm_Wp X LX d _ _ 97 199 _ [gm_vi 0] n K R _ Q
                have j36 : ¬ (g_sum (M 2) e 400 (tx_n (M 2) e ((g_sum (M 2) e 400 b).2))).1 = true := j36
                have g37 : 0 ≤ (g_sum (M 2) e 400 (tx_n (M 2) e ((g_sum (M 2) e 400 b).2))).2 ∧ (g_sum (M 2) e 400 (tx_n (M 2) e ((g_sum (M 2) e 400 b).2))).2 ≤ e := by have := g_sum_in (f := M 2) 400 (tx_n (M 2) e ((g_sum (M 2) e 400 b).2)) g29.1 g29.2; have := g29.1; omega
                refine fw_iffd (cc := .ne) (pc := 199) (off := 5) (by decide +kernel) (by decide) ⟨by decide, by decide⟩ (by decide) ?_
                refine gm_sz (gm_p_const (pc := 202) (i := .iconst 0) (v := gm_vi 0) (by decide +kernel) (by decide +kernel)) ?_
                rw [g_a8 j1 (by omega) j13 j18 j26 (by omega)] at h0
                exact gm_r_int (pc := 203) (by decide +kernel) (Or.inr ⟨(by decide +kernel), Or.inl rfl⟩) (h0 _ _ k35 j36)
            · have j28 : ¬ (tx_k (M 2) e ((g_sum (M 2) e 400 b).2)) = 60 := j28
              refine gm_sz (gm_p_load (pc := 168) (i := .iload_n 3) (sr := 0) (j := 3) (by decide +kernel) rfl rfl rfl) ?_
              refine gm_sz (gm_p_const (pc := 169) (i := .bipush 62) (v := gm_vi 62) (by decide +kernel) (by decide +kernel)) ?_
              refine fw_ic (cc := .eq) (pc := 171) (off := 11) (by decide +kernel) (by decide) ⟨by omega, by omega⟩ ⟨by decide, by decide⟩ (fun j45 => ?_) (fun j45 => ?_)
              · have j45 : (tx_k (M 2) e ((g_sum (M 2) e 400 b).2)) = 62 := j45
                refine gm_sz (gm_p_load (pc := 182) (i := .aload_n 0) (sr := 2) (j := 0) (by decide +kernel) rfl rfl rfl) ?_
                refine gm_sz (fw_gr (pc := 183) (ix := 47) (ci := 9) (j := 0) (r := 216) (by decide +kernel) (tE215c hE) (by decide +kernel) (by decide +kernel) (tEr hE).2.1) ?_
                refine gm_c_virt (k := 216) (ci := 8) (mj := 76) (ix := 57) (pc := 186) (as := []) (st := []) (d' := d - 1) (bc' := 0) (bs' := 0) (by decide +kernel) (by decide +kernel) (by decide +kernel) (by decide +kernel) (tE216c hE).1 (tE216c hE).2 (by decide) (by decide +kernel) (show 0 = gm_na 76 by decide +kernel) fw_c0 (show 1 ≤ gm_ml 76 by decide +kernel) (Nat.le_of_ble_eq_true rfl) (by omega) (Nat.zero_le _) (Nat.zero_le _) ?_
                refine tx_c76 (by omega) hE g27 ?_
                show gm_Wp X LX d _ _ 97 189 _ [] n K R _ Q
                have g46 : 0 ≤ tx_n (M 2) e ((g_sum (M 2) e 400 b).2) ∧ tx_n (M 2) e ((g_sum (M 2) e 400 b).2) ≤ e := by have := tx_nb (f := M 2) (b := (g_sum (M 2) e 400 b).2) g27.2; omega
                refine gm_sz (gm_p_load (pc := 189) (i := .aload_n 0) (sr := 2) (j := 0) (by decide +kernel) rfl rfl rfl) ?_
                refine gm_sz (gm_p_const (pc := 190) (i := .bipush (-12)) (v := gm_vi (-12)) (by decide +kernel) (by decide +kernel)) ?_
                refine gm_c_virt (k := 215) (ci := 9) (mj := 99) (ix := 94) (pc := 192) (as := [gm_vi (-12)]) (st := []) (d' := d - 1) (bc' := 0) (bs' := 0) (by decide +kernel) (by decide +kernel) (by decide +kernel) (by decide +kernel) (tE215c hE).1 (tE215c hE).2 (by decide) (by decide +kernel) (show 1 = gm_na 99 by decide +kernel) (fw_c1 fw_si) (show 2 ≤ gm_ml 99 by decide +kernel) (Nat.le_of_ble_eq_true rfl) (by omega) (Nat.zero_le _) (Nat.zero_le _) ?_
                refine tx_c99 hE k25 ⟨by decide, by decide⟩ (fun u47 C48 k49 => ?_)
                show gm_Wp X LX d _ _ 97 195 _ [] n K R _ Q
                refine gm_sz (gm_p_load (pc := 195) (i := .aload_n 0) (sr := 2) (j := 0) (by decide +kernel) rfl rfl rfl) ?_
                refine gm_c_virt (k := 215) (ci := 9) (mj := 100) (ix := 113) (pc := 196) (as := []) (st := []) (d' := d - 1) (bc' := 0) (bs' := 0) (by decide +kernel) (by decide +kernel) (by decide +kernel) (by decide +kernel) (tE215c hE).1 (tE215c hE).2 (by decide) (by decide +kernel) (show 0 = gm_na 100 by decide +kernel) fw_c0 (show 1 ≤ gm_ml 100 by decide +kernel) (Nat.le_of_ble_eq_true rfl) (by omega) (Nat.zero_le _) (Nat.zero_le _) ?_
                refine tx_c100 hE _ _ _ _ _ _ _ (by omega) g46 k49 (fun u50 C51 k52 j53 => ?_) (fun u50 C51 k52 j53 => ?_)
                · show gm_Wp X LX d _ _ 97 199 _ [gm_vi 1] n K R _ Q
                  have j53 : (g_sum (M 2) e 400 (tx_n (M 2) e ((g_sum (M 2) e 400 b).2))).1 = true := j53
                  have g54 : 0 ≤ (g_sum (M 2) e 400 (tx_n (M 2) e ((g_sum (M 2) e 400 b).2))).2 ∧ (g_sum (M 2) e 400 (tx_n (M 2) e ((g_sum (M 2) e 400 b).2))).2 ≤ e := by have := g_sum_in (f := M 2) 400 (tx_n (M 2) e ((g_sum (M 2) e 400 b).2)) g46.1 g46.2; have := g46.1; omega
                  refine fw_iftd (cc := .ne) (pc := 199) (off := 5) (by decide +kernel) (by decide) ⟨by decide, by decide⟩ (by decide) ?_
                  refine gm_sz (gm_p_load (pc := 204) (i := .aload_n 0) (sr := 2) (j := 0) (by decide +kernel) rfl rfl rfl) ?_
                  refine gm_sz (gm_p_load (pc := 205) (i := .iload_n 3) (sr := 0) (j := 3) (by decide +kernel) rfl rfl rfl) ?_
                  refine gm_sz (gm_p_const (pc := 206) (i := .bipush 60) (v := gm_vi 60) (by decide +kernel) (by decide +kernel)) ?_
                  refine fw_ic (cc := .ne) (pc := 208) (off := 8) (by decide +kernel) (by decide) ⟨by omega, by omega⟩ ⟨by decide, by decide⟩ (fun j55 => ?_) (fun j55 => ?_)
                  · have j55 : ¬ (tx_k (M 2) e ((g_sum (M 2) e 400 b).2)) = 60 := j55
                    refine gm_sz (gm_p_const (pc := 216) (i := .bipush (-14)) (v := gm_vi (-14)) (by decide +kernel) (by decide +kernel)) ?_
                    refine gm_c_virt (k := 215) (ci := 9) (mj := 99) (ix := 94) (pc := 218) (as := [gm_vi (-14)]) (st := []) (d' := d - 1) (bc' := 0) (bs' := 0) (by decide +kernel) (by decide +kernel) (by decide +kernel) (by decide +kernel) (tE215c hE).1 (tE215c hE).2 (by decide) (by decide +kernel) (show 1 = gm_na 99 by decide +kernel) (fw_c1 fw_si) (show 2 ≤ gm_ml 99 by decide +kernel) (Nat.le_of_ble_eq_true rfl) (by omega) (Nat.zero_le _) (Nat.zero_le _) ?_
                    refine tx_c99 hE k52 ⟨by decide, by decide⟩ (fun u56 C57 k58 => ?_)
                    show gm_Wp X LX d _ _ 97 221 _ [] n K R _ Q
                    refine gm_sz (gm_p_const (pc := 221) (i := .iconst 1) (v := gm_vi 1) (by decide +kernel) (by decide +kernel)) ?_
                    rw [g_a8 j1 (by omega) j13 j18 j26 (by omega)] at h1
                    exact gm_r_int (pc := 222) (by decide +kernel) (Or.inr ⟨(by decide +kernel), Or.inr rfl⟩) (h1 _ _ k58 j53)
                  · have j55 : (tx_k (M 2) e ((g_sum (M 2) e 400 b).2)) = 60 := Classical.not_not.mp j55
                    refine gm_sz (gm_p_const (pc := 211) (i := .bipush (-13)) (v := gm_vi (-13)) (by decide +kernel) (by decide +kernel)) ?_
                    refine gm_sz (gm_p_goto (pc := 213) (off := 5) (by decide +kernel) (by decide)) ?_
                    refine gm_c_virt (k := 215) (ci := 9) (mj := 99) (ix := 94) (pc := 218) (as := [gm_vi (-13)]) (st := []) (d' := d - 1) (bc' := 0) (bs' := 0) (by decide +kernel) (by decide +kernel) (by decide +kernel) (by decide +kernel) (tE215c hE).1 (tE215c hE).2 (by decide) (by decide +kernel) (show 1 = gm_na 99 by decide +kernel) (fw_c1 fw_si) (show 2 ≤ gm_ml 99 by decide +kernel) (Nat.le_of_ble_eq_true rfl) (by omega) (Nat.zero_le _) (Nat.zero_le _) ?_
                    refine tx_c99 hE k52 ⟨by decide, by decide⟩ (fun u59 C60 k61 => ?_)
                    show gm_Wp X LX d _ _ 97 221 _ [] n K R _ Q
                    refine gm_sz (gm_p_const (pc := 221) (i := .iconst 1) (v := gm_vi 1) (by decide +kernel) (by decide +kernel)) ?_
                    rw [g_a8 j1 (by omega) j13 j18 j26 (by omega)] at h1
                    exact gm_r_int (pc := 222) (by decide +kernel) (Or.inr ⟨(by decide +kernel), Or.inr rfl⟩) (h1 _ _ k61 j53)
                · show gm_Wp X LX d _ _ 97 199 _ [gm_vi 0] n K R _ Q
                  have j53 : ¬ (g_sum (M 2) e 400 (tx_n (M 2) e ((g_sum (M 2) e 400 b).2))).1 = true := j53
                  have g54 : 0 ≤ (g_sum (M 2) e 400 (tx_n (M 2) e ((g_sum (M 2) e 400 b).2))).2 ∧ (g_sum (M 2) e 400 (tx_n (M 2) e ((g_sum (M 2) e 400 b).2))).2 ≤ e := by have := g_sum_in (f := M 2) 400 (tx_n (M 2) e ((g_sum (M 2) e 400 b).2)) g46.1 g46.2; have := g46.1; omega
                  refine fw_iffd (cc := .ne) (pc := 199) (off := 5) (by decide +kernel) (by decide) ⟨by decide, by decide⟩ (by decide) ?_
                  refine gm_sz (gm_p_const (pc := 202) (i := .iconst 0) (v := gm_vi 0) (by decide +kernel) (by decide +kernel)) ?_
                  rw [g_a8 j1 (by omega) j13 j18 j26 (by omega)] at h0
                  exact gm_r_int (pc := 203) (by decide +kernel) (Or.inr ⟨(by decide +kernel), Or.inl rfl⟩) (h0 _ _ k52 j53)
              · have j45 : ¬ (tx_k (M 2) e ((g_sum (M 2) e 400 b).2)) = 62 := j45
                refine gm_sz (gm_p_load (pc := 174) (i := .aload_n 0) (sr := 2) (j := 0) (by decide +kernel) rfl rfl rfl) ?_
                refine gm_sz (fw_gr (pc := 175) (ix := 47) (ci := 9) (j := 0) (r := 216) (by decide +kernel) (tE215c hE) (by decide +kernel) (by decide +kernel) (tEr hE).2.1) ?_
                refine gm_c_virt (k := 216) (ci := 8) (mj := 93) (ix := 51) (pc := 178) (as := []) (st := []) (d' := d - 1) (bc' := 0) (bs' := 0) (by decide +kernel) (by decide +kernel) (by decide +kernel) (by decide +kernel) (tE216c hE).1 (tE216c hE).2 (by decide) (by decide +kernel) (show 0 = gm_na 93 by decide +kernel) fw_c0 (show 1 ≤ gm_ml 93 by decide +kernel) (Nat.le_of_ble_eq_true rfl) (by omega) (Nat.zero_le _) (Nat.zero_le _) ?_
                refine tx_c93 hE g27 ?_
                show gm_Wp X LX d _ _ 97 181 _ [gm_vi 0] n K R _ Q
                rw [g_a7 j1 (by omega) j13 j18 j26 (by omega)] at h0
                exact gm_r_int (pc := 181) (by decide +kernel) (Or.inr ⟨(by decide +kernel), Or.inl rfl⟩) (h0 _ _ k25 (fun h => by cases h))
          · show gm_Wp X LX d _ _ 97 149 _ [gm_vi 0] n K R _ Q
            have j26 : ¬ (g_sum (M 2) e 400 b).1 = true := j26
            have g27 : 0 ≤ (g_sum (M 2) e 400 b).2 ∧ (g_sum (M 2) e 400 b).2 ≤ e := by have := g_sum_in (f := M 2) 400 b hb.1 hb.2; have := hb.1; omega
            refine fw_iffd (cc := .ne) (pc := 149) (off := 5) (by decide +kernel) (by decide) ⟨by decide, by decide⟩ (by decide) ?_
            refine gm_sz (gm_p_const (pc := 152) (i := .iconst 0) (v := gm_vi 0) (by decide +kernel) (by decide +kernel)) ?_
            rw [g_a6 j1 (by omega) j13 j18 j26] at h0
            exact gm_r_int (pc := 153) (by decide +kernel) (Or.inr ⟨(by decide +kernel), Or.inl rfl⟩) (h0 _ _ k25 j26)
    · have j12 : (tx_k (M 2) e b) = 40 := Classical.not_not.mp j12
      refine gm_sz (gm_p_load (pc := 26) (i := .iload_n 1) (sr := 0) (j := 1) (by decide +kernel) rfl rfl rfl) ?_
      refine gm_sz (gm_p_const (pc := 27) (i := .bipush 6) (v := gm_vi 6) (by decide +kernel) (by decide +kernel)) ?_
      refine fw_ic (cc := .lt) (pc := 29) (off := 11) (by decide +kernel) (by decide) ⟨by omega, by omega⟩ ⟨by decide, by decide⟩ (fun j62 => ?_) (fun j62 => ?_)
      · have j62 : dep < 6 := j62
        refine gm_sz (gm_p_load (pc := 40) (i := .aload_n 0) (sr := 2) (j := 0) (by decide +kernel) rfl rfl rfl) ?_
        refine gm_sz (fw_gr (pc := 41) (ix := 47) (ci := 9) (j := 0) (r := 216) (by decide +kernel) (tE215c hE) (by decide +kernel) (by decide +kernel) (tEr hE).2.1) ?_
        refine gm_c_virt (k := 216) (ci := 8) (mj := 76) (ix := 57) (pc := 44) (as := []) (st := []) (d' := d - 1) (bc' := 0) (bs' := 0) (by decide +kernel) (by decide +kernel) (by decide +kernel) (by decide +kernel) (tE216c hE).1 (tE216c hE).2 (by decide) (by decide +kernel) (show 0 = gm_na 76 by decide +kernel) fw_c0 (show 1 ≤ gm_ml 76 by decide +kernel) (Nat.le_of_ble_eq_true rfl) (by omega) (Nat.zero_le _) (Nat.zero_le _) ?_
        refine tx_c76 (by omega) hE hb ?_
        show gm_Wp X LX d _ _ 97 47 _ [] n K R _ Q
        have g63 : 0 ≤ tx_n (M 2) e b ∧ tx_n (M 2) e b ≤ e := by have := tx_nb (f := M 2) (b := b) hb.2; omega
        refine gm_sz (gm_p_load (pc := 47) (i := .iload_n 2) (sr := 0) (j := 2) (by decide +kernel) rfl rfl rfl) ?_
        refine fw_iftd (cc := .eq) (pc := 48) (off := 13) (by decide +kernel) (by decide) ⟨by decide, by decide⟩ (by decide) ?_
        refine gm_sz (gm_p_load (pc := 61) (i := .aload_n 0) (sr := 2) (j := 0) (by decide +kernel) rfl rfl rfl) ?_
        refine gm_sz (gm_p_load (pc := 62) (i := .iload_n 1) (sr := 0) (j := 1) (by decide +kernel) rfl rfl rfl) ?_
        refine gm_sz (gm_p_const (pc := 63) (i := .iconst 1) (v := gm_vi 1) (by decide +kernel) (by decide +kernel)) ?_
        refine gm_sz (gm_p_bin (pc := 64) (i := .iadd) (f := fun x y => x + y) (by decide +kernel) rfl) ?_
        refine gm_c_virt (k := 215) (ci := 9) (mj := 96) (ix := 71) (pc := 65) (as := [gm_vi (dep + 1)]) (st := []) (d' := d - 1) (bc' := 0) (bs' := 0) (by decide +kernel) (by decide +kernel) (by decide +kernel) (by decide +kernel) (tE215c hE).1 (tE215c hE).2 (by decide) (by decide +kernel) (show 1 = gm_na 96 by decide +kernel) (fw_c1 fw_si) (show 2 ≤ gm_ml 96 by decide +kernel) (Nat.le_of_ble_eq_true rfl) (by omega) (Nat.zero_le _) (Nat.zero_le _) ?_
        refine hC (hok6.mpr j62) _ _ _ _ _ _ _ (by have := hd9.2 (hok6.mpr j62); omega) g63 hok (fun u64 C65 k66 j67 => ?_) (fun u64 C65 k66 j67 => ?_)
        · show gm_Wp X LX d _ _ 97 68 _ [gm_vi 1] n K R _ Q
          have j67 : (A2 (tx_n (M 2) e b)).1 = true := j67
          have g68 : 0 ≤ (A2 (tx_n (M 2) e b)).2 ∧ (A2 (tx_n (M 2) e b)).2 ≤ e := by have := iC (tx_n (M 2) e b) g63.1 g63.2; have := g63.1; omega
          refine fw_iffd (cc := .eq) (pc := 68) (off := 19) (by decide +kernel) (by decide) ⟨by decide, by decide⟩ (by decide) ?_
          refine gm_sz (gm_p_load (pc := 71) (i := .aload_n 0) (sr := 2) (j := 0) (by decide +kernel) rfl rfl rfl) ?_
          refine gm_sz (fw_gr (pc := 72) (ix := 47) (ci := 9) (j := 0) (r := 216) (by decide +kernel) (tE215c hE) (by decide +kernel) (by decide +kernel) (tEr hE).2.1) ?_
          refine gm_sz (gm_p_const (pc := 75) (i := .bipush 41) (v := gm_vi 41) (by decide +kernel) (by decide +kernel)) ?_
          refine gm_c_virt (k := 216) (ci := 8) (mj := 98) (ix := 105) (pc := 77) (as := [gm_vi 41]) (st := []) (d' := d - 1) (bc' := 0) (bs' := 0) (by decide +kernel) (by decide +kernel) (by decide +kernel) (by decide +kernel) (tE216c hE).1 (tE216c hE).2 (by decide) (by decide +kernel) (show 1 = gm_na 98 by decide +kernel) (fw_c1 fw_si) (show 2 ≤ gm_ml 98 by decide +kernel) (Nat.le_of_ble_eq_true rfl) (by omega) (Nat.zero_le _) (Nat.zero_le _) ?_
          refine tx_c98 (by omega) hE ⟨by decide, by decide⟩ g68 (fun j69 => ?_) (fun j69 => ?_)
          · show gm_Wp X LX d _ _ 97 80 _ [gm_vi 1] n K R _ Q
            have j69 : tx_k (M 2) e ((A2 (tx_n (M 2) e b)).2) = 41 := j69
            have g70 : 0 ≤ tx_n (M 2) e ((A2 (tx_n (M 2) e b)).2) ∧ tx_n (M 2) e ((A2 (tx_n (M 2) e b)).2) ≤ e := by have := tx_nb (f := M 2) (b := (A2 (tx_n (M 2) e b)).2) g68.2; omega
            refine fw_iffd (cc := .eq) (pc := 80) (off := 7) (by decide +kernel) (by decide) ⟨by decide, by decide⟩ (by decide) ?_
            refine gm_sz (gm_p_const (pc := 83) (i := .iconst 1) (v := gm_vi 1) (by decide +kernel) (by decide +kernel)) ?_
            refine gm_sz (gm_p_goto (pc := 84) (off := 4) (by decide +kernel) (by decide)) ?_
            refine gm_sz (gm_p_stor (pc := 88) (i := .istore_n 3) (sr := 0) (j := 3) (by decide +kernel) rfl (show 4 ≤ _ from Nat.le_of_ble_eq_true rfl) rfl) ?_
            refine gm_sz (gm_p_load (pc := 89) (i := .iload_n 3) (sr := 0) (j := 3) (by decide +kernel) rfl rfl rfl) ?_
            refine fw_iffd (cc := .eq) (pc := 90) (off := 13) (by decide +kernel) (by decide) ⟨by decide, by decide⟩ (by decide) ?_
            refine gm_sz (gm_p_load (pc := 93) (i := .iload_n 2) (sr := 0) (j := 2) (by decide +kernel) rfl rfl rfl) ?_
            refine fw_iftd (cc := .eq) (pc := 94) (off := 9) (by decide +kernel) (by decide) ⟨by decide, by decide⟩ (by decide) ?_
            refine gm_sz (gm_p_load (pc := 103) (i := .iload_n 3) (sr := 0) (j := 3) (by decide +kernel) rfl rfl rfl) ?_
            rw [g_a3 j1 (by omega) (hok6.mpr j62) j67 j69] at h1
            exact gm_r_int (pc := 104) (by decide +kernel) (Or.inr ⟨(by decide +kernel), Or.inr rfl⟩) (h1 _ _ k66 rfl)
          · show gm_Wp X LX d _ _ 97 80 _ [gm_vi 0] n K R _ Q
            have j69 : ¬ tx_k (M 2) e ((A2 (tx_n (M 2) e b)).2) = 41 := j69
            refine fw_iftd (cc := .eq) (pc := 80) (off := 7) (by decide +kernel) (by decide) ⟨by decide, by decide⟩ (by decide) ?_
            refine gm_sz (gm_p_const (pc := 87) (i := .iconst 0) (v := gm_vi 0) (by decide +kernel) (by decide +kernel)) ?_
            refine gm_sz (gm_p_stor (pc := 88) (i := .istore_n 3) (sr := 0) (j := 3) (by decide +kernel) rfl (show 4 ≤ _ from Nat.le_of_ble_eq_true rfl) rfl) ?_
            refine gm_sz (gm_p_load (pc := 89) (i := .iload_n 3) (sr := 0) (j := 3) (by decide +kernel) rfl rfl rfl) ?_
            refine fw_iftd (cc := .eq) (pc := 90) (off := 13) (by decide +kernel) (by decide) ⟨by decide, by decide⟩ (by decide) ?_
            refine gm_sz (gm_p_load (pc := 103) (i := .iload_n 3) (sr := 0) (j := 3) (by decide +kernel) rfl rfl rfl) ?_
            rw [g_a4 j1 (by omega) (hok6.mpr j62) j67 j69] at h0
            exact gm_r_int (pc := 104) (by decide +kernel) (Or.inr ⟨(by decide +kernel), Or.inl rfl⟩) (h0 _ _ k66 (fun h => by cases h))
        · show gm_Wp X LX d _ _ 97 68 _ [gm_vi 0] n K R _ Q
          have j67 : ¬ (A2 (tx_n (M 2) e b)).1 = true := j67
          have g68 : 0 ≤ (A2 (tx_n (M 2) e b)).2 ∧ (A2 (tx_n (M 2) e b)).2 ≤ e := by have := iC (tx_n (M 2) e b) g63.1 g63.2; have := g63.1; omega
          refine fw_iftd (cc := .eq) (pc := 68) (off := 19) (by decide +kernel) (by decide) ⟨by decide, by decide⟩ (by decide) ?_
          refine gm_sz (gm_p_const (pc := 87) (i := .iconst 0) (v := gm_vi 0) (by decide +kernel) (by decide +kernel)) ?_
          refine gm_sz (gm_p_stor (pc := 88) (i := .istore_n 3) (sr := 0) (j := 3) (by decide +kernel) rfl (show 4 ≤ _ from Nat.le_of_ble_eq_true rfl) rfl) ?_
          refine gm_sz (gm_p_load (pc := 89) (i := .iload_n 3) (sr := 0) (j := 3) (by decide +kernel) rfl rfl rfl) ?_
          refine fw_iftd (cc := .eq) (pc := 90) (off := 13) (by decide +kernel) (by decide) ⟨by decide, by decide⟩ (by decide) ?_
          refine gm_sz (gm_p_load (pc := 103) (i := .iload_n 3) (sr := 0) (j := 3) (by decide +kernel) rfl rfl rfl) ?_
          rw [g_a2 j1 (by omega) (hok6.mpr j62) j67] at h0
          exact gm_r_int (pc := 104) (by decide +kernel) (Or.inr ⟨(by decide +kernel), Or.inl rfl⟩) (h0 _ _ k66 j67)
      · have j62 : ¬ dep < 6 := j62
        refine gm_sz (gm_p_load (pc := 32) (i := .aload_n 0) (sr := 2) (j := 0) (by decide +kernel) rfl rfl rfl) ?_
        refine gm_sz (fw_gr (pc := 33) (ix := 47) (ci := 9) (j := 0) (r := 216) (by decide +kernel) (tE215c hE) (by decide +kernel) (by decide +kernel) (tEr hE).2.1) ?_
        refine gm_c_virt (k := 216) (ci := 8) (mj := 93) (ix := 51) (pc := 36) (as := []) (st := []) (d' := d - 1) (bc' := 0) (bs' := 0) (by decide +kernel) (by decide +kernel) (by decide +kernel) (by decide +kernel) (tE216c hE).1 (tE216c hE).2 (by decide) (by decide +kernel) (show 0 = gm_na 93 by decide +kernel) fw_c0 (show 1 ≤ gm_ml 93 by decide +kernel) (Nat.le_of_ble_eq_true rfl) (by omega) (Nat.zero_le _) (Nat.zero_le _) ?_
        refine tx_c93 hE hb ?_
        show gm_Wp X LX d _ _ 97 39 _ [gm_vi 0] n K R _ Q
        rw [g_a0 (Or.inr (by omega)) (fun h => j62 (hok6.mp h))] at h0
        exact gm_r_int (pc := 39) (by decide +kernel) (Or.inr ⟨(by decide +kernel), Or.inl rfl⟩) (h0 _ _ hok (fun h => by cases h))
theorem tx_s96 {A : Int → Bool × Int} {dep j : Int} {dA : Nat} (hE : tx_E n K R M e) (hA : cA X LX n K R M e lc D 97 [gm_vr 215, gm_vi dep] A dA) (iA : g_in e A) (hd : 7 ≤ d ∧ dA + 1 ≤ d) : ∀ (t : Nat) (i b us : Int) (C : Int → Int), i + t = 400 → 0 ≤ i → 0 ≤ b ∧ b ≤ e → ctk us lc D C → (∀ us2 C2 i2, ctk us2 lc D C2 → (g_all (M 2) e A t b).1 = true → gm_Wp X LX d bc bs 96 59 [some (gm_vr 215), some (gm_vi dep), some (gm_vi j), some (gm_vi i2)] [] n K R (ct M e (g_all (M 2) e A t b).2 (-1) us2 lc D C2) Q) → (∀ us2 C2, ctk us2 lc D C2 → ¬ (g_all (M 2) e A t b).1 = true → Q (.inl (some (gm_vi 0))) n K R (ct M e (g_all (M 2) e A t b).2 (g_all (M 2) e A t b).2 us2 lc D C2)) → gm_Wp X LX d bc bs 96 11 [some (gm_vr 215), some (gm_vi dep), some (gm_vi j), some (gm_vi i)] [] n K R (ct M e b (-1) us lc D C) Q := by
  obtain ⟨-, he0, he4⟩ := tEe hE
  intro t
  induction t with
  | zero =>
    intro i b us C hit hi0 hb hok h1 h0
    refine gm_sz (gm_p_load (pc := 11) (i := .iload_n 3) (sr := 0) (j := 3) (by decide +kernel) rfl rfl rfl) ?_
    refine gm_sz (gm_p_const (pc := 12) (i := .sipush 400) (v := gm_vi 400) (by decide +kernel) (by decide +kernel)) ?_
    refine fw_ict (cc := .ge) (pc := 15) (off := 44) (by decide +kernel) (by decide) ⟨by omega, by omega⟩ ⟨by decide, by decide⟩ (show 400 ≤ i by omega) ?_
    exact h1 us C i hok rfl
  | succ t ih =>
    intro i b us C hit hi0 hb hok h1 h0
    refine gm_sz (gm_p_load (pc := 11) (i := .iload_n 3) (sr := 0) (j := 3) (by decide +kernel) rfl rfl rfl) ?_
    refine gm_sz (gm_p_const (pc := 12) (i := .sipush 400) (v := gm_vi 400) (by decide +kernel) (by decide +kernel)) ?_
    refine fw_icf (cc := .ge) (pc := 15) (off := 44) (by decide +kernel) (by decide) ⟨by omega, by omega⟩ ⟨by decide, by decide⟩ (show ¬ 400 ≤ i by omega) ?_
    refine gm_sz (gm_p_load (pc := 18) (i := .aload_n 0) (sr := 2) (j := 0) (by decide +kernel) rfl rfl rfl) ?_
    refine gm_sz (gm_p_load (pc := 19) (i := .iload_n 1) (sr := 0) (j := 1) (by decide +kernel) rfl rfl rfl) ?_
    refine gm_c_virt (k := 215) (ci := 9) (mj := 97) (ix := 91) (pc := 20) (as := [gm_vi dep]) (st := []) (d' := d - 1) (bc' := 0) (bs' := 0) (by decide +kernel) (by decide +kernel) (by decide +kernel) (by decide +kernel) (tE215c hE).1 (tE215c hE).2 (by decide) (by decide +kernel) (show 1 = gm_na 97 by decide +kernel) (fw_c1 fw_si) (show 2 ≤ gm_ml 97 by decide +kernel) (Nat.le_of_ble_eq_true rfl) (by omega) (Nat.zero_le _) (Nat.zero_le _) ?_
    refine hA _ _ _ _ _ _ _ (by omega) hb hok (fun u1 C2 k3 j4 => ?_) (fun u1 C2 k3 j4 => ?_)
    · show gm_Wp X LX d _ _ 96 23 _ [gm_vi 1] n K R _ Q
      have j4 : (A b).1 = true := j4
      have g5 : 0 ≤ (A b).2 ∧ (A b).2 ≤ e := by have := iA b hb.1 hb.2; have := hb.1; omega
      refine fw_iftd (cc := .ne) (pc := 23) (off := 5) (by decide +kernel) (by decide) ⟨by decide, by decide⟩ (by decide) ?_
      refine gm_sz (gm_p_load (pc := 28) (i := .iload_n 3) (sr := 0) (j := 3) (by decide +kernel) rfl rfl rfl) ?_
      refine fw_if (cc := .le) (pc := 29) (off := 9) (by decide +kernel) (by decide) ⟨by omega, by omega⟩ (fun j6 => ?_) (fun j6 => ?_)
      · have j6 : i ≤ 0 := j6
        refine gm_sz (gm_p_load (pc := 38) (i := .aload_n 0) (sr := 2) (j := 0) (by decide +kernel) rfl rfl rfl) ?_
        refine gm_sz (fw_gr (pc := 39) (ix := 47) (ci := 9) (j := 0) (r := 216) (by decide +kernel) (tE215c hE) (by decide +kernel) (by decide +kernel) (tEr hE).2.1) ?_
        refine gm_sz (gm_p_ldcs (pc := 42) (i := .ldc 96) (ix := 96) (id := 15) (by decide +kernel) (Or.inl rfl) (by decide +kernel)) ?_
        refine gm_c_virt (k := 216) (ci := 8) (mj := 95) (ix := 67) (pc := 44) (as := [gm_vo 15]) (st := []) (d' := d - 1) (bc' := 0) (bs' := 0) (by decide +kernel) (by decide +kernel) (by decide +kernel) (by decide +kernel) (tE216c hE).1 (tE216c hE).2 (by decide) (by decide +kernel) (show 1 = gm_na 95 by decide +kernel) (fw_c1 fw_so) (show 2 ≤ gm_ml 95 by decide +kernel) (Nat.le_of_ble_eq_true rfl) (by omega) (Nat.zero_le _) (Nat.zero_le _) ?_
        refine tx_c95 (by omega) hE (by decide) (show tx_o 15 = wo_and by decide +kernel) g5 (fun j7 => ?_) (fun j7 => ?_)
        · show gm_Wp X LX d _ _ 96 47 _ [gm_vi 1] n K R _ Q
          have j7 : tx_is (M 2) e ((A b).2) wo_and := j7
          have g8 : 0 ≤ tx_n (M 2) e ((A b).2) ∧ tx_n (M 2) e ((A b).2) ≤ e := by have := tx_nb (f := M 2) (b := (A b).2) g5.2; omega
          refine fw_iftd (cc := .ne) (pc := 47) (off := 6) (by decide +kernel) (by decide) ⟨by decide, by decide⟩ (by decide) ?_
          refine gm_sz (gm_p_iinc (pc := 53) (j := 3) (z := 1) (by decide +kernel) rfl) ?_
          refine gm_sz (gm_p_goto (pc := 56) (off := (-45)) (by decide +kernel) (by decide)) ?_
          rw [g_l2 j4 j7] at h1 h0
          exact ih (i + 1) _ _ _ (by omega) (by omega) g8 k3 h1 h0
        · show gm_Wp X LX d _ _ 96 47 _ [gm_vi 0] n K R _ Q
          have j7 : ¬ tx_is (M 2) e ((A b).2) wo_and := j7
          refine fw_iffd (cc := .ne) (pc := 47) (off := 6) (by decide +kernel) (by decide) ⟨by decide, by decide⟩ (by decide) ?_
          refine gm_sz (gm_p_goto (pc := 50) (off := 9) (by decide +kernel) (by decide)) ?_
          rw [g_l1 j4 j7] at h1
          exact h1 _ _ _ k3 rfl
      · have j6 : ¬ i ≤ 0 := j6
        refine gm_sz (gm_p_load (pc := 32) (i := .aload_n 0) (sr := 2) (j := 0) (by decide +kernel) rfl rfl rfl) ?_
        refine gm_sz (gm_p_const (pc := 33) (i := .bipush (-16)) (v := gm_vi (-16)) (by decide +kernel) (by decide +kernel)) ?_
        refine gm_c_virt (k := 215) (ci := 9) (mj := 99) (ix := 94) (pc := 35) (as := [gm_vi (-16)]) (st := []) (d' := d - 1) (bc' := 0) (bs' := 0) (by decide +kernel) (by decide +kernel) (by decide +kernel) (by decide +kernel) (tE215c hE).1 (tE215c hE).2 (by decide) (by decide +kernel) (show 1 = gm_na 99 by decide +kernel) (fw_c1 fw_si) (show 2 ≤ gm_ml 99 by decide +kernel) (Nat.le_of_ble_eq_true rfl) (by omega) (Nat.zero_le _) (Nat.zero_le _) ?_
        refine tx_c99 hE k3 ⟨by decide, by decide⟩ (fun u9 C10 k11 => ?_)
        show gm_Wp X LX d _ _ 96 38 _ [] n K R _ Q
        refine gm_sz (gm_p_load (pc := 38) (i := .aload_n 0) (sr := 2) (j := 0) (by decide +kernel) rfl rfl rfl) ?_
        refine gm_sz (fw_gr (pc := 39) (ix := 47) (ci := 9) (j := 0) (r := 216) (by decide +kernel) (tE215c hE) (by decide +kernel) (by decide +kernel) (tEr hE).2.1) ?_
        refine gm_sz (gm_p_ldcs (pc := 42) (i := .ldc 96) (ix := 96) (id := 15) (by decide +kernel) (Or.inl rfl) (by decide +kernel)) ?_
        refine gm_c_virt (k := 216) (ci := 8) (mj := 95) (ix := 67) (pc := 44) (as := [gm_vo 15]) (st := []) (d' := d - 1) (bc' := 0) (bs' := 0) (by decide +kernel) (by decide +kernel) (by decide +kernel) (by decide +kernel) (tE216c hE).1 (tE216c hE).2 (by decide) (by decide +kernel) (show 1 = gm_na 95 by decide +kernel) (fw_c1 fw_so) (show 2 ≤ gm_ml 95 by decide +kernel) (Nat.le_of_ble_eq_true rfl) (by omega) (Nat.zero_le _) (Nat.zero_le _) ?_
        refine tx_c95 (by omega) hE (by decide) (show tx_o 15 = wo_and by decide +kernel) g5 (fun j12 => ?_) (fun j12 => ?_)
        · show gm_Wp X LX d _ _ 96 47 _ [gm_vi 1] n K R _ Q
          have j12 : tx_is (M 2) e ((A b).2) wo_and := j12
          have g13 : 0 ≤ tx_n (M 2) e ((A b).2) ∧ tx_n (M 2) e ((A b).2) ≤ e := by have := tx_nb (f := M 2) (b := (A b).2) g5.2; omega
          refine fw_iftd (cc := .ne) (pc := 47) (off := 6) (by decide +kernel) (by decide) ⟨by decide, by decide⟩ (by decide) ?_
          refine gm_sz (gm_p_iinc (pc := 53) (j := 3) (z := 1) (by decide +kernel) rfl) ?_
          refine gm_sz (gm_p_goto (pc := 56) (off := (-45)) (by decide +kernel) (by decide)) ?_
          rw [g_l2 j4 j12] at h1 h0
          exact ih (i + 1) _ _ _ (by omega) (by omega) g13 k11 h1 h0
        · show gm_Wp X LX d _ _ 96 47 _ [gm_vi 0] n K R _ Q
          have j12 : ¬ tx_is (M 2) e ((A b).2) wo_and := j12
          refine fw_iffd (cc := .ne) (pc := 47) (off := 6) (by decide +kernel) (by decide) ⟨by decide, by decide⟩ (by decide) ?_
          refine gm_sz (gm_p_goto (pc := 50) (off := 9) (by decide +kernel) (by decide)) ?_
          rw [g_l1 j4 j12] at h1
          exact h1 _ _ _ k11 rfl
    · show gm_Wp X LX d _ _ 96 23 _ [gm_vi 0] n K R _ Q
      have j4 : ¬ (A b).1 = true := j4
      have g5 : 0 ≤ (A b).2 ∧ (A b).2 ≤ e := by have := iA b hb.1 hb.2; have := hb.1; omega
      refine fw_iffd (cc := .ne) (pc := 23) (off := 5) (by decide +kernel) (by decide) ⟨by decide, by decide⟩ (by decide) ?_
      refine gm_sz (gm_p_const (pc := 26) (i := .iconst 0) (v := gm_vi 0) (by decide +kernel) (by decide +kernel)) ?_
      rw [g_l0 j4] at h0
      exact gm_r_int (pc := 27) (by decide +kernel) (Or.inr ⟨(by decide +kernel), Or.inl rfl⟩) (h0 _ _ k3 j4)
theorem tx_t96 {A : Int → Bool × Int} {dep : Int} {dA : Nat} (hE : tx_E n K R M e) (hA : cA X LX n K R M e lc D 97 [gm_vr 215, gm_vi dep] A dA) (iA : g_in e A) (hd : 7 ≤ d ∧ dA + 1 ≤ d) : ∀ (t : Nat) (j b us : Int) (C : Int → Int) (z : Option gm_V), j + t = 400 → 0 ≤ j → 0 ≤ b ∧ b ≤ e → ctk us lc D C → (∀ us2 C2, ctk us2 lc D C2 → (g_cnd (M 2) e A t b).1 = true → Q (.inl (some (gm_vi 1))) n K R (ct M e (g_cnd (M 2) e A t b).2 (-1) us2 lc D C2)) → (∀ us2 C2, ctk us2 lc D C2 → ¬ (g_cnd (M 2) e A t b).1 = true → Q (.inl (some (gm_vi 0))) n K R (ct M e (g_cnd (M 2) e A t b).2 (g_cnd (M 2) e A t b).2 us2 lc D C2)) → gm_Wp X LX d bc bs 96 2 [some (gm_vr 215), some (gm_vi dep), some (gm_vi j), z] [] n K R (ct M e b (-1) us lc D C) Q := by
  obtain ⟨-, he0, he4⟩ := tEe hE
  intro t
  induction t with
  | zero =>
    intro j b us C z hjt hj0 hb hok h1 h0
    refine gm_sz (gm_p_load (pc := 2) (i := .iload_n 2) (sr := 0) (j := 2) (by decide +kernel) rfl rfl rfl) ?_
    refine gm_sz (gm_p_const (pc := 3) (i := .sipush 400) (v := gm_vi 400) (by decide +kernel) (by decide +kernel)) ?_
    refine fw_ict (cc := .ge) (pc := 6) (off := 83) (by decide +kernel) (by decide) ⟨by omega, by omega⟩ ⟨by decide, by decide⟩ (show 400 ≤ j by omega) ?_
    refine gm_sz (gm_p_load (pc := 89) (i := .aload_n 0) (sr := 2) (j := 0) (by decide +kernel) rfl rfl rfl) ?_
    refine gm_sz (fw_gr (pc := 90) (ix := 47) (ci := 9) (j := 0) (r := 216) (by decide +kernel) (tE215c hE) (by decide +kernel) (by decide +kernel) (tEr hE).2.1) ?_
    refine gm_c_virt (k := 216) (ci := 8) (mj := 93) (ix := 51) (pc := 93) (as := []) (st := []) (d' := d - 1) (bc' := 0) (bs' := 0) (by decide +kernel) (by decide +kernel) (by decide +kernel) (by decide +kernel) (tE216c hE).1 (tE216c hE).2 (by decide) (by decide +kernel) (show 0 = gm_na 93 by decide +kernel) fw_c0 (show 1 ≤ gm_ml 93 by decide +kernel) (Nat.le_of_ble_eq_true rfl) (by omega) (Nat.zero_le _) (Nat.zero_le _) ?_
    refine tx_c93 hE hb ?_
    show gm_Wp X LX d _ _ 96 96 _ [gm_vi 0] n K R _ Q
    exact gm_r_int (pc := 96) (by decide +kernel) (Or.inr ⟨(by decide +kernel), Or.inl rfl⟩) (h0 us C hok (fun h => by cases h))
  | succ t ih =>
    intro j b us C z hjt hj0 hb hok h1 h0
    refine gm_sz (gm_p_load (pc := 2) (i := .iload_n 2) (sr := 0) (j := 2) (by decide +kernel) rfl rfl rfl) ?_
    refine gm_sz (gm_p_const (pc := 3) (i := .sipush 400) (v := gm_vi 400) (by decide +kernel) (by decide +kernel)) ?_
    refine fw_icf (cc := .ge) (pc := 6) (off := 83) (by decide +kernel) (by decide) ⟨by omega, by omega⟩ ⟨by decide, by decide⟩ (show ¬ 400 ≤ j by omega) ?_
    refine gm_sz (gm_p_const (pc := 9) (i := .iconst 0) (v := gm_vi 0) (by decide +kernel) (by decide +kernel)) ?_
    refine gm_sz (gm_p_stor (pc := 10) (i := .istore_n 3) (sr := 0) (j := 3) (by decide +kernel) rfl (show 4 ≤ _ from Nat.le_of_ble_eq_true rfl) rfl) ?_
    refine tx_s96 hE hA iA hd 400 0 b us C (by omega) (Int.le_refl _) hb hok (fun us2 C2 i2 hok2 hl => ?_) (fun us2 C2 hok2 hl => ?_)
    · have hb2 : 0 ≤ (g_all (M 2) e A 400 b).2 ∧ (g_all (M 2) e A 400 b).2 ≤ e := by have := g_all_in (f := M 2) iA 400 b hb.1 hb.2; have := hb.1; omega
      refine gm_sz (gm_p_load (pc := 59) (i := .iload_n 2) (sr := 0) (j := 2) (by decide +kernel) rfl rfl rfl) ?_
      refine fw_if (cc := .le) (pc := 60) (off := 9) (by decide +kernel) (by decide) ⟨by omega, by omega⟩ (fun j1 => ?_) (fun j1 => ?_)
      · have j1 : j ≤ 0 := j1
        refine gm_sz (gm_p_load (pc := 69) (i := .aload_n 0) (sr := 2) (j := 0) (by decide +kernel) rfl rfl rfl) ?_
        refine gm_sz (fw_gr (pc := 70) (ix := 47) (ci := 9) (j := 0) (r := 216) (by decide +kernel) (tE215c hE) (by decide +kernel) (by decide +kernel) (tEr hE).2.1) ?_
        refine gm_sz (gm_p_ldcs (pc := 73) (i := .ldc 98) (ix := 98) (id := 16) (by decide +kernel) (Or.inl rfl) (by decide +kernel)) ?_
        refine gm_c_virt (k := 216) (ci := 8) (mj := 95) (ix := 67) (pc := 75) (as := [gm_vo 16]) (st := []) (d' := d - 1) (bc' := 0) (bs' := 0) (by decide +kernel) (by decide +kernel) (by decide +kernel) (by decide +kernel) (tE216c hE).1 (tE216c hE).2 (by decide) (by decide +kernel) (show 1 = gm_na 95 by decide +kernel) (fw_c1 fw_so) (show 2 ≤ gm_ml 95 by decide +kernel) (Nat.le_of_ble_eq_true rfl) (by omega) (Nat.zero_le _) (Nat.zero_le _) ?_
        refine tx_c95 (by omega) hE (by decide) (show tx_o 16 = wo_or by decide +kernel) hb2 (fun j2 => ?_) (fun j2 => ?_)
        · show gm_Wp X LX d _ _ 96 78 _ [gm_vi 1] n K R _ Q
          have j2 : tx_is (M 2) e ((g_all (M 2) e A 400 b).2) wo_or := j2
          have g3 : 0 ≤ tx_n (M 2) e ((g_all (M 2) e A 400 b).2) ∧ tx_n (M 2) e ((g_all (M 2) e A 400 b).2) ≤ e := by have := tx_nb (f := M 2) (b := (g_all (M 2) e A 400 b).2) hb2.2; omega
          refine fw_iftd (cc := .ne) (pc := 78) (off := 5) (by decide +kernel) (by decide) ⟨by decide, by decide⟩ (by decide) ?_
          refine gm_sz (gm_p_iinc (pc := 83) (j := 2) (z := 1) (by decide +kernel) rfl) ?_
          refine gm_sz (gm_p_goto (pc := 86) (off := (-84)) (by decide +kernel) (by decide)) ?_
          rw [g_d2 hl j2] at h1 h0
          exact ih (j + 1) _ _ _ _ (by omega) (by omega) g3 hok2 h1 h0
        · show gm_Wp X LX d _ _ 96 78 _ [gm_vi 0] n K R _ Q
          have j2 : ¬ tx_is (M 2) e ((g_all (M 2) e A 400 b).2) wo_or := j2
          refine fw_iffd (cc := .ne) (pc := 78) (off := 5) (by decide +kernel) (by decide) ⟨by decide, by decide⟩ (by decide) ?_
          refine gm_sz (gm_p_const (pc := 81) (i := .iconst 1) (v := gm_vi 1) (by decide +kernel) (by decide +kernel)) ?_
          rw [g_d1 hl j2] at h1
          exact gm_r_int (pc := 82) (by decide +kernel) (Or.inr ⟨(by decide +kernel), Or.inr rfl⟩) (h1 _ _ hok2 rfl)
      · have j1 : ¬ j ≤ 0 := j1
        refine gm_sz (gm_p_load (pc := 63) (i := .aload_n 0) (sr := 2) (j := 0) (by decide +kernel) rfl rfl rfl) ?_
        refine gm_sz (gm_p_const (pc := 64) (i := .bipush (-17)) (v := gm_vi (-17)) (by decide +kernel) (by decide +kernel)) ?_
        refine gm_c_virt (k := 215) (ci := 9) (mj := 99) (ix := 94) (pc := 66) (as := [gm_vi (-17)]) (st := []) (d' := d - 1) (bc' := 0) (bs' := 0) (by decide +kernel) (by decide +kernel) (by decide +kernel) (by decide +kernel) (tE215c hE).1 (tE215c hE).2 (by decide) (by decide +kernel) (show 1 = gm_na 99 by decide +kernel) (fw_c1 fw_si) (show 2 ≤ gm_ml 99 by decide +kernel) (Nat.le_of_ble_eq_true rfl) (by omega) (Nat.zero_le _) (Nat.zero_le _) ?_
        refine tx_c99 hE hok2 ⟨by decide, by decide⟩ (fun u4 C5 k6 => ?_)
        show gm_Wp X LX d _ _ 96 69 _ [] n K R _ Q
        refine gm_sz (gm_p_load (pc := 69) (i := .aload_n 0) (sr := 2) (j := 0) (by decide +kernel) rfl rfl rfl) ?_
        refine gm_sz (fw_gr (pc := 70) (ix := 47) (ci := 9) (j := 0) (r := 216) (by decide +kernel) (tE215c hE) (by decide +kernel) (by decide +kernel) (tEr hE).2.1) ?_
        refine gm_sz (gm_p_ldcs (pc := 73) (i := .ldc 98) (ix := 98) (id := 16) (by decide +kernel) (Or.inl rfl) (by decide +kernel)) ?_
        refine gm_c_virt (k := 216) (ci := 8) (mj := 95) (ix := 67) (pc := 75) (as := [gm_vo 16]) (st := []) (d' := d - 1) (bc' := 0) (bs' := 0) (by decide +kernel) (by decide +kernel) (by decide +kernel) (by decide +kernel) (tE216c hE).1 (tE216c hE).2 (by decide) (by decide +kernel) (show 1 = gm_na 95 by decide +kernel) (fw_c1 fw_so) (show 2 ≤ gm_ml 95 by decide +kernel) (Nat.le_of_ble_eq_true rfl) (by omega) (Nat.zero_le _) (Nat.zero_le _) ?_
        refine tx_c95 (by omega) hE (by decide) (show tx_o 16 = wo_or by decide +kernel) hb2 (fun j7 => ?_) (fun j7 => ?_)
        · show gm_Wp X LX d _ _ 96 78 _ [gm_vi 1] n K R _ Q
          have j7 : tx_is (M 2) e ((g_all (M 2) e A 400 b).2) wo_or := j7
          have g8 : 0 ≤ tx_n (M 2) e ((g_all (M 2) e A 400 b).2) ∧ tx_n (M 2) e ((g_all (M 2) e A 400 b).2) ≤ e := by have := tx_nb (f := M 2) (b := (g_all (M 2) e A 400 b).2) hb2.2; omega
          refine fw_iftd (cc := .ne) (pc := 78) (off := 5) (by decide +kernel) (by decide) ⟨by decide, by decide⟩ (by decide) ?_
          refine gm_sz (gm_p_iinc (pc := 83) (j := 2) (z := 1) (by decide +kernel) rfl) ?_
          refine gm_sz (gm_p_goto (pc := 86) (off := (-84)) (by decide +kernel) (by decide)) ?_
          rw [g_d2 hl j7] at h1 h0
          exact ih (j + 1) _ _ _ _ (by omega) (by omega) g8 k6 h1 h0
        · show gm_Wp X LX d _ _ 96 78 _ [gm_vi 0] n K R _ Q
          have j7 : ¬ tx_is (M 2) e ((g_all (M 2) e A 400 b).2) wo_or := j7
          refine fw_iffd (cc := .ne) (pc := 78) (off := 5) (by decide +kernel) (by decide) ⟨by decide, by decide⟩ (by decide) ?_
          refine gm_sz (gm_p_const (pc := 81) (i := .iconst 1) (v := gm_vi 1) (by decide +kernel) (by decide +kernel)) ?_
          rw [g_d1 hl j7] at h1
          exact gm_r_int (pc := 82) (by decide +kernel) (Or.inr ⟨(by decide +kernel), Or.inr rfl⟩) (h1 _ _ k6 rfl)
    · rw [g_d0 hl] at h0
      exact h0 _ _ hok2 hl
theorem tx_c96 {A : Int → Bool × Int} {dep : Int} {dA dn : Nat} (hE : tx_E n K R M e) (hA : cA X LX n K R M e lc D 97 [gm_vr 215, gm_vi dep] A dA) (iA : g_in e A) (hd9 : 7 ≤ dn ∧ dA + 1 ≤ dn) : cA X LX n K R M e lc D 96 [gm_vr 215, gm_vi dep] (g_cnd (M 2) e A 400) dn := by
  intro d bc bs b us C Q hd hb hok h1 h0
  refine gm_sz (gm_p_const (pc := 0) (i := .iconst 0) (v := gm_vi 0) (by decide +kernel) (by decide +kernel)) ?_
  refine gm_sz (gm_p_stor (pc := 1) (i := .istore_n 2) (sr := 0) (j := 2) (by decide +kernel) rfl (show 3 ≤ _ from Nat.le_of_ble_eq_true rfl) rfl) ?_
  exact tx_t96 hE hA iA ⟨by omega, by omega⟩ 400 0 b us C none rfl (Int.le_refl _) hb hok h1 h0
/-- readAtom and readCondition, k deep still -/
theorem tx_at (hE : tx_E n K R M e) : ∀ k : Nat, k ≤ 6 → cA X LX n K R M e lc D 97 [gm_vr 215, gm_vi (6 - (k : Int))] (g_at (M 2) e k) (9 + 2 * k) := by
  intro k
  induction k with
  | zero => exact fun _ => tx_c97 hE ⟨by decide, by decide⟩ (Iff.intro (fun h => h.elim) (fun h => by omega)) (dA := 0) (dC := 0) (fun h => h.elim) (fun h => h.elim) g_no_in g_no_in ⟨by omega, fun h => h.elim⟩
  | succ k ih =>
    intro hk
    have e1 : (6 : Int) - ((k + 1 : Nat) : Int) + 1 = 6 - (k : Int) := by omega
    refine tx_c97 (dA := 9 + 2 * k) (dC := 10 + 2 * k) hE ⟨by omega, by omega⟩ (Iff.intro (fun _ => by omega) (fun _ => trivial)) (fun _ => ?_) (fun _ => ?_) (g_at_in k) (g_cnd_in (g_at_in k) 400) ⟨by omega, fun _ => by omega⟩
    · rw [e1]
      exact ih (by omega)
    · rw [e1]
      exact tx_c96 hE (ih (by omega)) (g_at_in k) (by omega)
theorem tx_cd (hE : tx_E n K R M e) : cA X LX n K R M e lc D 96 [gm_vr 215, gm_vi 0] (g_cd (M 2) e 6) 22 := tx_c96 hE (tx_at hE 6 (by decide)) (g_at_in 6) (by decide)
end CL
