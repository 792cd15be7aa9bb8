/-! 7a30.k1cl -/
section
/-! THE CLASS'S READER OF A LAW, with the codes that it lays down (laid by wip/core/k1.py out of p5's texts). -/
/-- the codes laid down so far -/
noncomputable def ctl (Lc : List Int) (us lc : Int) (D C : Int → Int) : Prop := us = (Lc.length : Int) ∧ ctk us lc D C ∧ ∀ (i : Nat) (v : Int), Lc[i]? = some v → C (i : Int) = v
theorem klen {Lc E : List Int} {us u2 lc lc2 : Int} {D D2 C C2 : Int → Int} (k : ctl (Lc ++ E) u2 lc2 D2 C2) (h : ctl Lc us lc D C) : u2 = us + (E.length : Int) := by
  have e1 := k.1
  rw [List.length_append] at e1
  have e2 := h.1
  omega
theorem ctl_put {Lc : List Int} {us lc x : Int} {D C : Int → Int} (h : ctl Lc us lc D C) (h4 : us < 400) (hx : gm_ir x) : ctl (Lc ++ [x]) (us + 1) lc D (fun z => if z = us then x else C z) := by
  obtain ⟨e1, ⟨⟨⟨u1, u2⟩, u3⟩, u4, u5⟩, e2⟩ := h
  refine ⟨?_, ⟨⟨⟨by omega, by omega⟩, u3⟩, u4, fun j h1 h2 => ?_⟩, fun i v hi => ?_⟩
  · rw [List.length_append]
    show us + 1 = ((Lc.length + 1 : Nat) : Int)
    omega
  · show gm_ir (if j = us then x else C j)
    split
    · exact hx
    · exact u5 j h1 h2
  · show (if (i : Int) = us then x else C (i : Int)) = v
    by_cases hl : i < Lc.length
    · rw [if_neg (by omega)]
      rw [List.getElem?_append_left hl] at hi
      exact e2 i v hi
    · rw [List.getElem?_append_right (by omega)] at hi
      have h0 : i - Lc.length = 0 := by
        cases hk : i - Lc.length with
        | zero => rfl
        | succ k => rw [hk] at hi; simp at hi
      rw [h0] at hi
      rw [if_pos (by omega)]
      simpa using hi
/-- a method of one number that says whether G stands at the token; E: what codes it lays down -/
noncomputable def cA2 (X : Int → Int) (LX n : Nat) (K : gm_K) (R : gm_R) (M : gm_M) (e lc : Int) (D : Int → Int) (mi : Nat) (vs : List gm_V) (G : Int → Bool × Int) (E : Int → List Int) (dn : Nat) : Prop := ∀ (d bc bs : Nat) (b us : Int) (C : Int → Int) (Lc : List Int) (Q : gm_Q), dn ≤ d → 0 ≤ b ∧ b ≤ e → us + 2 ≤ b → ctl Lc us lc D C → (∀ us2 C2, ctl (Lc ++ E b) us2 lc D C2 → (G b).1 = true → Q (.inl (some (gm_vi 1))) n K R (ct M e (G b).2 (-1) us2 lc D C2)) → (∀ us2 C2, ctk us2 lc D C2 → ¬ (G b).1 = true → Q (.inl (some (gm_vi 0))) n K R (ct M e (G b).2 (G b).2 us2 lc D C2)) → gm_Wp X LX d bc bs mi 0 (gm_ent mi vs) [] n K R (ct M e b (-1) us lc D C) Q
section KL
variable {X : Int → Int} {LX d bc bs n : Nat} {K : gm_K} {R : gm_R} {M : gm_M} {Q : gm_Q} {e b w us lc x : Int} {D C : Int → Int} {Lc : List Int}
theorem kx_c99 (hE : tx_E n K R M e) (hok : ctl Lc us lc D C) (h4 : us < 400) (hx : gm_ir x) (hq : ∀ C2, ctl (Lc ++ [x]) (us + 1) lc D C2 → Q (.inl none) n K R (ct M e b w (us + 1) lc D C2)) : gm_Wp X LX d bc bs 99 0 (gm_ent 99 [gm_vr 215, gm_vi x]) [] n K R (ct M e b w us lc D C) Q := by
  obtain ⟨⟨⟨u1, u2⟩, u3⟩, u4, u5⟩ := id hok.2.1
  refine gm_sz (gm_p_load (pc := 0) (i := .aload_n 0) (sr := 2) (j := 0) (by decide +kernel) rfl rfl rfl) ?_
  refine gm_sz (fw_gi (pc := 1) (ix := 24) (ci := 9) (j := 4) (x := us) (by decide +kernel) (tE215c hE) (by decide +kernel) (by decide +kernel) rfl) ?_
  refine gm_sz (gm_p_load (pc := 4) (i := .aload_n 0) (sr := 2) (j := 0) (by decide +kernel) rfl rfl rfl) ?_
  refine gm_sz (fw_gr (pc := 5) (ix := 20) (ci := 9) (j := 3) (r := 219) (by decide +kernel) (tE215c hE) (by decide +kernel) (by decide +kernel) (tEr hE).2.2.2.1) ?_
  refine gm_sz (fw_al (pc := 8) (k := 219) (len := 400) (by decide +kernel) (tE219 hE).1 (tE219 hE).2 (by decide)) ?_
  refine fw_icf (cc := .ge) (pc := 9) (off := 23) (by decide +kernel) (by decide) ⟨by omega, by omega⟩ ⟨by decide, by decide⟩ (show ¬ 400 ≤ us by omega) ?_
  refine gm_sz (gm_p_load (pc := 12) (i := .aload_n 0) (sr := 2) (j := 0) (by decide +kernel) rfl rfl rfl) ?_
  refine gm_sz (fw_gr (pc := 13) (ix := 20) (ci := 9) (j := 3) (r := 219) (by decide +kernel) (tE215c hE) (by decide +kernel) (by decide +kernel) (tEr hE).2.2.2.1) ?_
  refine gm_sz (gm_p_load (pc := 16) (i := .aload_n 0) (sr := 2) (j := 0) (by decide +kernel) rfl rfl rfl) ?_
  refine gm_sz (fw_gi (pc := 17) (ix := 24) (ci := 9) (j := 4) (x := us) (by decide +kernel) (tE215c hE) (by decide +kernel) (by decide +kernel) rfl) ?_
  refine gm_sz (gm_p_load (pc := 20) (i := .iload_n 1) (sr := 0) (j := 1) (by decide +kernel) rfl rfl rfl) ?_
  refine gm_sz (fw_is (pc := 21) (k := 219) (len := 400) (e0 := us) (x := x) (M' := ct M e b w us lc D (fun z => if z = us then x else C z)) (by decide +kernel) (tE219 hE).1 (tE219 hE).2 (by decide) ⟨by omega, by omega⟩ ct_C) ?_
  refine gm_sz (gm_p_load (pc := 22) (i := .aload_n 0) (sr := 2) (j := 0) (by decide +kernel) rfl rfl rfl) ?_
  refine gm_sz (gm_p_dup (pc := 23) (by decide +kernel) fw_sr) ?_
  refine gm_sz (fw_gi (pc := 24) (ix := 24) (ci := 9) (j := 4) (x := us) (by decide +kernel) (tE215c hE) (by decide +kernel) (by decide +kernel) rfl) ?_
  refine gm_sz (gm_p_const (pc := 27) (i := .iconst 1) (v := gm_vi 1) (by decide +kernel) (by decide +kernel)) ?_
  refine gm_sz (gm_p_bin (pc := 28) (i := .iadd) (f := fun x y => x + y) (by decide +kernel) rfl) ?_
  refine gm_sz (fw_pi (pc := 29) (ix := 24) (ci := 9) (j := 4) (M' := ct M e b w (us + 1) lc D (fun z => if z = us then x else C z)) (by decide +kernel) (tE215c hE) (by decide +kernel) (by decide +kernel) (by decide +kernel) ct_us) ?_
  exact gm_r_void (pc := 32) (by decide +kernel) (by decide +kernel) (hq _ (ctl_put hok h4 hx))

theorem kx_c101 (hd : 6 ≤ d) (hE : tx_E n K R M e) (hb : 0 ≤ b ∧ b ≤ e) (h1 : ∀ c, c = -2 - s_fc (M 2) e b → g_fact (M 2) e b → Q (.inl (some (gm_vi c))) n K R (ct M e b w us lc D C)) (h0 : ¬ g_fact (M 2) e b → Q (.inl (some (gm_vi (-1)))) n K R (ct M e b w us lc D C)) : gm_Wp X LX d bc bs 101 0 (gm_ent 101 [gm_vr 215]) [] n K R (ct M e b w us lc D C) Q := by
  obtain ⟨-, he0, he4⟩ := tEe hE
  refine gm_sz (gm_p_load (pc := 0) (i := .aload_n 0) (sr := 2) (j := 0) (by decide +kernel) rfl rfl rfl) ?_
  refine gm_sz (fw_gr (pc := 1) (ix := 47) (ci := 9) (j := 0) (r := 216) (by decide +kernel) (tE215c hE) (by decide +kernel) (by decide +kernel) (tEr hE).2.1) ?_
  refine gm_sz (gm_p_ldcs (pc := 4) (i := .ldc 122) (ix := 122) (id := 7) (by decide +kernel) (Or.inl rfl) (by decide +kernel)) ?_
  refine gm_c_virt (k := 216) (ci := 8) (mj := 81) (ix := 84) (pc := 6) (as := [gm_vo 7]) (st := []) (d' := d - 1) (bc' := 0) (bs' := 0) (by decide +kernel) (by decide +kernel) (by decide +kernel) (by decide +kernel) (tE216c hE).1 (tE216c hE).2 (by decide) (by decide +kernel) (show 1 = gm_na 81 by decide +kernel) (fw_c1 fw_so) (show 2 ≤ gm_ml 81 by decide +kernel) (Nat.le_of_ble_eq_true rfl) (by omega) (Nat.zero_le _) (Nat.zero_le _) ?_
  refine tx_c81 (by omega) hE (by decide) (show tx_o 7 = wo_lane by decide +kernel) hb (fun j1 => ?_) (fun j1 => ?_)
  · show gm_Wp X LX d _ _ 101 9 _ [gm_vi 1] n K R _ Q
    have j1 : tx_is (M 2) e b wo_lane := j1
    refine fw_iffd (cc := .eq) (pc := 9) (off := 6) (by decide +kernel) (by decide) ⟨by decide, by decide⟩ (by decide) ?_
    refine gm_sz (gm_p_const (pc := 12) (i := .bipush (-2)) (v := gm_vi (-2)) (by decide +kernel) (by decide +kernel)) ?_
    exact gm_r_int (pc := 14) (by decide +kernel) (Or.inl (by decide +kernel)) (h1 _ (by unfold s_fc; rw [tif_t j1]; rfl) (Or.inl j1))
  · show gm_Wp X LX d _ _ 101 9 _ [gm_vi 0] n K R _ Q
    have j1 : ¬ tx_is (M 2) e b wo_lane := j1
    refine fw_iftd (cc := .eq) (pc := 9) (off := 6) (by decide +kernel) (by decide) ⟨by decide, by decide⟩ (by decide) ?_
    refine gm_sz (gm_p_load (pc := 15) (i := .aload_n 0) (sr := 2) (j := 0) (by decide +kernel) rfl rfl rfl) ?_
    refine gm_sz (fw_gr (pc := 16) (ix := 47) (ci := 9) (j := 0) (r := 216) (by decide +kernel) (tE215c hE) (by decide +kernel) (by decide +kernel) (tEr hE).2.1) ?_
    refine gm_sz (gm_p_ldcs (pc := 19) (i := .ldc 124) (ix := 124) (id := 8) (by decide +kernel) (Or.inl rfl) (by decide +kernel)) ?_
    refine gm_c_virt (k := 216) (ci := 8) (mj := 81) (ix := 84) (pc := 21) (as := [gm_vo 8]) (st := []) (d' := d - 1) (bc' := 0) (bs' := 0) (by decide +kernel) (by decide +kernel) (by decide +kernel) (by decide +kernel) (tE216c hE).1 (tE216c hE).2 (by decide) (by decide +kernel) (show 1 = gm_na 81 by decide +kernel) (fw_c1 fw_so) (show 2 ≤ gm_ml 81 by decide +kernel) (Nat.le_of_ble_eq_true rfl) (by omega) (Nat.zero_le _) (Nat.zero_le _) ?_
    refine tx_c81 (by omega) hE (by decide) (show tx_o 8 = wo_row by decide +kernel) hb (fun j2 => ?_) (fun j2 => ?_)
    · show gm_Wp X LX d _ _ 101 24 _ [gm_vi 1] n K R _ Q
      have j2 : tx_is (M 2) e b wo_row := j2
      refine fw_iffd (cc := .eq) (pc := 24) (off := 6) (by decide +kernel) (by decide) ⟨by decide, by decide⟩ (by decide) ?_
      refine gm_sz (gm_p_const (pc := 27) (i := .bipush (-3)) (v := gm_vi (-3)) (by decide +kernel) (by decide +kernel)) ?_
      exact gm_r_int (pc := 29) (by decide +kernel) (Or.inl (by decide +kernel)) (h1 _ (by unfold s_fc; rw [tif_f j1, tif_t j2]; rfl) (Or.inr (Or.inl j2)))
    · show gm_Wp X LX d _ _ 101 24 _ [gm_vi 0] n K R _ Q
      have j2 : ¬ tx_is (M 2) e b wo_row := j2
      refine fw_iftd (cc := .eq) (pc := 24) (off := 6) (by decide +kernel) (by decide) ⟨by decide, by decide⟩ (by decide) ?_
      refine gm_sz (gm_p_load (pc := 30) (i := .aload_n 0) (sr := 2) (j := 0) (by decide +kernel) rfl rfl rfl) ?_
      refine gm_sz (fw_gr (pc := 31) (ix := 47) (ci := 9) (j := 0) (r := 216) (by decide +kernel) (tE215c hE) (by decide +kernel) (by decide +kernel) (tEr hE).2.1) ?_
      refine gm_sz (gm_p_ldcs (pc := 34) (i := .ldc 126) (ix := 126) (id := 9) (by decide +kernel) (Or.inl rfl) (by decide +kernel)) ?_
      refine gm_c_virt (k := 216) (ci := 8) (mj := 81) (ix := 84) (pc := 36) (as := [gm_vo 9]) (st := []) (d' := d - 1) (bc' := 0) (bs' := 0) (by decide +kernel) (by decide +kernel) (by decide +kernel) (by decide +kernel) (tE216c hE).1 (tE216c hE).2 (by decide) (by decide +kernel) (show 1 = gm_na 81 by decide +kernel) (fw_c1 fw_so) (show 2 ≤ gm_ml 81 by decide +kernel) (Nat.le_of_ble_eq_true rfl) (by omega) (Nat.zero_le _) (Nat.zero_le _) ?_
      refine tx_c81 (by omega) hE (by decide) (show tx_o 9 = wo_year by decide +kernel) hb (fun j3 => ?_) (fun j3 => ?_)
      · show gm_Wp X LX d _ _ 101 39 _ [gm_vi 1] n K R _ Q
        have j3 : tx_is (M 2) e b wo_year := j3
        refine fw_iffd (cc := .eq) (pc := 39) (off := 6) (by decide +kernel) (by decide) ⟨by decide, by decide⟩ (by decide) ?_
        refine gm_sz (gm_p_const (pc := 42) (i := .bipush (-4)) (v := gm_vi (-4)) (by decide +kernel) (by decide +kernel)) ?_
        exact gm_r_int (pc := 44) (by decide +kernel) (Or.inl (by decide +kernel)) (h1 _ (by unfold s_fc; rw [tif_f j1, tif_f j2, tif_t j3]; rfl) (Or.inr (Or.inr (Or.inl j3))))
      · show gm_Wp X LX d _ _ 101 39 _ [gm_vi 0] n K R _ Q
        have j3 : ¬ tx_is (M 2) e b wo_year := j3
        refine fw_iftd (cc := .eq) (pc := 39) (off := 6) (by decide +kernel) (by decide) ⟨by decide, by decide⟩ (by decide) ?_
        refine gm_sz (gm_p_load (pc := 45) (i := .aload_n 0) (sr := 2) (j := 0) (by decide +kernel) rfl rfl rfl) ?_
        refine gm_sz (fw_gr (pc := 46) (ix := 47) (ci := 9) (j := 0) (r := 216) (by decide +kernel) (tE215c hE) (by decide +kernel) (by decide +kernel) (tEr hE).2.1) ?_
        refine gm_sz (gm_p_ldcs (pc := 49) (i := .ldc 128) (ix := 128) (id := 10) (by decide +kernel) (Or.inl rfl) (by decide +kernel)) ?_
        refine gm_c_virt (k := 216) (ci := 8) (mj := 81) (ix := 84) (pc := 51) (as := [gm_vo 10]) (st := []) (d' := d - 1) (bc' := 0) (bs' := 0) (by decide +kernel) (by decide +kernel) (by decide +kernel) (by decide +kernel) (tE216c hE).1 (tE216c hE).2 (by decide) (by decide +kernel) (show 1 = gm_na 81 by decide +kernel) (fw_c1 fw_so) (show 2 ≤ gm_ml 81 by decide +kernel) (Nat.le_of_ble_eq_true rfl) (by omega) (Nat.zero_le _) (Nat.zero_le _) ?_
        refine tx_c81 (by omega) hE (by decide) (show tx_o 10 = wo_heat by decide +kernel) hb (fun j4 => ?_) (fun j4 => ?_)
        · show gm_Wp X LX d _ _ 101 54 _ [gm_vi 1] n K R _ Q
          have j4 : tx_is (M 2) e b wo_heat := j4
          refine fw_iffd (cc := .eq) (pc := 54) (off := 6) (by decide +kernel) (by decide) ⟨by decide, by decide⟩ (by decide) ?_
          refine gm_sz (gm_p_const (pc := 57) (i := .bipush (-5)) (v := gm_vi (-5)) (by decide +kernel) (by decide +kernel)) ?_
          exact gm_r_int (pc := 59) (by decide +kernel) (Or.inl (by decide +kernel)) (h1 _ (by unfold s_fc; rw [tif_f j1, tif_f j2, tif_f j3, tif_t j4]; rfl) (Or.inr (Or.inr (Or.inr (Or.inl j4)))))
        · show gm_Wp X LX d _ _ 101 54 _ [gm_vi 0] n K R _ Q
          have j4 : ¬ tx_is (M 2) e b wo_heat := j4
          refine fw_iftd (cc := .eq) (pc := 54) (off := 6) (by decide +kernel) (by decide) ⟨by decide, by decide⟩ (by decide) ?_
          refine gm_sz (gm_p_load (pc := 60) (i := .aload_n 0) (sr := 2) (j := 0) (by decide +kernel) rfl rfl rfl) ?_
          refine gm_sz (fw_gr (pc := 61) (ix := 47) (ci := 9) (j := 0) (r := 216) (by decide +kernel) (tE215c hE) (by decide +kernel) (by decide +kernel) (tEr hE).2.1) ?_
          refine gm_sz (gm_p_ldcs (pc := 64) (i := .ldc 130) (ix := 130) (id := 11) (by decide +kernel) (Or.inl rfl) (by decide +kernel)) ?_
          refine gm_c_virt (k := 216) (ci := 8) (mj := 81) (ix := 84) (pc := 66) (as := [gm_vo 11]) (st := []) (d' := d - 1) (bc' := 0) (bs' := 0) (by decide +kernel) (by decide +kernel) (by decide +kernel) (by decide +kernel) (tE216c hE).1 (tE216c hE).2 (by decide) (by decide +kernel) (show 1 = gm_na 81 by decide +kernel) (fw_c1 fw_so) (show 2 ≤ gm_ml 81 by decide +kernel) (Nat.le_of_ble_eq_true rfl) (by omega) (Nat.zero_le _) (Nat.zero_le _) ?_
          refine tx_c81 (by omega) hE (by decide) (show tx_o 11 = wo_speed by decide +kernel) hb (fun j5 => ?_) (fun j5 => ?_)
          · show gm_Wp X LX d _ _ 101 69 _ [gm_vi 1] n K R _ Q
            have j5 : tx_is (M 2) e b wo_speed := j5
            refine fw_iffd (cc := .eq) (pc := 69) (off := 6) (by decide +kernel) (by decide) ⟨by decide, by decide⟩ (by decide) ?_
            refine gm_sz (gm_p_const (pc := 72) (i := .bipush (-6)) (v := gm_vi (-6)) (by decide +kernel) (by decide +kernel)) ?_
            exact gm_r_int (pc := 74) (by decide +kernel) (Or.inl (by decide +kernel)) (h1 _ (by unfold s_fc; rw [tif_f j1, tif_f j2, tif_f j3, tif_f j4, tif_t j5]; rfl) (Or.inr (Or.inr (Or.inr (Or.inr (Or.inl j5))))))
          · show gm_Wp X LX d _ _ 101 69 _ [gm_vi 0] n K R _ Q
            have j5 : ¬ tx_is (M 2) e b wo_speed := j5
            refine fw_iftd (cc := .eq) (pc := 69) (off := 6) (by decide +kernel) (by decide) ⟨by decide, by decide⟩ (by decide) ?_
            refine gm_sz (gm_p_load (pc := 75) (i := .aload_n 0) (sr := 2) (j := 0) (by decide +kernel) rfl rfl rfl) ?_
            refine gm_sz (fw_gr (pc := 76) (ix := 47) (ci := 9) (j := 0) (r := 216) (by decide +kernel) (tE215c hE) (by decide +kernel) (by decide +kernel) (tEr hE).2.1) ?_
            refine gm_sz (gm_p_ldcs (pc := 79) (i := .ldc 132) (ix := 132) (id := 12) (by decide +kernel) (Or.inl rfl) (by decide +kernel)) ?_
            refine gm_c_virt (k := 216) (ci := 8) (mj := 81) (ix := 84) (pc := 81) (as := [gm_vo 12]) (st := []) (d' := d - 1) (bc' := 0) (bs' := 0) (by decide +kernel) (by decide +kernel) (by decide +kernel) (by decide +kernel) (tE216c hE).1 (tE216c hE).2 (by decide) (by decide +kernel) (show 1 = gm_na 81 by decide +kernel) (fw_c1 fw_so) (show 2 ≤ gm_ml 81 by decide +kernel) (Nat.le_of_ble_eq_true rfl) (by omega) (Nat.zero_le _) (Nat.zero_le _) ?_
            refine tx_c81 (by omega) hE (by decide) (show tx_o 12 = wo_person by decide +kernel) hb (fun j6 => ?_) (fun j6 => ?_)
            · show gm_Wp X LX d _ _ 101 84 _ [gm_vi 1] n K R _ Q
              have j6 : tx_is (M 2) e b wo_person := j6
              refine fw_iffd (cc := .eq) (pc := 84) (off := 6) (by decide +kernel) (by decide) ⟨by decide, by decide⟩ (by decide) ?_
              refine gm_sz (gm_p_const (pc := 87) (i := .bipush (-7)) (v := gm_vi (-7)) (by decide +kernel) (by decide +kernel)) ?_
              exact gm_r_int (pc := 89) (by decide +kernel) (Or.inl (by decide +kernel)) (h1 _ (by unfold s_fc; rw [tif_f j1, tif_f j2, tif_f j3, tif_f j4, tif_f j5, tif_t j6]; rfl) (Or.inr (Or.inr (Or.inr (Or.inr (Or.inr (Or.inl j6)))))))
            · show gm_Wp X LX d _ _ 101 84 _ [gm_vi 0] n K R _ Q
              have j6 : ¬ tx_is (M 2) e b wo_person := j6
              refine fw_iftd (cc := .eq) (pc := 84) (off := 6) (by decide +kernel) (by decide) ⟨by decide, by decide⟩ (by decide) ?_
              refine gm_sz (gm_p_load (pc := 90) (i := .aload_n 0) (sr := 2) (j := 0) (by decide +kernel) rfl rfl rfl) ?_
              refine gm_sz (fw_gr (pc := 91) (ix := 47) (ci := 9) (j := 0) (r := 216) (by decide +kernel) (tE215c hE) (by decide +kernel) (by decide +kernel) (tEr hE).2.1) ?_
              refine gm_sz (gm_p_ldcs (pc := 94) (i := .ldc 134) (ix := 134) (id := 13) (by decide +kernel) (Or.inl rfl) (by decide +kernel)) ?_
              refine gm_c_virt (k := 216) (ci := 8) (mj := 81) (ix := 84) (pc := 96) (as := [gm_vo 13]) (st := []) (d' := d - 1) (bc' := 0) (bs' := 0) (by decide +kernel) (by decide +kernel) (by decide +kernel) (by decide +kernel) (tE216c hE).1 (tE216c hE).2 (by decide) (by decide +kernel) (show 1 = gm_na 81 by decide +kernel) (fw_c1 fw_so) (show 2 ≤ gm_ml 81 by decide +kernel) (Nat.le_of_ble_eq_true rfl) (by omega) (Nat.zero_le _) (Nat.zero_le _) ?_
              refine tx_c81 (by omega) hE (by decide) (show tx_o 13 = wo_age by decide +kernel) hb (fun j7 => ?_) (fun j7 => ?_)
              · show gm_Wp X LX d _ _ 101 99 _ [gm_vi 1] n K R _ Q
                have j7 : tx_is (M 2) e b wo_age := j7
                refine fw_iffd (cc := .eq) (pc := 99) (off := 6) (by decide +kernel) (by decide) ⟨by decide, by decide⟩ (by decide) ?_
                refine gm_sz (gm_p_const (pc := 102) (i := .bipush (-8)) (v := gm_vi (-8)) (by decide +kernel) (by decide +kernel)) ?_
                exact gm_r_int (pc := 104) (by decide +kernel) (Or.inl (by decide +kernel)) (h1 _ (by unfold s_fc; rw [tif_f j1, tif_f j2, tif_f j3, tif_f j4, tif_f j5, tif_f j6, tif_t j7]; rfl) (Or.inr (Or.inr (Or.inr (Or.inr (Or.inr (Or.inr (Or.inl j7))))))))
              · show gm_Wp X LX d _ _ 101 99 _ [gm_vi 0] n K R _ Q
                have j7 : ¬ tx_is (M 2) e b wo_age := j7
                refine fw_iftd (cc := .eq) (pc := 99) (off := 6) (by decide +kernel) (by decide) ⟨by decide, by decide⟩ (by decide) ?_
                refine gm_sz (gm_p_load (pc := 105) (i := .aload_n 0) (sr := 2) (j := 0) (by decide +kernel) rfl rfl rfl) ?_
                refine gm_sz (fw_gr (pc := 106) (ix := 47) (ci := 9) (j := 0) (r := 216) (by decide +kernel) (tE215c hE) (by decide +kernel) (by decide +kernel) (tEr hE).2.1) ?_
                refine gm_sz (gm_p_ldcs (pc := 109) (i := .ldc 136) (ix := 136) (id := 14) (by decide +kernel) (Or.inl rfl) (by decide +kernel)) ?_
                refine gm_c_virt (k := 216) (ci := 8) (mj := 81) (ix := 84) (pc := 111) (as := [gm_vo 14]) (st := []) (d' := d - 1) (bc' := 0) (bs' := 0) (by decide +kernel) (by decide +kernel) (by decide +kernel) (by decide +kernel) (tE216c hE).1 (tE216c hE).2 (by decide) (by decide +kernel) (show 1 = gm_na 81 by decide +kernel) (fw_c1 fw_so) (show 2 ≤ gm_ml 81 by decide +kernel) (Nat.le_of_ble_eq_true rfl) (by omega) (Nat.zero_le _) (Nat.zero_le _) ?_
                refine tx_c81 (by omega) hE (by decide) (show tx_o 14 = wo_deep by decide +kernel) hb (fun j8 => ?_) (fun j8 => ?_)
                · show gm_Wp X LX d _ _ 101 114 _ [gm_vi 1] n K R _ Q
                  have j8 : tx_is (M 2) e b wo_deep := j8
                  refine fw_iffd (cc := .eq) (pc := 114) (off := 8) (by decide +kernel) (by decide) ⟨by decide, by decide⟩ (by decide) ?_
                  refine gm_sz (gm_p_const (pc := 117) (i := .bipush (-9)) (v := gm_vi (-9)) (by decide +kernel) (by decide +kernel)) ?_
                  refine gm_sz (gm_p_goto (pc := 119) (off := 4) (by decide +kernel) (by decide)) ?_
                  exact gm_r_int (pc := 123) (by decide +kernel) (Or.inl (by decide +kernel)) (h1 _ (by unfold s_fc; rw [tif_f j1, tif_f j2, tif_f j3, tif_f j4, tif_f j5, tif_f j6, tif_f j7]; rfl) (Or.inr (Or.inr (Or.inr (Or.inr (Or.inr (Or.inr (Or.inr (j8)))))))))
                · show gm_Wp X LX d _ _ 101 114 _ [gm_vi 0] n K R _ Q
                  have j8 : ¬ tx_is (M 2) e b wo_deep := j8
                  refine fw_iftd (cc := .eq) (pc := 114) (off := 8) (by decide +kernel) (by decide) ⟨by decide, by decide⟩ (by decide) ?_
                  refine gm_sz (gm_p_const (pc := 122) (i := .iconst (-1)) (v := gm_vi (-1)) (by decide +kernel) (by decide +kernel)) ?_
                  exact gm_r_int (pc := 123) (by decide +kernel) (Or.inl (by decide +kernel)) (h0 fun hh => by rcases hh with hh | hh | hh | hh | hh | hh | hh | hh <;> contradiction)

theorem kx_s100 (hd : 8 ≤ d) (hE : tx_E n K R M e) : ∀ (t : Nat) (i b us : Int) (C : Int → Int) (Lc : List Int) (z : Option gm_V), i + t = 400 → 0 ≤ i → 0 ≤ b ∧ b ≤ e → us + 2 ≤ b → ctl Lc us lc D C → (∀ us2 C2, ctl (Lc ++ (s_sum (M 2) e t b).map pcd) us2 lc D C2 → (g_sum (M 2) e t b).1 = true → Q (.inl (some (gm_vi 1))) n K R (ct M e (g_sum (M 2) e t b).2 (-1) us2 lc D C2)) → (∀ us2 C2, ctk us2 lc D C2 → ¬ (g_sum (M 2) e t b).1 = true → Q (.inl (some (gm_vi 0))) n K R (ct M e (g_sum (M 2) e t b).2 (g_sum (M 2) e t b).2 us2 lc D C2)) → gm_Wp X LX d bc bs 100 2 [some (gm_vr 215), some (gm_vi i), z] [] n K R (ct M e b (-1) us lc D C) Q := by
  obtain ⟨-, he0, he4⟩ := tEe hE
  intro t
  induction t with
  | zero =>
    intro i b us C Lc z hit hi0 hb hu hok h1 h0
    refine gm_sz (gm_p_load (pc := 2) (i := .iload_n 1) (sr := 0) (j := 1) (by decide +kernel) rfl rfl rfl) ?_
    refine gm_sz (gm_p_const (pc := 3) (i := .sipush 400) (v := gm_vi 400) (by decide +kernel) (by decide +kernel)) ?_
    refine fw_ict (cc := .ge) (pc := 6) (off := 83) (by decide +kernel) (by decide) ⟨by omega, by omega⟩ ⟨by decide, by decide⟩ (show 400 ≤ i by omega) ?_
    refine gm_sz (gm_p_load (pc := 89) (i := .aload_n 0) (sr := 2) (j := 0) (by decide +kernel) rfl rfl rfl) ?_
    refine gm_sz (fw_gr (pc := 90) (ix := 47) (ci := 9) (j := 0) (r := 216) (by decide +kernel) (tE215c hE) (by decide +kernel) (by decide +kernel) (tEr hE).2.1) ?_
    refine gm_c_virt (k := 216) (ci := 8) (mj := 93) (ix := 51) (pc := 93) (as := []) (st := []) (d' := d - 1) (bc' := 0) (bs' := 0) (by decide +kernel) (by decide +kernel) (by decide +kernel) (by decide +kernel) (tE216c hE).1 (tE216c hE).2 (by decide) (by decide +kernel) (show 0 = gm_na 93 by decide +kernel) fw_c0 (show 1 ≤ gm_ml 93 by decide +kernel) (Nat.le_of_ble_eq_true rfl) (by omega) (Nat.zero_le _) (Nat.zero_le _) ?_
    refine tx_c93 hE hb ?_
    show gm_Wp X LX d _ _ 100 96 _ [gm_vi 0] n K R _ Q
    exact gm_r_int (pc := 96) (by decide +kernel) (Or.inr ⟨(by decide +kernel), Or.inl rfl⟩) (h0 us C hok.2.1 (fun h => by cases h))
  | succ t ih =>
    intro i b us C Lc z hit hi0 hb hu hok h1 h0
    have hkb := tx_kc (f := M 2) (e := e) (b := b) (fun h => tEb hE hb.1 (by omega))
    have hvb := tx_vb (f := M 2) (e := e) (m := 3) (b := b) (by decide)
    have hgb := tx_nb (f := M 2) hb.2
    have hgk := tx_kc (f := M 2) (e := e) (b := tx_n (M 2) e b) (fun h => tEb hE (by omega) (by omega))
    refine gm_sz (gm_p_load (pc := 2) (i := .iload_n 1) (sr := 0) (j := 1) (by decide +kernel) rfl rfl rfl) ?_
    refine gm_sz (gm_p_const (pc := 3) (i := .sipush 400) (v := gm_vi 400) (by decide +kernel) (by decide +kernel)) ?_
    refine fw_icf (cc := .ge) (pc := 6) (off := 83) (by decide +kernel) (by decide) ⟨by omega, by omega⟩ ⟨by decide, by decide⟩ (show ¬ 400 ≤ i by omega) ?_
    refine gm_sz (gm_p_load (pc := 9) (i := .aload_n 0) (sr := 2) (j := 0) (by decide +kernel) rfl rfl rfl) ?_
    refine gm_sz (fw_gr (pc := 10) (ix := 47) (ci := 9) (j := 0) (r := 216) (by decide +kernel) (tE215c hE) (by decide +kernel) (by decide +kernel) (tEr hE).2.1) ?_
    refine gm_sz (fw_gi (pc := 13) (ix := 102) (ci := 8) (j := 6) (x := tx_k (M 2) e b) (by decide +kernel) (tE216c hE) (by decide +kernel) (by decide +kernel) rfl) ?_
    refine gm_sz (gm_p_const (pc := 16) (i := .sipush 258) (v := gm_vi 258) (by decide +kernel) (by decide +kernel)) ?_
    refine fw_ic (cc := .ne) (pc := 19) (off := 13) (by decide +kernel) (by decide) ⟨by omega, by omega⟩ ⟨by decide, by decide⟩ (fun j1 => ?_) (fun j1 => ?_)
    · have j1 : ¬ (tx_k (M 2) e b) = 258 := j1
      refine gm_sz (gm_p_load (pc := 32) (i := .aload_n 0) (sr := 2) (j := 0) (by decide +kernel) rfl rfl rfl) ?_
      refine gm_c_virt (k := 215) (ci := 9) (mj := 101) (ix := 119) (pc := 33) (as := []) (st := []) (d' := d - 1) (bc' := 0) (bs' := 0) (by decide +kernel) (by decide +kernel) (by decide +kernel) (by decide +kernel) (tE215c hE).1 (tE215c hE).2 (by decide) (by decide +kernel) (show 0 = gm_na 101 by decide +kernel) fw_c0 (show 1 ≤ gm_ml 101 by decide +kernel) (Nat.le_of_ble_eq_true rfl) (by omega) (Nat.zero_le _) (Nat.zero_le _) ?_
      refine kx_c101 (by omega) hE hb (fun c2 j4 j5 => ?_) (fun j5 => ?_)
      · show gm_Wp X LX d _ _ 100 36 _ [gm_vi c2] n K R _ Q
        have j4 : c2 = -2 - s_fc (M 2) e b := j4
        have j3 := s_fcb (f := M 2) (e := e) (b := b)
        have ep : pcd (s_pt (M 2) e b) = c2 := by
          unfold s_pt
          rw [tif_f j1, j4]
          exact if_neg (by show ¬ s_fc (M 2) e b = 10; omega)
        have kb := hgb.2.2 (tx_kne (f := M 2) (by have := g_fk j5; omega))
        have j5 : g_fact (M 2) e b := j5
        have j5k := g_fk j5
        refine gm_sz (gm_p_stor (pc := 36) (i := .istore_n 2) (sr := 0) (j := 2) (by decide +kernel) rfl (show 3 ≤ _ from Nat.le_of_ble_eq_true rfl) rfl) ?_
        refine gm_sz (gm_p_load (pc := 37) (i := .iload_n 2) (sr := 0) (j := 2) (by decide +kernel) rfl rfl rfl) ?_
        refine gm_sz (gm_p_const (pc := 38) (i := .iconst (-1)) (v := gm_vi (-1)) (by decide +kernel) (by decide +kernel)) ?_
        refine fw_ict (cc := .ne) (pc := 39) (off := 11) (by decide +kernel) (by decide) ⟨by omega, by omega⟩ ⟨by decide, by decide⟩ (show ¬ c2 = (-1) by omega) ?_
        refine gm_sz (gm_p_load (pc := 50) (i := .aload_n 0) (sr := 2) (j := 0) (by decide +kernel) rfl rfl rfl) ?_
        refine gm_sz (gm_p_load (pc := 51) (i := .iload_n 2) (sr := 0) (j := 2) (by decide +kernel) rfl rfl rfl) ?_
        refine gm_c_virt (k := 215) (ci := 9) (mj := 99) (ix := 94) (pc := 52) (as := [gm_vi c2]) (st := []) (d' := d - 1) (bc' := 0) (bs' := 0) (by decide +kernel) (by decide +kernel) (by decide +kernel) (by decide +kernel) (tE215c hE).1 (tE215c hE).2 (by decide) (by decide +kernel) (show 1 = gm_na 99 by decide +kernel) (fw_c1 fw_si) (show 2 ≤ gm_ml 99 by decide +kernel) (Nat.le_of_ble_eq_true rfl) (by omega) (Nat.zero_le _) (Nat.zero_le _) ?_
        refine kx_c99 hE hok (by omega) ⟨by omega, by omega⟩ (fun C7 k8 => ?_)
        show gm_Wp X LX d _ _ 100 55 _ [] n K R _ Q
        refine gm_sz (gm_p_load (pc := 55) (i := .aload_n 0) (sr := 2) (j := 0) (by decide +kernel) rfl rfl rfl) ?_
        refine gm_sz (fw_gr (pc := 56) (ix := 47) (ci := 9) (j := 0) (r := 216) (by decide +kernel) (tE215c hE) (by decide +kernel) (by decide +kernel) (tEr hE).2.1) ?_
        refine gm_c_virt (k := 216) (ci := 8) (mj := 76) (ix := 57) (pc := 59) (as := []) (st := []) (d' := d - 1) (bc' := 0) (bs' := 0) (by decide +kernel) (by decide +kernel) (by decide +kernel) (by decide +kernel) (tE216c hE).1 (tE216c hE).2 (by decide) (by decide +kernel) (show 0 = gm_na 76 by decide +kernel) fw_c0 (show 1 ≤ gm_ml 76 by decide +kernel) (Nat.le_of_ble_eq_true rfl) (by omega) (Nat.zero_le _) (Nat.zero_le _) ?_
        refine tx_c76 (by omega) hE hb ?_
        show gm_Wp X LX d _ _ 100 62 _ [] n K R _ Q
        have g9 : 0 ≤ tx_n (M 2) e b ∧ tx_n (M 2) e b ≤ e := by have := tx_nb (f := M 2) (b := b) hb.2; omega
        refine gm_sz (gm_p_load (pc := 62) (i := .aload_n 0) (sr := 2) (j := 0) (by decide +kernel) rfl rfl rfl) ?_
        refine gm_sz (fw_gr (pc := 63) (ix := 47) (ci := 9) (j := 0) (r := 216) (by decide +kernel) (tE215c hE) (by decide +kernel) (by decide +kernel) (tEr hE).2.1) ?_
        refine gm_sz (fw_gi (pc := 66) (ix := 102) (ci := 8) (j := 6) (x := tx_k (M 2) e (tx_n (M 2) e b)) (by decide +kernel) (tE216c hE) (by decide +kernel) (by decide +kernel) rfl) ?_
        refine gm_sz (gm_p_const (pc := 69) (i := .bipush 43) (v := gm_vi 43) (by decide +kernel) (by decide +kernel)) ?_
        refine fw_ic (cc := .eq) (pc := 71) (off := 5) (by decide +kernel) (by decide) ⟨by omega, by omega⟩ ⟨by decide, by decide⟩ (fun j10 => ?_) (fun j10 => ?_)
        · have j10 : (tx_k (M 2) e (tx_n (M 2) e b)) = 43 := j10
          refine gm_sz (gm_p_load (pc := 76) (i := .aload_n 0) (sr := 2) (j := 0) (by decide +kernel) rfl rfl rfl) ?_
          refine gm_sz (fw_gr (pc := 77) (ix := 47) (ci := 9) (j := 0) (r := 216) (by decide +kernel) (tE215c hE) (by decide +kernel) (by decide +kernel) (tEr hE).2.1) ?_
          refine gm_c_virt (k := 216) (ci := 8) (mj := 76) (ix := 57) (pc := 80) (as := []) (st := []) (d' := d - 1) (bc' := 0) (bs' := 0) (by decide +kernel) (by decide +kernel) (by decide +kernel) (by decide +kernel) (tE216c hE).1 (tE216c hE).2 (by decide) (by decide +kernel) (show 0 = gm_na 76 by decide +kernel) fw_c0 (show 1 ≤ gm_ml 76 by decide +kernel) (Nat.le_of_ble_eq_true rfl) (by omega) (Nat.zero_le _) (Nat.zero_le _) ?_
          refine tx_c76 (by omega) hE g9 ?_
          show gm_Wp X LX d _ _ 100 83 _ [] n K R _ Q
          have g11 : 0 ≤ tx_n (M 2) e (tx_n (M 2) e b) ∧ tx_n (M 2) e (tx_n (M 2) e b) ≤ e := by have := tx_nb (f := M 2) (b := tx_n (M 2) e b) g9.2; omega
          refine gm_sz (gm_p_iinc (pc := 83) (j := 1) (z := 1) (by decide +kernel) rfl) ?_
          refine gm_sz (gm_p_goto (pc := 86) (off := (-84)) (by decide +kernel) (by decide)) ?_
          rw [g_sum2 (Or.inr j5) (by omega)] at h1 h0
          have nb9 := tx_nb (f := M 2) (e := e) (b := tx_n (M 2) e b) (by omega)
          rw [s_sum2 (by omega), List.map_cons, ep, List.append_cons] at h1
          exact ih (i + 1) _ _ _ _ _ (by omega) (by omega) g11 (by omega) k8 h1 h0
        · have j10 : ¬ (tx_k (M 2) e (tx_n (M 2) e b)) = 43 := j10
          refine gm_sz (gm_p_const (pc := 74) (i := .iconst 1) (v := gm_vi 1) (by decide +kernel) (by decide +kernel)) ?_
          rw [g_sum1 (Or.inr j5) (by omega), s_sum1 (by omega), List.map_cons, List.map_nil, ep] at h1
          exact gm_r_int (pc := 75) (by decide +kernel) (Or.inr ⟨(by decide +kernel), Or.inr rfl⟩) (h1 _ _ k8 rfl)
      · show gm_Wp X LX d _ _ 100 36 _ [gm_vi (-1)] n K R _ Q
        have j5 : ¬ g_fact (M 2) e b := j5
        refine gm_sz (gm_p_stor (pc := 36) (i := .istore_n 2) (sr := 0) (j := 2) (by decide +kernel) rfl (show 3 ≤ _ from Nat.le_of_ble_eq_true rfl) rfl) ?_
        refine gm_sz (gm_p_load (pc := 37) (i := .iload_n 2) (sr := 0) (j := 2) (by decide +kernel) rfl rfl rfl) ?_
        refine gm_sz (gm_p_const (pc := 38) (i := .iconst (-1)) (v := gm_vi (-1)) (by decide +kernel) (by decide +kernel)) ?_
        refine fw_icfd (cc := .ne) (pc := 39) (off := 11) (by decide +kernel) (by decide) ⟨by decide, by decide⟩ ⟨by decide, by decide⟩ (by decide) ?_
        refine gm_sz (gm_p_load (pc := 42) (i := .aload_n 0) (sr := 2) (j := 0) (by decide +kernel) rfl rfl rfl) ?_
        refine gm_sz (fw_gr (pc := 43) (ix := 47) (ci := 9) (j := 0) (r := 216) (by decide +kernel) (tE215c hE) (by decide +kernel) (by decide +kernel) (tEr hE).2.1) ?_
        refine gm_c_virt (k := 216) (ci := 8) (mj := 93) (ix := 51) (pc := 46) (as := []) (st := []) (d' := d - 1) (bc' := 0) (bs' := 0) (by decide +kernel) (by decide +kernel) (by decide +kernel) (by decide +kernel) (tE216c hE).1 (tE216c hE).2 (by decide) (by decide +kernel) (show 0 = gm_na 93 by decide +kernel) fw_c0 (show 1 ≤ gm_ml 93 by decide +kernel) (Nat.le_of_ble_eq_true rfl) (by omega) (Nat.zero_le _) (Nat.zero_le _) ?_
        refine tx_c93 hE hb ?_
        show gm_Wp X LX d _ _ 100 49 _ [gm_vi 0] n K R _ Q
        have np : ¬ g_pt (M 2) e b := fun hh => by
          rcases hh with hh | hh
          · omega
          · exact j5 hh
        rw [g_sum0 np] at h0
        exact gm_r_int (pc := 49) (by decide +kernel) (Or.inr ⟨(by decide +kernel), Or.inl rfl⟩) (h0 _ _ hok.2.1 (fun h => by cases h))
    · have j1 : (tx_k (M 2) e b) = 258 := Classical.not_not.mp j1
      refine gm_sz (gm_p_load (pc := 22) (i := .aload_n 0) (sr := 2) (j := 0) (by decide +kernel) rfl rfl rfl) ?_
      refine gm_sz (fw_gr (pc := 23) (ix := 47) (ci := 9) (j := 0) (r := 216) (by decide +kernel) (tE215c hE) (by decide +kernel) (by decide +kernel) (tEr hE).2.1) ?_
      refine gm_sz (fw_gi (pc := 26) (ix := 116) (ci := 8) (j := 7) (x := tx_v (M 2) e 3 b) (by decide +kernel) (tE216c hE) (by decide +kernel) (by decide +kernel) rfl) ?_
      refine gm_sz (gm_p_goto (pc := 29) (off := 7) (by decide +kernel) (by decide)) ?_
      refine gm_sz (gm_p_stor (pc := 36) (i := .istore_n 2) (sr := 0) (j := 2) (by decide +kernel) rfl (show 3 ≤ _ from Nat.le_of_ble_eq_true rfl) rfl) ?_
      refine gm_sz (gm_p_load (pc := 37) (i := .iload_n 2) (sr := 0) (j := 2) (by decide +kernel) rfl rfl rfl) ?_
      refine gm_sz (gm_p_const (pc := 38) (i := .iconst (-1)) (v := gm_vi (-1)) (by decide +kernel) (by decide +kernel)) ?_
      refine fw_ic (cc := .ne) (pc := 39) (off := 11) (by decide +kernel) (by decide) ⟨by omega, by omega⟩ ⟨by decide, by decide⟩ (fun j12 => ?_) (fun j12 => ?_)
      · have j12 : ¬ (tx_v (M 2) e 3 b) = (-1) := j12
        have ep : pcd (s_pt (M 2) e b) = tx_v (M 2) e 3 b := by
          unfold s_pt
          rw [tif_t j1]
          exact if_pos rfl
        have kb := hgb.2.2 (tx_kne (f := M 2) (by omega))
        refine gm_sz (gm_p_load (pc := 50) (i := .aload_n 0) (sr := 2) (j := 0) (by decide +kernel) rfl rfl rfl) ?_
        refine gm_sz (gm_p_load (pc := 51) (i := .iload_n 2) (sr := 0) (j := 2) (by decide +kernel) rfl rfl rfl) ?_
        refine gm_c_virt (k := 215) (ci := 9) (mj := 99) (ix := 94) (pc := 52) (as := [gm_vi (tx_v (M 2) e 3 b)]) (st := []) (d' := d - 1) (bc' := 0) (bs' := 0) (by decide +kernel) (by decide +kernel) (by decide +kernel) (by decide +kernel) (tE215c hE).1 (tE215c hE).2 (by decide) (by decide +kernel) (show 1 = gm_na 99 by decide +kernel) (fw_c1 fw_si) (show 2 ≤ gm_ml 99 by decide +kernel) (Nat.le_of_ble_eq_true rfl) (by omega) (Nat.zero_le _) (Nat.zero_le _) ?_
        refine kx_c99 hE hok (by omega) ⟨by omega, by omega⟩ (fun C14 k15 => ?_)
        show gm_Wp X LX d _ _ 100 55 _ [] n K R _ Q
        refine gm_sz (gm_p_load (pc := 55) (i := .aload_n 0) (sr := 2) (j := 0) (by decide +kernel) rfl rfl rfl) ?_
        refine gm_sz (fw_gr (pc := 56) (ix := 47) (ci := 9) (j := 0) (r := 216) (by decide +kernel) (tE215c hE) (by decide +kernel) (by decide +kernel) (tEr hE).2.1) ?_
        refine gm_c_virt (k := 216) (ci := 8) (mj := 76) (ix := 57) (pc := 59) (as := []) (st := []) (d' := d - 1) (bc' := 0) (bs' := 0) (by decide +kernel) (by decide +kernel) (by decide +kernel) (by decide +kernel) (tE216c hE).1 (tE216c hE).2 (by decide) (by decide +kernel) (show 0 = gm_na 76 by decide +kernel) fw_c0 (show 1 ≤ gm_ml 76 by decide +kernel) (Nat.le_of_ble_eq_true rfl) (by omega) (Nat.zero_le _) (Nat.zero_le _) ?_
        refine tx_c76 (by omega) hE hb ?_
        show gm_Wp X LX d _ _ 100 62 _ [] n K R _ Q
        have g16 : 0 ≤ tx_n (M 2) e b ∧ tx_n (M 2) e b ≤ e := by have := tx_nb (f := M 2) (b := b) hb.2; omega
        refine gm_sz (gm_p_load (pc := 62) (i := .aload_n 0) (sr := 2) (j := 0) (by decide +kernel) rfl rfl rfl) ?_
        refine gm_sz (fw_gr (pc := 63) (ix := 47) (ci := 9) (j := 0) (r := 216) (by decide +kernel) (tE215c hE) (by decide +kernel) (by decide +kernel) (tEr hE).2.1) ?_
        refine gm_sz (fw_gi (pc := 66) (ix := 102) (ci := 8) (j := 6) (x := tx_k (M 2) e (tx_n (M 2) e b)) (by decide +kernel) (tE216c hE) (by decide +kernel) (by decide +kernel) rfl) ?_
        refine gm_sz (gm_p_const (pc := 69) (i := .bipush 43) (v := gm_vi 43) (by decide +kernel) (by decide +kernel)) ?_
        refine fw_ic (cc := .eq) (pc := 71) (off := 5) (by decide +kernel) (by decide) ⟨by omega, by omega⟩ ⟨by decide, by decide⟩ (fun j17 => ?_) (fun j17 => ?_)
        · have j17 : (tx_k (M 2) e (tx_n (M 2) e b)) = 43 := j17
          refine gm_sz (gm_p_load (pc := 76) (i := .aload_n 0) (sr := 2) (j := 0) (by decide +kernel) rfl rfl rfl) ?_
          refine gm_sz (fw_gr (pc := 77) (ix := 47) (ci := 9) (j := 0) (r := 216) (by decide +kernel) (tE215c hE) (by decide +kernel) (by decide +kernel) (tEr hE).2.1) ?_
          refine gm_c_virt (k := 216) (ci := 8) (mj := 76) (ix := 57) (pc := 80) (as := []) (st := []) (d' := d - 1) (bc' := 0) (bs' := 0) (by decide +kernel) (by decide +kernel) (by decide +kernel) (by decide +kernel) (tE216c hE).1 (tE216c hE).2 (by decide) (by decide +kernel) (show 0 = gm_na 76 by decide +kernel) fw_c0 (show 1 ≤ gm_ml 76 by decide +kernel) (Nat.le_of_ble_eq_true rfl) (by omega) (Nat.zero_le _) (Nat.zero_le _) ?_
          refine tx_c76 (by omega) hE g16 ?_
          show gm_Wp X LX d _ _ 100 83 _ [] n K R _ Q
          have g18 : 0 ≤ tx_n (M 2) e (tx_n (M 2) e b) ∧ tx_n (M 2) e (tx_n (M 2) e b) ≤ e := by have := tx_nb (f := M 2) (b := tx_n (M 2) e b) g16.2; omega
          refine gm_sz (gm_p_iinc (pc := 83) (j := 1) (z := 1) (by decide +kernel) rfl) ?_
          refine gm_sz (gm_p_goto (pc := 86) (off := (-84)) (by decide +kernel) (by decide)) ?_
          rw [g_sum2 (Or.inl ⟨by omega, by omega⟩) (by omega)] at h1 h0
          have nb9 := tx_nb (f := M 2) (e := e) (b := tx_n (M 2) e b) (by omega)
          rw [s_sum2 (by omega), List.map_cons, ep, List.append_cons] at h1
          exact ih (i + 1) _ _ _ _ _ (by omega) (by omega) g18 (by omega) k15 h1 h0
        · have j17 : ¬ (tx_k (M 2) e (tx_n (M 2) e b)) = 43 := j17
          refine gm_sz (gm_p_const (pc := 74) (i := .iconst 1) (v := gm_vi 1) (by decide +kernel) (by decide +kernel)) ?_
          rw [g_sum1 (Or.inl ⟨by omega, by omega⟩) (by omega), s_sum1 (by omega), List.map_cons, List.map_nil, ep] at h1
          exact gm_r_int (pc := 75) (by decide +kernel) (Or.inr ⟨(by decide +kernel), Or.inr rfl⟩) (h1 _ _ k15 rfl)
      · have j12 : (tx_v (M 2) e 3 b) = (-1) := Classical.not_not.mp j12
        refine gm_sz (gm_p_load (pc := 42) (i := .aload_n 0) (sr := 2) (j := 0) (by decide +kernel) rfl rfl rfl) ?_
        refine gm_sz (fw_gr (pc := 43) (ix := 47) (ci := 9) (j := 0) (r := 216) (by decide +kernel) (tE215c hE) (by decide +kernel) (by decide +kernel) (tEr hE).2.1) ?_
        refine gm_c_virt (k := 216) (ci := 8) (mj := 93) (ix := 51) (pc := 46) (as := []) (st := []) (d' := d - 1) (bc' := 0) (bs' := 0) (by decide +kernel) (by decide +kernel) (by decide +kernel) (by decide +kernel) (tE216c hE).1 (tE216c hE).2 (by decide) (by decide +kernel) (show 0 = gm_na 93 by decide +kernel) fw_c0 (show 1 ≤ gm_ml 93 by decide +kernel) (Nat.le_of_ble_eq_true rfl) (by omega) (Nat.zero_le _) (Nat.zero_le _) ?_
        refine tx_c93 hE hb ?_
        show gm_Wp X LX d _ _ 100 49 _ [gm_vi 0] n K R _ Q
        have np : ¬ g_pt (M 2) e b := fun hh => by
          rcases hh with hh | hh
          · omega
          · have := g_fk hh
            omega
        rw [g_sum0 np] at h0
        exact gm_r_int (pc := 49) (by decide +kernel) (Or.inr ⟨(by decide +kernel), Or.inl rfl⟩) (h0 _ _ hok.2.1 (fun h => by cases h))

theorem kx_c100 (hE : tx_E n K R M e) : cA2 X LX n K R M e lc D 100 [gm_vr 215] (g_sum (M 2) e 400) (fun b => (s_sum (M 2) e 400 b).map pcd) 8 := by
  intro d bc bs b us C Lc Q hd hb hu hok h1 h0
  refine gm_sz (gm_p_const (pc := 0) (i := .iconst 0) (v := gm_vi 0) (by decide +kernel) (by decide +kernel)) ?_
  refine gm_sz (gm_p_stor (pc := 1) (i := .istore_n 1) (sr := 0) (j := 1) (by decide +kernel) rfl (show 2 ≤ _ from Nat.le_of_ble_eq_true rfl) rfl) ?_
  exact kx_s100 hd hE 400 0 b us C Lc none rfl (Int.le_refl _) hb hu hok h1 h0

theorem kx_c97 {A A2 : Int → Bool × Int} {SA SC : Int → List lst} {BA BC : Nat} {ok : Prop} {dep : Int} {dA dC dn : Nat} (hE : tx_E n K R M e) (hdep : 0 ≤ dep ∧ dep ≤ 6) (hok6 : ok ↔ dep < 6) (hA : ok → cA2 X LX n K R M e lc D 97 [gm_vr 215, gm_vi (dep + 1)] A (fun b => scds (SA b)) dA) (hC : ok → cA2 X LX n K R M e lc D 96 [gm_vr 215, gm_vi (dep + 1)] A2 (fun b => scds (SC b)) dC) (oA : ok → s_ok e A SA BA) (oC : ok → s_ok e A2 SC BC) (iA : g_in e A) (iC : g_in e A2) (hd9 : 9 ≤ dn ∧ (ok → dA + 1 ≤ dn ∧ dC + 1 ≤ dn)) : cA2 X LX n K R M e lc D 97 [gm_vr 215, gm_vi dep] (g_atm (M 2) e A A2 ok) (fun b => scds (s_atm (M 2) e SA SC b)) dn := by
  obtain ⟨-, he0, he4⟩ := tEe hE
  intro d bc bs b us C Lc Q hd hb hu hok h1 h0
  dsimp only at h1
  have nb9 := tx_nb (f := M 2) hb.2
  have hkb := tx_kc (f := M 2) (e := e) (b := b) (fun h => tEb hE hb.1 (by omega))
  have hsb := g_sum_in (f := M 2) 400 b hb.1 hb.2
  have hsk := tx_kc (f := M 2) (e := e) (b := (g_sum (M 2) e 400 b).2) (fun h => tEb hE (by omega) (by omega))
  refine gm_sz (gm_p_load (pc := 0) (i := .aload_n 0) (sr := 2) (j := 0) (by decide +kernel) rfl rfl rfl) ?_
  refine gm_sz (fw_gr (pc := 1) (ix := 47) (ci := 9) (j := 0) (r := 216) (by decide +kernel) (tE215c hE) (by decide +kernel) (by decide +kernel) (tEr hE).2.1) ?_
  refine gm_sz (gm_p_ldcs (pc := 4) (i := .ldc 100) (ix := 100) (id := 4) (by decide +kernel) (Or.inl rfl) (by decide +kernel)) ?_
  refine gm_c_virt (k := 216) (ci := 8) (mj := 81) (ix := 84) (pc := 6) (as := [gm_vo 4]) (st := []) (d' := d - 1) (bc' := 0) (bs' := 0) (by decide +kernel) (by decide +kernel) (by decide +kernel) (by decide +kernel) (tE216c hE).1 (tE216c hE).2 (by decide) (by decide +kernel) (show 1 = gm_na 81 by decide +kernel) (fw_c1 fw_so) (show 2 ≤ gm_ml 81 by decide +kernel) (Nat.le_of_ble_eq_true rfl) (by omega) (Nat.zero_le _) (Nat.zero_le _) ?_
  refine tx_c81 (by omega) hE (by decide) (show tx_o 4 = wo_not by decide +kernel) hb (fun j1 => ?_) (fun j1 => ?_)
  · show gm_Wp X LX d _ _ 97 9 _ [gm_vi 1] n K R _ Q
    have j1 : tx_is (M 2) e b wo_not := j1
    refine gm_sz (gm_p_stor (pc := 9) (i := .istore_n 2) (sr := 0) (j := 2) (by decide +kernel) rfl (show 3 ≤ _ from Nat.le_of_ble_eq_true rfl) rfl) ?_
    refine gm_sz (gm_p_load (pc := 10) (i := .iload_n 2) (sr := 0) (j := 2) (by decide +kernel) rfl rfl rfl) ?_
    refine fw_iftd (cc := .ne) (pc := 11) (off := 15) (by decide +kernel) (by decide) ⟨by decide, by decide⟩ (by decide) ?_
    refine gm_sz (gm_p_load (pc := 26) (i := .iload_n 1) (sr := 0) (j := 1) (by decide +kernel) rfl rfl rfl) ?_
    refine gm_sz (gm_p_const (pc := 27) (i := .bipush 6) (v := gm_vi 6) (by decide +kernel) (by decide +kernel)) ?_
    refine fw_ic (cc := .lt) (pc := 29) (off := 11) (by decide +kernel) (by decide) ⟨by omega, by omega⟩ ⟨by decide, by decide⟩ (fun j2 => ?_) (fun j2 => ?_)
    · have j2 : dep < 6 := j2
      refine gm_sz (gm_p_load (pc := 40) (i := .aload_n 0) (sr := 2) (j := 0) (by decide +kernel) rfl rfl rfl) ?_
      refine gm_sz (fw_gr (pc := 41) (ix := 47) (ci := 9) (j := 0) (r := 216) (by decide +kernel) (tE215c hE) (by decide +kernel) (by decide +kernel) (tEr hE).2.1) ?_
      refine gm_c_virt (k := 216) (ci := 8) (mj := 76) (ix := 57) (pc := 44) (as := []) (st := []) (d' := d - 1) (bc' := 0) (bs' := 0) (by decide +kernel) (by decide +kernel) (by decide +kernel) (by decide +kernel) (tE216c hE).1 (tE216c hE).2 (by decide) (by decide +kernel) (show 0 = gm_na 76 by decide +kernel) fw_c0 (show 1 ≤ gm_ml 76 by decide +kernel) (Nat.le_of_ble_eq_true rfl) (by omega) (Nat.zero_le _) (Nat.zero_le _) ?_
      refine tx_c76 (by omega) hE hb ?_
      show gm_Wp X LX d _ _ 97 47 _ [] n K R _ Q
      have g3 : 0 ≤ tx_n (M 2) e b ∧ tx_n (M 2) e b ≤ e := by have := tx_nb (f := M 2) (b := b) hb.2; omega
      refine gm_sz (gm_p_load (pc := 47) (i := .iload_n 2) (sr := 0) (j := 2) (by decide +kernel) rfl rfl rfl) ?_
      refine fw_iffd (cc := .eq) (pc := 48) (off := 13) (by decide +kernel) (by decide) ⟨by decide, by decide⟩ (by decide) ?_
      refine gm_sz (gm_p_load (pc := 51) (i := .aload_n 0) (sr := 2) (j := 0) (by decide +kernel) rfl rfl rfl) ?_
      refine gm_sz (gm_p_load (pc := 52) (i := .iload_n 1) (sr := 0) (j := 1) (by decide +kernel) rfl rfl rfl) ?_
      refine gm_sz (gm_p_const (pc := 53) (i := .iconst 1) (v := gm_vi 1) (by decide +kernel) (by decide +kernel)) ?_
      refine gm_sz (gm_p_bin (pc := 54) (i := .iadd) (f := fun x y => x + y) (by decide +kernel) rfl) ?_
      refine gm_c_virt (k := 215) (ci := 9) (mj := 97) (ix := 91) (pc := 55) (as := [gm_vi (dep + 1)]) (st := []) (d' := d - 1) (bc' := 0) (bs' := 0) (by decide +kernel) (by decide +kernel) (by decide +kernel) (by decide +kernel) (tE215c hE).1 (tE215c hE).2 (by decide) (by decide +kernel) (show 1 = gm_na 97 by decide +kernel) (fw_c1 fw_si) (show 2 ≤ gm_ml 97 by decide +kernel) (Nat.le_of_ble_eq_true rfl) (by omega) (Nat.zero_le _) (Nat.zero_le _) ?_
      have kb := nb9.2.2 (g_isb j1)
      refine hA (hok6.mpr j2) _ _ _ _ _ _ _ _ (by have := hd9.2 (hok6.mpr j2); omega) g3 (by omega) hok (fun u4 C5 k6 j7 => ?_) (fun u4 C5 k6 j7 => ?_)
      · show gm_Wp X LX d _ _ 97 58 _ [gm_vi 1] n K R _ Q
        have j7 : (A (tx_n (M 2) e b)).1 = true := j7
        have g8 : 0 ≤ (A (tx_n (M 2) e b)).2 ∧ (A (tx_n (M 2) e b)).2 ≤ e := by have := iA (tx_n (M 2) e b) g3.1 g3.2; have := g3.1; omega
        refine gm_sz (gm_p_goto (pc := 58) (off := 30) (by decide +kernel) (by decide)) ?_
        refine gm_sz (gm_p_stor (pc := 88) (i := .istore_n 3) (sr := 0) (j := 3) (by decide +kernel) rfl (show 4 ≤ _ from Nat.le_of_ble_eq_true rfl) rfl) ?_
        refine gm_sz (gm_p_load (pc := 89) (i := .iload_n 3) (sr := 0) (j := 3) (by decide +kernel) rfl rfl rfl) ?_
        refine fw_iffd (cc := .eq) (pc := 90) (off := 13) (by decide +kernel) (by decide) ⟨by decide, by decide⟩ (by decide) ?_
        refine gm_sz (gm_p_load (pc := 93) (i := .iload_n 2) (sr := 0) (j := 2) (by decide +kernel) rfl rfl rfl) ?_
        refine fw_iffd (cc := .eq) (pc := 94) (off := 9) (by decide +kernel) (by decide) ⟨by decide, by decide⟩ (by decide) ?_
        refine gm_sz (gm_p_load (pc := 97) (i := .aload_n 0) (sr := 2) (j := 0) (by decide +kernel) rfl rfl rfl) ?_
        refine gm_sz (gm_p_const (pc := 98) (i := .bipush (-15)) (v := gm_vi (-15)) (by decide +kernel) (by decide +kernel)) ?_
        refine gm_c_virt (k := 215) (ci := 9) (mj := 99) (ix := 94) (pc := 100) (as := [gm_vi (-15)]) (st := []) (d' := d - 1) (bc' := 0) (bs' := 0) (by decide +kernel) (by decide +kernel) (by decide +kernel) (by decide +kernel) (tE215c hE).1 (tE215c hE).2 (by decide) (by decide +kernel) (show 1 = gm_na 99 by decide +kernel) (fw_c1 fw_si) (show 2 ≤ gm_ml 99 by decide +kernel) (Nat.le_of_ble_eq_true rfl) (by omega) (Nat.zero_le _) (Nat.zero_le _) ?_
        have z9 := klen k6 hok
        have o9 := (oA (hok6.mpr j2) _ g3.1 g3.2 j7).1
        have z9 : u4 = us + ((scds (SA (tx_n (M 2) e b))).length : Int) := z9
        refine kx_c99 hE k6 (by omega) ⟨by decide, by decide⟩ (fun C10 k11 => ?_)
        show gm_Wp X LX d _ _ 97 103 _ [] n K R _ Q
        refine gm_sz (gm_p_load (pc := 103) (i := .iload_n 3) (sr := 0) (j := 3) (by decide +kernel) rfl rfl rfl) ?_
        rw [g_a1 j1 (hok6.mpr j2)] at h1
        rw [s_a1 j1, scds_app, scds_1 (Or.inl rfl), ← List.append_assoc] at h1
        exact gm_r_int (pc := 104) (by decide +kernel) (Or.inr ⟨(by decide +kernel), Or.inr rfl⟩) (h1 _ _ k11 j7)
      · show gm_Wp X LX d _ _ 97 58 _ [gm_vi 0] n K R _ Q
        have j7 : ¬ (A (tx_n (M 2) e b)).1 = true := j7
        have g8 : 0 ≤ (A (tx_n (M 2) e b)).2 ∧ (A (tx_n (M 2) e b)).2 ≤ e := by have := iA (tx_n (M 2) e b) g3.1 g3.2; have := g3.1; omega
        refine gm_sz (gm_p_goto (pc := 58) (off := 30) (by decide +kernel) (by decide)) ?_
        refine gm_sz (gm_p_stor (pc := 88) (i := .istore_n 3) (sr := 0) (j := 3) (by decide +kernel) rfl (show 4 ≤ _ from Nat.le_of_ble_eq_true rfl) rfl) ?_
        refine gm_sz (gm_p_load (pc := 89) (i := .iload_n 3) (sr := 0) (j := 3) (by decide +kernel) rfl rfl rfl) ?_
        refine fw_iftd (cc := .eq) (pc := 90) (off := 13) (by decide +kernel) (by decide) ⟨by decide, by decide⟩ (by decide) ?_
        refine gm_sz (gm_p_load (pc := 103) (i := .iload_n 3) (sr := 0) (j := 3) (by decide +kernel) rfl rfl rfl) ?_
        rw [g_a1 j1 (hok6.mpr j2)] at h0
        exact gm_r_int (pc := 104) (by decide +kernel) (Or.inr ⟨(by decide +kernel), Or.inl rfl⟩) (h0 _ _ k6 j7)
    · have j2 : ¬ dep < 6 := j2
      refine gm_sz (gm_p_load (pc := 32) (i := .aload_n 0) (sr := 2) (j := 0) (by decide +kernel) rfl rfl rfl) ?_
      refine gm_sz (fw_gr (pc := 33) (ix := 47) (ci := 9) (j := 0) (r := 216) (by decide +kernel) (tE215c hE) (by decide +kernel) (by decide +kernel) (tEr hE).2.1) ?_
      refine gm_c_virt (k := 216) (ci := 8) (mj := 93) (ix := 51) (pc := 36) (as := []) (st := []) (d' := d - 1) (bc' := 0) (bs' := 0) (by decide +kernel) (by decide +kernel) (by decide +kernel) (by decide +kernel) (tE216c hE).1 (tE216c hE).2 (by decide) (by decide +kernel) (show 0 = gm_na 93 by decide +kernel) fw_c0 (show 1 ≤ gm_ml 93 by decide +kernel) (Nat.le_of_ble_eq_true rfl) (by omega) (Nat.zero_le _) (Nat.zero_le _) ?_
      refine tx_c93 hE hb ?_
      show gm_Wp X LX d _ _ 97 39 _ [gm_vi 0] n K R _ Q
      rw [g_a0 (Or.inl j1) (fun h => j2 (hok6.mp h))] at h0
      exact gm_r_int (pc := 39) (by decide +kernel) (Or.inr ⟨(by decide +kernel), Or.inl rfl⟩) (h0 _ _ hok.2.1 (fun h => by cases h))
  · show gm_Wp X LX d _ _ 97 9 _ [gm_vi 0] n K R _ Q
    have j1 : ¬ tx_is (M 2) e b wo_not := j1
    refine gm_sz (gm_p_stor (pc := 9) (i := .istore_n 2) (sr := 0) (j := 2) (by decide +kernel) rfl (show 3 ≤ _ from Nat.le_of_ble_eq_true rfl) rfl) ?_
    refine gm_sz (gm_p_load (pc := 10) (i := .iload_n 2) (sr := 0) (j := 2) (by decide +kernel) rfl rfl rfl) ?_
    refine fw_iffd (cc := .ne) (pc := 11) (off := 15) (by decide +kernel) (by decide) ⟨by decide, by decide⟩ (by decide) ?_
    refine gm_sz (gm_p_load (pc := 14) (i := .aload_n 0) (sr := 2) (j := 0) (by decide +kernel) rfl rfl rfl) ?_
    refine gm_sz (fw_gr (pc := 15) (ix := 47) (ci := 9) (j := 0) (r := 216) (by decide +kernel) (tE215c hE) (by decide +kernel) (by decide +kernel) (tEr hE).2.1) ?_
    refine gm_sz (fw_gi (pc := 18) (ix := 102) (ci := 8) (j := 6) (x := tx_k (M 2) e b) (by decide +kernel) (tE216c hE) (by decide +kernel) (by decide +kernel) rfl) ?_
    refine gm_sz (gm_p_const (pc := 21) (i := .bipush 40) (v := gm_vi 40) (by decide +kernel) (by decide +kernel)) ?_
    refine fw_ic (cc := .ne) (pc := 23) (off := 82) (by decide +kernel) (by decide) ⟨by omega, by omega⟩ ⟨by decide, by decide⟩ (fun j12 => ?_) (fun j12 => ?_)
    · have j12 : ¬ (tx_k (M 2) e b) = 40 := j12
      refine gm_sz (gm_p_load (pc := 105) (i := .aload_n 0) (sr := 2) (j := 0) (by decide +kernel) rfl rfl rfl) ?_
      refine gm_sz (fw_gr (pc := 106) (ix := 47) (ci := 9) (j := 0) (r := 216) (by decide +kernel) (tE215c hE) (by decide +kernel) (by decide +kernel) (tEr hE).2.1) ?_
      refine gm_sz (gm_p_ldcs (pc := 109) (i := .ldc 109) (ix := 109) (id := 5) (by decide +kernel) (Or.inl rfl) (by decide +kernel)) ?_
      refine gm_c_virt (k := 216) (ci := 8) (mj := 95) (ix := 67) (pc := 111) (as := [gm_vo 5]) (st := []) (d' := d - 1) (bc' := 0) (bs' := 0) (by decide +kernel) (by decide +kernel) (by decide +kernel) (by decide +kernel) (tE216c hE).1 (tE216c hE).2 (by decide) (by decide +kernel) (show 1 = gm_na 95 by decide +kernel) (fw_c1 fw_so) (show 2 ≤ gm_ml 95 by decide +kernel) (Nat.le_of_ble_eq_true rfl) (by omega) (Nat.zero_le _) (Nat.zero_le _) ?_
      refine tx_c95 (by omega) hE (by decide) (show tx_o 5 = wo_side by decide +kernel) hb (fun j13 => ?_) (fun j13 => ?_)
      · show gm_Wp X LX d _ _ 97 114 _ [gm_vi 1] n K R _ Q
        have j13 : tx_is (M 2) e b wo_side := j13
        have g14 : 0 ≤ tx_n (M 2) e b ∧ tx_n (M 2) e b ≤ e := by have := tx_nb (f := M 2) (b := b) hb.2; omega
        refine fw_iffd (cc := .eq) (pc := 114) (off := 11) (by decide +kernel) (by decide) ⟨by decide, by decide⟩ (by decide) ?_
        refine gm_sz (gm_p_load (pc := 117) (i := .aload_n 0) (sr := 2) (j := 0) (by decide +kernel) rfl rfl rfl) ?_
        refine gm_sz (gm_p_const (pc := 118) (i := .bipush (-10)) (v := gm_vi (-10)) (by decide +kernel) (by decide +kernel)) ?_
        refine gm_c_virt (k := 215) (ci := 9) (mj := 99) (ix := 94) (pc := 120) (as := [gm_vi (-10)]) (st := []) (d' := d - 1) (bc' := 0) (bs' := 0) (by decide +kernel) (by decide +kernel) (by decide +kernel) (by decide +kernel) (tE215c hE).1 (tE215c hE).2 (by decide) (by decide +kernel) (show 1 = gm_na 99 by decide +kernel) (fw_c1 fw_si) (show 2 ≤ gm_ml 99 by decide +kernel) (Nat.le_of_ble_eq_true rfl) (by omega) (Nat.zero_le _) (Nat.zero_le _) ?_
        refine kx_c99 hE hok (by omega) ⟨by decide, by decide⟩ (fun C16 k17 => ?_)
        show gm_Wp X LX d _ _ 97 123 _ [] n K R _ Q
        refine gm_sz (gm_p_const (pc := 123) (i := .iconst 1) (v := gm_vi 1) (by decide +kernel) (by decide +kernel)) ?_
        rw [g_a5 j1 (by omega) (Or.inl j13)] at h1
        rw [s_a5 j1 (by omega) j13, scds_1 (Or.inr (Or.inr (Or.inr (Or.inl rfl))))] at h1
        exact gm_r_int (pc := 124) (by decide +kernel) (Or.inr ⟨(by decide +kernel), Or.inr rfl⟩) (h1 _ _ k17 rfl)
      · show gm_Wp X LX d _ _ 97 114 _ [gm_vi 0] n K R _ Q
        have j13 : ¬ tx_is (M 2) e b wo_side := j13
        refine fw_iftd (cc := .eq) (pc := 114) (off := 11) (by decide +kernel) (by decide) ⟨by decide, by decide⟩ (by decide) ?_
        refine gm_sz (gm_p_load (pc := 125) (i := .aload_n 0) (sr := 2) (j := 0) (by decide +kernel) rfl rfl rfl) ?_
        refine gm_sz (fw_gr (pc := 126) (ix := 47) (ci := 9) (j := 0) (r := 216) (by decide +kernel) (tE215c hE) (by decide +kernel) (by decide +kernel) (tEr hE).2.1) ?_
        refine gm_sz (gm_p_ldcs (pc := 129) (i := .ldc 111) (ix := 111) (id := 6) (by decide +kernel) (Or.inl rfl) (by decide +kernel)) ?_
        refine gm_c_virt (k := 216) (ci := 8) (mj := 95) (ix := 67) (pc := 131) (as := [gm_vo 6]) (st := []) (d' := d - 1) (bc' := 0) (bs' := 0) (by decide +kernel) (by decide +kernel) (by decide +kernel) (by decide +kernel) (tE216c hE).1 (tE216c hE).2 (by decide) (by decide +kernel) (show 1 = gm_na 95 by decide +kernel) (fw_c1 fw_so) (show 2 ≤ gm_ml 95 by decide +kernel) (Nat.le_of_ble_eq_true rfl) (by omega) (Nat.zero_le _) (Nat.zero_le _) ?_
        refine tx_c95 (by omega) hE (by decide) (show tx_o 6 = wo_first by decide +kernel) hb (fun j18 => ?_) (fun j18 => ?_)
        · show gm_Wp X LX d _ _ 97 134 _ [gm_vi 1] n K R _ Q
          have j18 : tx_is (M 2) e b wo_first := j18
          have g19 : 0 ≤ tx_n (M 2) e b ∧ tx_n (M 2) e b ≤ e := by have := tx_nb (f := M 2) (b := b) hb.2; omega
          refine fw_iffd (cc := .eq) (pc := 134) (off := 11) (by decide +kernel) (by decide) ⟨by decide, by decide⟩ (by decide) ?_
          refine gm_sz (gm_p_load (pc := 137) (i := .aload_n 0) (sr := 2) (j := 0) (by decide +kernel) rfl rfl rfl) ?_
          refine gm_sz (gm_p_const (pc := 138) (i := .bipush (-11)) (v := gm_vi (-11)) (by decide +kernel) (by decide +kernel)) ?_
          refine gm_c_virt (k := 215) (ci := 9) (mj := 99) (ix := 94) (pc := 140) (as := [gm_vi (-11)]) (st := []) (d' := d - 1) (bc' := 0) (bs' := 0) (by decide +kernel) (by decide +kernel) (by decide +kernel) (by decide +kernel) (tE215c hE).1 (tE215c hE).2 (by decide) (by decide +kernel) (show 1 = gm_na 99 by decide +kernel) (fw_c1 fw_si) (show 2 ≤ gm_ml 99 by decide +kernel) (Nat.le_of_ble_eq_true rfl) (by omega) (Nat.zero_le _) (Nat.zero_le _) ?_
          refine kx_c99 hE hok (by omega) ⟨by decide, by decide⟩ (fun C21 k22 => ?_)
          show gm_Wp X LX d _ _ 97 143 _ [] n K R _ Q
          refine gm_sz (gm_p_const (pc := 143) (i := .iconst 1) (v := gm_vi 1) (by decide +kernel) (by decide +kernel)) ?_
          rw [g_a5 j1 (by omega) (Or.inr j18)] at h1
          rw [s_a6 j1 (by omega) j13 j18, scds_1 (Or.inr (Or.inr (Or.inr (Or.inr rfl))))] at h1
          exact gm_r_int (pc := 144) (by decide +kernel) (Or.inr ⟨(by decide +kernel), Or.inr rfl⟩) (h1 _ _ k22 rfl)
        · show gm_Wp X LX d _ _ 97 134 _ [gm_vi 0] n K R _ Q
          have j18 : ¬ tx_is (M 2) e b wo_first := j18
          refine fw_iftd (cc := .eq) (pc := 134) (off := 11) (by decide +kernel) (by decide) ⟨by decide, by decide⟩ (by decide) ?_
          refine gm_sz (gm_p_load (pc := 145) (i := .aload_n 0) (sr := 2) (j := 0) (by decide +kernel) rfl rfl rfl) ?_
          refine gm_c_virt (k := 215) (ci := 9) (mj := 100) (ix := 113) (pc := 146) (as := []) (st := []) (d' := d - 1) (bc' := 0) (bs' := 0) (by decide +kernel) (by decide +kernel) (by decide +kernel) (by decide +kernel) (tE215c hE).1 (tE215c hE).2 (by decide) (by decide +kernel) (show 0 = gm_na 100 by decide +kernel) fw_c0 (show 1 ≤ gm_ml 100 by decide +kernel) (Nat.le_of_ble_eq_true rfl) (by omega) (Nat.zero_le _) (Nat.zero_le _) ?_
          refine kx_c100 hE _ _ _ _ _ _ _ _ (by omega) hb hu hok (fun u23 C24 k25 j26 => ?_) (fun u23 C24 k25 j26 => ?_)
          · show gm_Wp X LX d _ _ 97 149 _ [gm_vi 1] n K R _ Q
            have j26 : (g_sum (M 2) e 400 b).1 = true := j26
            have g27 : 0 ≤ (g_sum (M 2) e 400 b).2 ∧ (g_sum (M 2) e 400 b).2 ≤ e := by have := g_sum_in (f := M 2) 400 b hb.1 hb.2; have := hb.1; omega
            have z25 := klen k25 hok
            rw [List.length_map] at z25
            have w25 := (s_sumw (f := M 2) 400 b hb.1 hb.2 j26).2.2
            have nb25 := tx_nb (f := M 2) (e := e) (b := (g_sum (M 2) e 400 b).2) g27.2
            refine fw_iftd (cc := .ne) (pc := 149) (off := 5) (by decide +kernel) (by decide) ⟨by decide, by decide⟩ (by decide) ?_
            refine gm_sz (gm_p_load (pc := 154) (i := .aload_n 0) (sr := 2) (j := 0) (by decide +kernel) rfl rfl rfl) ?_
            refine gm_sz (fw_gr (pc := 155) (ix := 47) (ci := 9) (j := 0) (r := 216) (by decide +kernel) (tE215c hE) (by decide +kernel) (by decide +kernel) (tEr hE).2.1) ?_
            refine gm_sz (fw_gi (pc := 158) (ix := 102) (ci := 8) (j := 6) (x := tx_k (M 2) e ((g_sum (M 2) e 400 b).2)) (by decide +kernel) (tE216c hE) (by decide +kernel) (by decide +kernel) rfl) ?_
            refine gm_sz (gm_p_stor (pc := 161) (i := .istore_n 3) (sr := 0) (j := 3) (by decide +kernel) rfl (show 4 ≤ _ from Nat.le_of_ble_eq_true rfl) rfl) ?_
            refine gm_sz (gm_p_load (pc := 162) (i := .iload_n 3) (sr := 0) (j := 3) (by decide +kernel) rfl rfl rfl) ?_
            refine gm_sz (gm_p_const (pc := 163) (i := .bipush 60) (v := gm_vi 60) (by decide +kernel) (by decide +kernel)) ?_
            refine fw_ic (cc := .eq) (pc := 165) (off := 17) (by decide +kernel) (by decide) ⟨by omega, by omega⟩ ⟨by decide, by decide⟩ (fun j28 => ?_) (fun j28 => ?_)
            · have j28 : (tx_k (M 2) e ((g_sum (M 2) e 400 b).2)) = 60 := j28
              refine gm_sz (gm_p_load (pc := 182) (i := .aload_n 0) (sr := 2) (j := 0) (by decide +kernel) rfl rfl rfl) ?_
              refine gm_sz (fw_gr (pc := 183) (ix := 47) (ci := 9) (j := 0) (r := 216) (by decide +kernel) (tE215c hE) (by decide +kernel) (by decide +kernel) (tEr hE).2.1) ?_
              refine gm_c_virt (k := 216) (ci := 8) (mj := 76) (ix := 57) (pc := 186) (as := []) (st := []) (d' := d - 1) (bc' := 0) (bs' := 0) (by decide +kernel) (by decide +kernel) (by decide +kernel) (by decide +kernel) (tE216c hE).1 (tE216c hE).2 (by decide) (by decide +kernel) (show 0 = gm_na 76 by decide +kernel) fw_c0 (show 1 ≤ gm_ml 76 by decide +kernel) (Nat.le_of_ble_eq_true rfl) (by omega) (Nat.zero_le _) (Nat.zero_le _) ?_
              refine tx_c76 (by omega) hE g27 ?_
              show gm_Wp X LX d _ _ 97 189 _ [] n K R _ Q
              have g29 : 0 ≤ tx_n (M 2) e ((g_sum (M 2) e 400 b).2) ∧ tx_n (M 2) e ((g_sum (M 2) e 400 b).2) ≤ e := by have := tx_nb (f := M 2) (b := (g_sum (M 2) e 400 b).2) g27.2; omega
              refine gm_sz (gm_p_load (pc := 189) (i := .aload_n 0) (sr := 2) (j := 0) (by decide +kernel) rfl rfl rfl) ?_
              refine gm_sz (gm_p_const (pc := 190) (i := .bipush (-12)) (v := gm_vi (-12)) (by decide +kernel) (by decide +kernel)) ?_
              refine gm_c_virt (k := 215) (ci := 9) (mj := 99) (ix := 94) (pc := 192) (as := [gm_vi (-12)]) (st := []) (d' := d - 1) (bc' := 0) (bs' := 0) (by decide +kernel) (by decide +kernel) (by decide +kernel) (by decide +kernel) (tE215c hE).1 (tE215c hE).2 (by decide) (by decide +kernel) (show 1 = gm_na 99 by decide +kernel) (fw_c1 fw_si) (show 2 ≤ gm_ml 99 by decide +kernel) (Nat.le_of_ble_eq_true rfl) (by omega) (Nat.zero_le _) (Nat.zero_le _) ?_
              have kb25 := nb25.2.2 (tx_kne (f := M 2) (by omega))
              refine kx_c99 hE k25 (by omega) ⟨by decide, by decide⟩ (fun C31 k32 => ?_)
              show gm_Wp X LX d _ _ 97 195 _ [] n K R _ Q
              refine gm_sz (gm_p_load (pc := 195) (i := .aload_n 0) (sr := 2) (j := 0) (by decide +kernel) rfl rfl rfl) ?_
              refine gm_c_virt (k := 215) (ci := 9) (mj := 100) (ix := 113) (pc := 196) (as := []) (st := []) (d' := d - 1) (bc' := 0) (bs' := 0) (by decide +kernel) (by decide +kernel) (by decide +kernel) (by decide +kernel) (tE215c hE).1 (tE215c hE).2 (by decide) (by decide +kernel) (show 0 = gm_na 100 by decide +kernel) fw_c0 (show 1 ≤ gm_ml 100 by decide +kernel) (Nat.le_of_ble_eq_true rfl) (by omega) (Nat.zero_le _) (Nat.zero_le _) ?_
              refine kx_c100 hE _ _ _ _ _ _ _ _ (by omega) g29 (by omega) k32 (fun u33 C34 k35 j36 => ?_) (fun u33 C34 k35 j36 => ?_)
              · show gm_Wp X LX d _ _ 97 199 _ [gm_vi 1] n K R _ Q
                have j36 : (g_sum (M 2) e 400 (tx_n (M 2) e ((g_sum (M 2) e 400 b).2))).1 = true := j36
                have g37 : 0 ≤ (g_sum (M 2) e 400 (tx_n (M 2) e ((g_sum (M 2) e 400 b).2))).2 ∧ (g_sum (M 2) e 400 (tx_n (M 2) e ((g_sum (M 2) e 400 b).2))).2 ≤ e := by have := g_sum_in (f := M 2) 400 (tx_n (M 2) e ((g_sum (M 2) e 400 b).2)) g29.1 g29.2; have := g29.1; omega
                refine fw_iftd (cc := .ne) (pc := 199) (off := 5) (by decide +kernel) (by decide) ⟨by decide, by decide⟩ (by decide) ?_
                refine gm_sz (gm_p_load (pc := 204) (i := .aload_n 0) (sr := 2) (j := 0) (by decide +kernel) rfl rfl rfl) ?_
                refine gm_sz (gm_p_load (pc := 205) (i := .iload_n 3) (sr := 0) (j := 3) (by decide +kernel) rfl rfl rfl) ?_
                refine gm_sz (gm_p_const (pc := 206) (i := .bipush 60) (v := gm_vi 60) (by decide +kernel) (by decide +kernel)) ?_
                refine fw_ic (cc := .ne) (pc := 208) (off := 8) (by decide +kernel) (by decide) ⟨by omega, by omega⟩ ⟨by decide, by decide⟩ (fun j38 => ?_) (fun j38 => ?_)
                · have j38 : ¬ (tx_k (M 2) e ((g_sum (M 2) e 400 b).2)) = 60 := j38
                  exact absurd j28 j38
                · have j38 : (tx_k (M 2) e ((g_sum (M 2) e 400 b).2)) = 60 := Classical.not_not.mp j38
                  refine gm_sz (gm_p_const (pc := 211) (i := .bipush (-13)) (v := gm_vi (-13)) (by decide +kernel) (by decide +kernel)) ?_
                  refine gm_sz (gm_p_goto (pc := 213) (off := 5) (by decide +kernel) (by decide)) ?_
                  refine gm_c_virt (k := 215) (ci := 9) (mj := 99) (ix := 94) (pc := 218) (as := [gm_vi (-13)]) (st := []) (d' := d - 1) (bc' := 0) (bs' := 0) (by decide +kernel) (by decide +kernel) (by decide +kernel) (by decide +kernel) (tE215c hE).1 (tE215c hE).2 (by decide) (by decide +kernel) (show 1 = gm_na 99 by decide +kernel) (fw_c1 fw_si) (show 2 ≤ gm_ml 99 by decide +kernel) (Nat.le_of_ble_eq_true rfl) (by omega) (Nat.zero_le _) (Nat.zero_le _) ?_
                  have z9 := klen k35 k32
                  rw [List.length_map] at z9
                  have w9 := (s_sumw (f := M 2) 400 _ g29.1 g29.2 j36).2.2
                  refine kx_c99 hE k35 (by omega) ⟨by decide, by decide⟩ (fun C43 k44 => ?_)
                  show gm_Wp X LX d _ _ 97 221 _ [] n K R _ Q
                  refine gm_sz (gm_p_const (pc := 221) (i := .iconst 1) (v := gm_vi 1) (by decide +kernel) (by decide +kernel)) ?_
                  rw [g_a8 j1 (by omega) j13 j18 j26 (by omega)] at h1
                  rw [s_a8 (g := false) j1 (by omega) j13 j18 (decide_eq_false (by omega)), scds_c, ← List.append_assoc, ← List.append_assoc, ← List.append_assoc] at h1
                  exact gm_r_int (pc := 222) (by decide +kernel) (Or.inr ⟨(by decide +kernel), Or.inr rfl⟩) (h1 _ _ k44 j36)
              · show gm_Wp X LX d _ _ 97 199 _ [gm_vi 0] n K R _ Q
                have j36 : ¬ (g_sum (M 2) e 400 (tx_n (M 2) e ((g_sum (M 2) e 400 b).2))).1 = true := j36
                have g37 : 0 ≤ (g_sum (M 2) e 400 (tx_n (M 2) e ((g_sum (M 2) e 400 b).2))).2 ∧ (g_sum (M 2) e 400 (tx_n (M 2) e ((g_sum (M 2) e 400 b).2))).2 ≤ e := by have := g_sum_in (f := M 2) 400 (tx_n (M 2) e ((g_sum (M 2) e 400 b).2)) g29.1 g29.2; have := g29.1; omega
                refine fw_iffd (cc := .ne) (pc := 199) (off := 5) (by decide +kernel) (by decide) ⟨by decide, by decide⟩ (by decide) ?_
                refine gm_sz (gm_p_const (pc := 202) (i := .iconst 0) (v := gm_vi 0) (by decide +kernel) (by decide +kernel)) ?_
                rw [g_a8 j1 (by omega) j13 j18 j26 (by omega)] at h0
                exact gm_r_int (pc := 203) (by decide +kernel) (Or.inr ⟨(by decide +kernel), Or.inl rfl⟩) (h0 _ _ k35 j36)
            · have j28 : ¬ (tx_k (M 2) e ((g_sum (M 2) e 400 b).2)) = 60 := j28
              refine gm_sz (gm_p_load (pc := 168) (i := .iload_n 3) (sr := 0) (j := 3) (by decide +kernel) rfl rfl rfl) ?_
              refine gm_sz (gm_p_const (pc := 169) (i := .bipush 62) (v := gm_vi 62) (by decide +kernel) (by decide +kernel)) ?_
              refine fw_ic (cc := .eq) (pc := 171) (off := 11) (by decide +kernel) (by decide) ⟨by omega, by omega⟩ ⟨by decide, by decide⟩ (fun j45 => ?_) (fun j45 => ?_)
              · have j45 : (tx_k (M 2) e ((g_sum (M 2) e 400 b).2)) = 62 := j45
                refine gm_sz (gm_p_load (pc := 182) (i := .aload_n 0) (sr := 2) (j := 0) (by decide +kernel) rfl rfl rfl) ?_
                refine gm_sz (fw_gr (pc := 183) (ix := 47) (ci := 9) (j := 0) (r := 216) (by decide +kernel) (tE215c hE) (by decide +kernel) (by decide +kernel) (tEr hE).2.1) ?_
                refine gm_c_virt (k := 216) (ci := 8) (mj := 76) (ix := 57) (pc := 186) (as := []) (st := []) (d' := d - 1) (bc' := 0) (bs' := 0) (by decide +kernel) (by decide +kernel) (by decide +kernel) (by decide +kernel) (tE216c hE).1 (tE216c hE).2 (by decide) (by decide +kernel) (show 0 = gm_na 76 by decide +kernel) fw_c0 (show 1 ≤ gm_ml 76 by decide +kernel) (Nat.le_of_ble_eq_true rfl) (by omega) (Nat.zero_le _) (Nat.zero_le _) ?_
                refine tx_c76 (by omega) hE g27 ?_
                show gm_Wp X LX d _ _ 97 189 _ [] n K R _ Q
                have g46 : 0 ≤ tx_n (M 2) e ((g_sum (M 2) e 400 b).2) ∧ tx_n (M 2) e ((g_sum (M 2) e 400 b).2) ≤ e := by have := tx_nb (f := M 2) (b := (g_sum (M 2) e 400 b).2) g27.2; omega
                refine gm_sz (gm_p_load (pc := 189) (i := .aload_n 0) (sr := 2) (j := 0) (by decide +kernel) rfl rfl rfl) ?_
                refine gm_sz (gm_p_const (pc := 190) (i := .bipush (-12)) (v := gm_vi (-12)) (by decide +kernel) (by decide +kernel)) ?_
                refine gm_c_virt (k := 215) (ci := 9) (mj := 99) (ix := 94) (pc := 192) (as := [gm_vi (-12)]) (st := []) (d' := d - 1) (bc' := 0) (bs' := 0) (by decide +kernel) (by decide +kernel) (by decide +kernel) (by decide +kernel) (tE215c hE).1 (tE215c hE).2 (by decide) (by decide +kernel) (show 1 = gm_na 99 by decide +kernel) (fw_c1 fw_si) (show 2 ≤ gm_ml 99 by decide +kernel) (Nat.le_of_ble_eq_true rfl) (by omega) (Nat.zero_le _) (Nat.zero_le _) ?_
                have kb25 := nb25.2.2 (tx_kne (f := M 2) (by omega))
                refine kx_c99 hE k25 (by omega) ⟨by decide, by decide⟩ (fun C48 k49 => ?_)
                show gm_Wp X LX d _ _ 97 195 _ [] n K R _ Q
                refine gm_sz (gm_p_load (pc := 195) (i := .aload_n 0) (sr := 2) (j := 0) (by decide +kernel) rfl rfl rfl) ?_
                refine gm_c_virt (k := 215) (ci := 9) (mj := 100) (ix := 113) (pc := 196) (as := []) (st := []) (d' := d - 1) (bc' := 0) (bs' := 0) (by decide +kernel) (by decide +kernel) (by decide +kernel) (by decide +kernel) (tE215c hE).1 (tE215c hE).2 (by decide) (by decide +kernel) (show 0 = gm_na 100 by decide +kernel) fw_c0 (show 1 ≤ gm_ml 100 by decide +kernel) (Nat.le_of_ble_eq_true rfl) (by omega) (Nat.zero_le _) (Nat.zero_le _) ?_
                refine kx_c100 hE _ _ _ _ _ _ _ _ (by omega) g46 (by omega) k49 (fun u50 C51 k52 j53 => ?_) (fun u50 C51 k52 j53 => ?_)
                · show gm_Wp X LX d _ _ 97 199 _ [gm_vi 1] n K R _ Q
                  have j53 : (g_sum (M 2) e 400 (tx_n (M 2) e ((g_sum (M 2) e 400 b).2))).1 = true := j53
                  have g54 : 0 ≤ (g_sum (M 2) e 400 (tx_n (M 2) e ((g_sum (M 2) e 400 b).2))).2 ∧ (g_sum (M 2) e 400 (tx_n (M 2) e ((g_sum (M 2) e 400 b).2))).2 ≤ e := by have := g_sum_in (f := M 2) 400 (tx_n (M 2) e ((g_sum (M 2) e 400 b).2)) g46.1 g46.2; have := g46.1; omega
                  refine fw_iftd (cc := .ne) (pc := 199) (off := 5) (by decide +kernel) (by decide) ⟨by decide, by decide⟩ (by decide) ?_
                  refine gm_sz (gm_p_load (pc := 204) (i := .aload_n 0) (sr := 2) (j := 0) (by decide +kernel) rfl rfl rfl) ?_
                  refine gm_sz (gm_p_load (pc := 205) (i := .iload_n 3) (sr := 0) (j := 3) (by decide +kernel) rfl rfl rfl) ?_
                  refine gm_sz (gm_p_const (pc := 206) (i := .bipush 60) (v := gm_vi 60) (by decide +kernel) (by decide +kernel)) ?_
                  refine fw_ic (cc := .ne) (pc := 208) (off := 8) (by decide +kernel) (by decide) ⟨by omega, by omega⟩ ⟨by decide, by decide⟩ (fun j55 => ?_) (fun j55 => ?_)
                  · have j55 : ¬ (tx_k (M 2) e ((g_sum (M 2) e 400 b).2)) = 60 := j55
                    refine gm_sz (gm_p_const (pc := 216) (i := .bipush (-14)) (v := gm_vi (-14)) (by decide +kernel) (by decide +kernel)) ?_
                    refine gm_c_virt (k := 215) (ci := 9) (mj := 99) (ix := 94) (pc := 218) (as := [gm_vi (-14)]) (st := []) (d' := d - 1) (bc' := 0) (bs' := 0) (by decide +kernel) (by decide +kernel) (by decide +kernel) (by decide +kernel) (tE215c hE).1 (tE215c hE).2 (by decide) (by decide +kernel) (show 1 = gm_na 99 by decide +kernel) (fw_c1 fw_si) (show 2 ≤ gm_ml 99 by decide +kernel) (Nat.le_of_ble_eq_true rfl) (by omega) (Nat.zero_le _) (Nat.zero_le _) ?_
                    have z9 := klen k52 k49
                    rw [List.length_map] at z9
                    have w9 := (s_sumw (f := M 2) 400 _ g46.1 g46.2 j53).2.2
                    refine kx_c99 hE k52 (by omega) ⟨by decide, by decide⟩ (fun C57 k58 => ?_)
                    show gm_Wp X LX d _ _ 97 221 _ [] n K R _ Q
                    refine gm_sz (gm_p_const (pc := 221) (i := .iconst 1) (v := gm_vi 1) (by decide +kernel) (by decide +kernel)) ?_
                    rw [g_a8 j1 (by omega) j13 j18 j26 (by omega)] at h1
                    rw [s_a8 (g := true) j1 (by omega) j13 j18 (decide_eq_true (by omega)), scds_c, ← List.append_assoc, ← List.append_assoc, ← List.append_assoc] at h1
                    exact gm_r_int (pc := 222) (by decide +kernel) (Or.inr ⟨(by decide +kernel), Or.inr rfl⟩) (h1 _ _ k58 j53)
                  · have j55 : (tx_k (M 2) e ((g_sum (M 2) e 400 b).2)) = 60 := Classical.not_not.mp j55
                    omega
                · show gm_Wp X LX d _ _ 97 199 _ [gm_vi 0] n K R _ Q
                  have j53 : ¬ (g_sum (M 2) e 400 (tx_n (M 2) e ((g_sum (M 2) e 400 b).2))).1 = true := j53
                  have g54 : 0 ≤ (g_sum (M 2) e 400 (tx_n (M 2) e ((g_sum (M 2) e 400 b).2))).2 ∧ (g_sum (M 2) e 400 (tx_n (M 2) e ((g_sum (M 2) e 400 b).2))).2 ≤ e := by have := g_sum_in (f := M 2) 400 (tx_n (M 2) e ((g_sum (M 2) e 400 b).2)) g46.1 g46.2; have := g46.1; omega
                  refine fw_iffd (cc := .ne) (pc := 199) (off := 5) (by decide +kernel) (by decide) ⟨by decide, by decide⟩ (by decide) ?_
                  refine gm_sz (gm_p_const (pc := 202) (i := .iconst 0) (v := gm_vi 0) (by decide +kernel) (by decide +kernel)) ?_
                  rw [g_a8 j1 (by omega) j13 j18 j26 (by omega)] at h0
                  exact gm_r_int (pc := 203) (by decide +kernel) (Or.inr ⟨(by decide +kernel), Or.inl rfl⟩) (h0 _ _ k52 j53)
              · have j45 : ¬ (tx_k (M 2) e ((g_sum (M 2) e 400 b).2)) = 62 := j45
                refine gm_sz (gm_p_load (pc := 174) (i := .aload_n 0) (sr := 2) (j := 0) (by decide +kernel) rfl rfl rfl) ?_
                refine gm_sz (fw_gr (pc := 175) (ix := 47) (ci := 9) (j := 0) (r := 216) (by decide +kernel) (tE215c hE) (by decide +kernel) (by decide +kernel) (tEr hE).2.1) ?_
                refine gm_c_virt (k := 216) (ci := 8) (mj := 93) (ix := 51) (pc := 178) (as := []) (st := []) (d' := d - 1) (bc' := 0) (bs' := 0) (by decide +kernel) (by decide +kernel) (by decide +kernel) (by decide +kernel) (tE216c hE).1 (tE216c hE).2 (by decide) (by decide +kernel) (show 0 = gm_na 93 by decide +kernel) fw_c0 (show 1 ≤ gm_ml 93 by decide +kernel) (Nat.le_of_ble_eq_true rfl) (by omega) (Nat.zero_le _) (Nat.zero_le _) ?_
                refine tx_c93 hE g27 ?_
                show gm_Wp X LX d _ _ 97 181 _ [gm_vi 0] n K R _ Q
                rw [g_a7 j1 (by omega) j13 j18 j26 (by omega)] at h0
                exact gm_r_int (pc := 181) (by decide +kernel) (Or.inr ⟨(by decide +kernel), Or.inl rfl⟩) (h0 _ _ k25.2.1 (fun h => by cases h))
          · show gm_Wp X LX d _ _ 97 149 _ [gm_vi 0] n K R _ Q
            have j26 : ¬ (g_sum (M 2) e 400 b).1 = true := j26
            have g27 : 0 ≤ (g_sum (M 2) e 400 b).2 ∧ (g_sum (M 2) e 400 b).2 ≤ e := by have := g_sum_in (f := M 2) 400 b hb.1 hb.2; have := hb.1; omega
            refine fw_iffd (cc := .ne) (pc := 149) (off := 5) (by decide +kernel) (by decide) ⟨by decide, by decide⟩ (by decide) ?_
            refine gm_sz (gm_p_const (pc := 152) (i := .iconst 0) (v := gm_vi 0) (by decide +kernel) (by decide +kernel)) ?_
            rw [g_a6 j1 (by omega) j13 j18 j26] at h0
            exact gm_r_int (pc := 153) (by decide +kernel) (Or.inr ⟨(by decide +kernel), Or.inl rfl⟩) (h0 _ _ k25 j26)
    · have j12 : (tx_k (M 2) e b) = 40 := Classical.not_not.mp j12
      refine gm_sz (gm_p_load (pc := 26) (i := .iload_n 1) (sr := 0) (j := 1) (by decide +kernel) rfl rfl rfl) ?_
      refine gm_sz (gm_p_const (pc := 27) (i := .bipush 6) (v := gm_vi 6) (by decide +kernel) (by decide +kernel)) ?_
      refine fw_ic (cc := .lt) (pc := 29) (off := 11) (by decide +kernel) (by decide) ⟨by omega, by omega⟩ ⟨by decide, by decide⟩ (fun j62 => ?_) (fun j62 => ?_)
      · have j62 : dep < 6 := j62
        refine gm_sz (gm_p_load (pc := 40) (i := .aload_n 0) (sr := 2) (j := 0) (by decide +kernel) rfl rfl rfl) ?_
        refine gm_sz (fw_gr (pc := 41) (ix := 47) (ci := 9) (j := 0) (r := 216) (by decide +kernel) (tE215c hE) (by decide +kernel) (by decide +kernel) (tEr hE).2.1) ?_
        refine gm_c_virt (k := 216) (ci := 8) (mj := 76) (ix := 57) (pc := 44) (as := []) (st := []) (d' := d - 1) (bc' := 0) (bs' := 0) (by decide +kernel) (by decide +kernel) (by decide +kernel) (by decide +kernel) (tE216c hE).1 (tE216c hE).2 (by decide) (by decide +kernel) (show 0 = gm_na 76 by decide +kernel) fw_c0 (show 1 ≤ gm_ml 76 by decide +kernel) (Nat.le_of_ble_eq_true rfl) (by omega) (Nat.zero_le _) (Nat.zero_le _) ?_
        refine tx_c76 (by omega) hE hb ?_
        show gm_Wp X LX d _ _ 97 47 _ [] n K R _ Q
        have g63 : 0 ≤ tx_n (M 2) e b ∧ tx_n (M 2) e b ≤ e := by have := tx_nb (f := M 2) (b := b) hb.2; omega
        refine gm_sz (gm_p_load (pc := 47) (i := .iload_n 2) (sr := 0) (j := 2) (by decide +kernel) rfl rfl rfl) ?_
        refine fw_iftd (cc := .eq) (pc := 48) (off := 13) (by decide +kernel) (by decide) ⟨by decide, by decide⟩ (by decide) ?_
        refine gm_sz (gm_p_load (pc := 61) (i := .aload_n 0) (sr := 2) (j := 0) (by decide +kernel) rfl rfl rfl) ?_
        refine gm_sz (gm_p_load (pc := 62) (i := .iload_n 1) (sr := 0) (j := 1) (by decide +kernel) rfl rfl rfl) ?_
        refine gm_sz (gm_p_const (pc := 63) (i := .iconst 1) (v := gm_vi 1) (by decide +kernel) (by decide +kernel)) ?_
        refine gm_sz (gm_p_bin (pc := 64) (i := .iadd) (f := fun x y => x + y) (by decide +kernel) rfl) ?_
        refine gm_c_virt (k := 215) (ci := 9) (mj := 96) (ix := 71) (pc := 65) (as := [gm_vi (dep + 1)]) (st := []) (d' := d - 1) (bc' := 0) (bs' := 0) (by decide +kernel) (by decide +kernel) (by decide +kernel) (by decide +kernel) (tE215c hE).1 (tE215c hE).2 (by decide) (by decide +kernel) (show 1 = gm_na 96 by decide +kernel) (fw_c1 fw_si) (show 2 ≤ gm_ml 96 by decide +kernel) (Nat.le_of_ble_eq_true rfl) (by omega) (Nat.zero_le _) (Nat.zero_le _) ?_
        have kb := nb9.2.2 (tx_kne (f := M 2) (by omega))
        refine hC (hok6.mpr j62) _ _ _ _ _ _ _ _ (by have := hd9.2 (hok6.mpr j62); omega) g63 (by omega) hok (fun u64 C65 k66 j67 => ?_) (fun u64 C65 k66 j67 => ?_)
        · show gm_Wp X LX d _ _ 97 68 _ [gm_vi 1] n K R _ Q
          have j67 : (A2 (tx_n (M 2) e b)).1 = true := j67
          have g68 : 0 ≤ (A2 (tx_n (M 2) e b)).2 ∧ (A2 (tx_n (M 2) e b)).2 ≤ e := by have := iC (tx_n (M 2) e b) g63.1 g63.2; have := g63.1; omega
          refine fw_iffd (cc := .eq) (pc := 68) (off := 19) (by decide +kernel) (by decide) ⟨by decide, by decide⟩ (by decide) ?_
          refine gm_sz (gm_p_load (pc := 71) (i := .aload_n 0) (sr := 2) (j := 0) (by decide +kernel) rfl rfl rfl) ?_
          refine gm_sz (fw_gr (pc := 72) (ix := 47) (ci := 9) (j := 0) (r := 216) (by decide +kernel) (tE215c hE) (by decide +kernel) (by decide +kernel) (tEr hE).2.1) ?_
          refine gm_sz (gm_p_const (pc := 75) (i := .bipush 41) (v := gm_vi 41) (by decide +kernel) (by decide +kernel)) ?_
          refine gm_c_virt (k := 216) (ci := 8) (mj := 98) (ix := 105) (pc := 77) (as := [gm_vi 41]) (st := []) (d' := d - 1) (bc' := 0) (bs' := 0) (by decide +kernel) (by decide +kernel) (by decide +kernel) (by decide +kernel) (tE216c hE).1 (tE216c hE).2 (by decide) (by decide +kernel) (show 1 = gm_na 98 by decide +kernel) (fw_c1 fw_si) (show 2 ≤ gm_ml 98 by decide +kernel) (Nat.le_of_ble_eq_true rfl) (by omega) (Nat.zero_le _) (Nat.zero_le _) ?_
          refine tx_c98 (by omega) hE ⟨by decide, by decide⟩ g68 (fun j69 => ?_) (fun j69 => ?_)
          · show gm_Wp X LX d _ _ 97 80 _ [gm_vi 1] n K R _ Q
            have j69 : tx_k (M 2) e ((A2 (tx_n (M 2) e b)).2) = 41 := j69
            have g70 : 0 ≤ tx_n (M 2) e ((A2 (tx_n (M 2) e b)).2) ∧ tx_n (M 2) e ((A2 (tx_n (M 2) e b)).2) ≤ e := by have := tx_nb (f := M 2) (b := (A2 (tx_n (M 2) e b)).2) g68.2; omega
            refine fw_iffd (cc := .eq) (pc := 80) (off := 7) (by decide +kernel) (by decide) ⟨by decide, by decide⟩ (by decide) ?_
            refine gm_sz (gm_p_const (pc := 83) (i := .iconst 1) (v := gm_vi 1) (by decide +kernel) (by decide +kernel)) ?_
            refine gm_sz (gm_p_goto (pc := 84) (off := 4) (by decide +kernel) (by decide)) ?_
            refine gm_sz (gm_p_stor (pc := 88) (i := .istore_n 3) (sr := 0) (j := 3) (by decide +kernel) rfl (show 4 ≤ _ from Nat.le_of_ble_eq_true rfl) rfl) ?_
            refine gm_sz (gm_p_load (pc := 89) (i := .iload_n 3) (sr := 0) (j := 3) (by decide +kernel) rfl rfl rfl) ?_
            refine fw_iffd (cc := .eq) (pc := 90) (off := 13) (by decide +kernel) (by decide) ⟨by decide, by decide⟩ (by decide) ?_
            refine gm_sz (gm_p_load (pc := 93) (i := .iload_n 2) (sr := 0) (j := 2) (by decide +kernel) rfl rfl rfl) ?_
            refine fw_iftd (cc := .eq) (pc := 94) (off := 9) (by decide +kernel) (by decide) ⟨by decide, by decide⟩ (by decide) ?_
            refine gm_sz (gm_p_load (pc := 103) (i := .iload_n 3) (sr := 0) (j := 3) (by decide +kernel) rfl rfl rfl) ?_
            rw [g_a3 j1 (by omega) (hok6.mpr j62) j67 j69] at h1
            rw [s_a3 j1 (by omega)] at h1
            exact gm_r_int (pc := 104) (by decide +kernel) (Or.inr ⟨(by decide +kernel), Or.inr rfl⟩) (h1 _ _ k66 rfl)
          · show gm_Wp X LX d _ _ 97 80 _ [gm_vi 0] n K R _ Q
            have j69 : ¬ tx_k (M 2) e ((A2 (tx_n (M 2) e b)).2) = 41 := j69
            refine fw_iftd (cc := .eq) (pc := 80) (off := 7) (by decide +kernel) (by decide) ⟨by decide, by decide⟩ (by decide) ?_
            refine gm_sz (gm_p_const (pc := 87) (i := .iconst 0) (v := gm_vi 0) (by decide +kernel) (by decide +kernel)) ?_
            refine gm_sz (gm_p_stor (pc := 88) (i := .istore_n 3) (sr := 0) (j := 3) (by decide +kernel) rfl (show 4 ≤ _ from Nat.le_of_ble_eq_true rfl) rfl) ?_
            refine gm_sz (gm_p_load (pc := 89) (i := .iload_n 3) (sr := 0) (j := 3) (by decide +kernel) rfl rfl rfl) ?_
            refine fw_iftd (cc := .eq) (pc := 90) (off := 13) (by decide +kernel) (by decide) ⟨by decide, by decide⟩ (by decide) ?_
            refine gm_sz (gm_p_load (pc := 103) (i := .iload_n 3) (sr := 0) (j := 3) (by decide +kernel) rfl rfl rfl) ?_
            rw [g_a4 j1 (by omega) (hok6.mpr j62) j67 j69] at h0
            exact gm_r_int (pc := 104) (by decide +kernel) (Or.inr ⟨(by decide +kernel), Or.inl rfl⟩) (h0 _ _ k66.2.1 (fun h => by cases h))
        · show gm_Wp X LX d _ _ 97 68 _ [gm_vi 0] n K R _ Q
          have j67 : ¬ (A2 (tx_n (M 2) e b)).1 = true := j67
          have g68 : 0 ≤ (A2 (tx_n (M 2) e b)).2 ∧ (A2 (tx_n (M 2) e b)).2 ≤ e := by have := iC (tx_n (M 2) e b) g63.1 g63.2; have := g63.1; omega
          refine fw_iftd (cc := .eq) (pc := 68) (off := 19) (by decide +kernel) (by decide) ⟨by decide, by decide⟩ (by decide) ?_
          refine gm_sz (gm_p_const (pc := 87) (i := .iconst 0) (v := gm_vi 0) (by decide +kernel) (by decide +kernel)) ?_
          refine gm_sz (gm_p_stor (pc := 88) (i := .istore_n 3) (sr := 0) (j := 3) (by decide +kernel) rfl (show 4 ≤ _ from Nat.le_of_ble_eq_true rfl) rfl) ?_
          refine gm_sz (gm_p_load (pc := 89) (i := .iload_n 3) (sr := 0) (j := 3) (by decide +kernel) rfl rfl rfl) ?_
          refine fw_iftd (cc := .eq) (pc := 90) (off := 13) (by decide +kernel) (by decide) ⟨by decide, by decide⟩ (by decide) ?_
          refine gm_sz (gm_p_load (pc := 103) (i := .iload_n 3) (sr := 0) (j := 3) (by decide +kernel) rfl rfl rfl) ?_
          rw [g_a2 j1 (by omega) (hok6.mpr j62) j67] at h0
          exact gm_r_int (pc := 104) (by decide +kernel) (Or.inr ⟨(by decide +kernel), Or.inl rfl⟩) (h0 _ _ k66 j67)
      · have j62 : ¬ dep < 6 := j62
        refine gm_sz (gm_p_load (pc := 32) (i := .aload_n 0) (sr := 2) (j := 0) (by decide +kernel) rfl rfl rfl) ?_
        refine gm_sz (fw_gr (pc := 33) (ix := 47) (ci := 9) (j := 0) (r := 216) (by decide +kernel) (tE215c hE) (by decide +kernel) (by decide +kernel) (tEr hE).2.1) ?_
        refine gm_c_virt (k := 216) (ci := 8) (mj := 93) (ix := 51) (pc := 36) (as := []) (st := []) (d' := d - 1) (bc' := 0) (bs' := 0) (by decide +kernel) (by decide +kernel) (by decide +kernel) (by decide +kernel) (tE216c hE).1 (tE216c hE).2 (by decide) (by decide +kernel) (show 0 = gm_na 93 by decide +kernel) fw_c0 (show 1 ≤ gm_ml 93 by decide +kernel) (Nat.le_of_ble_eq_true rfl) (by omega) (Nat.zero_le _) (Nat.zero_le _) ?_
        refine tx_c93 hE hb ?_
        show gm_Wp X LX d _ _ 97 39 _ [gm_vi 0] n K R _ Q
        rw [g_a0 (Or.inr (by omega)) (fun h => j62 (hok6.mp h))] at h0
        exact gm_r_int (pc := 39) (by decide +kernel) (Or.inr ⟨(by decide +kernel), Or.inl rfl⟩) (h0 _ _ hok.2.1 (fun h => by cases h))

theorem kx_s96 {A : Int → Bool × Int} {SA : Int → List lst} {BA : Nat} {dep j : Int} {dA : Nat} (hE : tx_E n K R M e) (hA : cA2 X LX n K R M e lc D 97 [gm_vr 215, gm_vi dep] A (fun b => scds (SA b)) dA) (oA : s_ok e A SA BA) (iA : g_in e A) (hd : 7 ≤ d ∧ dA + 1 ≤ d) : ∀ (t : Nat) (i b us : Int) (C : Int → Int) (Lc : List Int), i + t = 400 → 0 ≤ i → 0 ≤ b ∧ b ≤ e → us + (if i ≤ 0 then 2 else 4) ≤ b → ctl Lc us lc D C → (∀ us2 C2 i2, ctl (Lc ++ scds (s_all (M 2) e A SA t (decide (i ≤ 0)) b)) us2 lc D C2 → (g_all (M 2) e A t b).1 = true → gm_Wp X LX d bc bs 96 59 [some (gm_vr 215), some (gm_vi dep), some (gm_vi j), some (gm_vi i2)] [] n K R (ct M e (g_all (M 2) e A t b).2 (-1) us2 lc D C2) Q) → (∀ us2 C2, ctk us2 lc D C2 → ¬ (g_all (M 2) e A t b).1 = true → Q (.inl (some (gm_vi 0))) n K R (ct M e (g_all (M 2) e A t b).2 (g_all (M 2) e A t b).2 us2 lc D C2)) → gm_Wp X LX d bc bs 96 11 [some (gm_vr 215), some (gm_vi dep), some (gm_vi j), some (gm_vi i)] [] n K R (ct M e b (-1) us lc D C) Q := by
  obtain ⟨-, he0, he4⟩ := tEe hE
  intro t
  induction t with
  | zero =>
    intro i b us C Lc hit hi0 hb hu hok h1 h0
    refine gm_sz (gm_p_load (pc := 11) (i := .iload_n 3) (sr := 0) (j := 3) (by decide +kernel) rfl rfl rfl) ?_
    refine gm_sz (gm_p_const (pc := 12) (i := .sipush 400) (v := gm_vi 400) (by decide +kernel) (by decide +kernel)) ?_
    refine fw_ict (cc := .ge) (pc := 15) (off := 44) (by decide +kernel) (by decide) ⟨by omega, by omega⟩ ⟨by decide, by decide⟩ (show 400 ≤ i by omega) ?_
    exact h1 us C i (by show ctl (Lc ++ []) us lc D C; rw [List.append_nil]; exact hok) rfl
  | succ t ih =>
    intro i b us C Lc hit hi0 hb hu hok h1 h0
    refine gm_sz (gm_p_load (pc := 11) (i := .iload_n 3) (sr := 0) (j := 3) (by decide +kernel) rfl rfl rfl) ?_
    refine gm_sz (gm_p_const (pc := 12) (i := .sipush 400) (v := gm_vi 400) (by decide +kernel) (by decide +kernel)) ?_
    refine fw_icf (cc := .ge) (pc := 15) (off := 44) (by decide +kernel) (by decide) ⟨by omega, by omega⟩ ⟨by decide, by decide⟩ (show ¬ 400 ≤ i by omega) ?_
    refine gm_sz (gm_p_load (pc := 18) (i := .aload_n 0) (sr := 2) (j := 0) (by decide +kernel) rfl rfl rfl) ?_
    refine gm_sz (gm_p_load (pc := 19) (i := .iload_n 1) (sr := 0) (j := 1) (by decide +kernel) rfl rfl rfl) ?_
    refine gm_c_virt (k := 215) (ci := 9) (mj := 97) (ix := 91) (pc := 20) (as := [gm_vi dep]) (st := []) (d' := d - 1) (bc' := 0) (bs' := 0) (by decide +kernel) (by decide +kernel) (by decide +kernel) (by decide +kernel) (tE215c hE).1 (tE215c hE).2 (by decide) (by decide +kernel) (show 1 = gm_na 97 by decide +kernel) (fw_c1 fw_si) (show 2 ≤ gm_ml 97 by decide +kernel) (Nat.le_of_ble_eq_true rfl) (by omega) (Nat.zero_le _) (Nat.zero_le _) ?_
    have hu2 : us + 2 ≤ b := by split at hu <;> omega
    refine hA _ _ _ _ _ _ _ _ (by omega) hb hu2 hok (fun u1 C2 k3 j4 => ?_) (fun u1 C2 k3 j4 => ?_)
    · show gm_Wp X LX d _ _ 96 23 _ [gm_vi 1] n K R _ Q
      have j4 : (A b).1 = true := j4
      have g5 : 0 ≤ (A b).2 ∧ (A b).2 ≤ e := by have := iA b hb.1 hb.2; have := hb.1; omega
      have z3 := klen k3 hok
      have z3 : u1 = us + ((scds (SA b)).length : Int) := z3
      have o3 := (oA b hb.1 hb.2 j4).1
      refine fw_iftd (cc := .ne) (pc := 23) (off := 5) (by decide +kernel) (by decide) ⟨by decide, by decide⟩ (by decide) ?_
      refine gm_sz (gm_p_load (pc := 28) (i := .iload_n 3) (sr := 0) (j := 3) (by decide +kernel) rfl rfl rfl) ?_
      refine fw_if (cc := .le) (pc := 29) (off := 9) (by decide +kernel) (by decide) ⟨by omega, by omega⟩ (fun j6 => ?_) (fun j6 => ?_)
      · have j6 : i ≤ 0 := j6
        refine gm_sz (gm_p_load (pc := 38) (i := .aload_n 0) (sr := 2) (j := 0) (by decide +kernel) rfl rfl rfl) ?_
        refine gm_sz (fw_gr (pc := 39) (ix := 47) (ci := 9) (j := 0) (r := 216) (by decide +kernel) (tE215c hE) (by decide +kernel) (by decide +kernel) (tEr hE).2.1) ?_
        refine gm_sz (gm_p_ldcs (pc := 42) (i := .ldc 96) (ix := 96) (id := 15) (by decide +kernel) (Or.inl rfl) (by decide +kernel)) ?_
        refine gm_c_virt (k := 216) (ci := 8) (mj := 95) (ix := 67) (pc := 44) (as := [gm_vo 15]) (st := []) (d' := d - 1) (bc' := 0) (bs' := 0) (by decide +kernel) (by decide +kernel) (by decide +kernel) (by decide +kernel) (tE216c hE).1 (tE216c hE).2 (by decide) (by decide +kernel) (show 1 = gm_na 95 by decide +kernel) (fw_c1 fw_so) (show 2 ≤ gm_ml 95 by decide +kernel) (Nat.le_of_ble_eq_true rfl) (by omega) (Nat.zero_le _) (Nat.zero_le _) ?_
        refine tx_c95 (by omega) hE (by decide) (show tx_o 15 = wo_and by decide +kernel) g5 (fun j7 => ?_) (fun j7 => ?_)
        · show gm_Wp X LX d _ _ 96 47 _ [gm_vi 1] n K R _ Q
          have j7 : tx_is (M 2) e ((A b).2) wo_and := j7
          have g8 : 0 ≤ tx_n (M 2) e ((A b).2) ∧ tx_n (M 2) e ((A b).2) ≤ e := by have := tx_nb (f := M 2) (b := (A b).2) g5.2; omega
          refine fw_iftd (cc := .ne) (pc := 47) (off := 6) (by decide +kernel) (by decide) ⟨by decide, by decide⟩ (by decide) ?_
          refine gm_sz (gm_p_iinc (pc := 53) (j := 3) (z := 1) (by decide +kernel) rfl) ?_
          refine gm_sz (gm_p_goto (pc := 56) (off := (-45)) (by decide +kernel) (by decide)) ?_
          rw [g_l2 j4 j7] at h1 h0
          have nw := tx_nw g5.2 j7
          have nw : (A b).2 + 3 ≤ tx_n (M 2) e (A b).2 := nw
          rw [s_l2 j7, if_pos (decide_eq_true j6), List.nil_append, scds_app, ← List.append_assoc] at h1
          rw [if_pos j6] at hu
          rw [show s_all (M 2) e A SA t false = s_all (M 2) e A SA t (decide (i + 1 ≤ 0)) by rw [decide_eq_false (show ¬ i + 1 ≤ 0 by omega)]] at h1
          exact ih (i + 1) _ _ _ _ (by omega) (by omega) g8 (by rw [if_neg (by omega)]; omega) k3 h1 h0
        · show gm_Wp X LX d _ _ 96 47 _ [gm_vi 0] n K R _ Q
          have j7 : ¬ tx_is (M 2) e ((A b).2) wo_and := j7
          refine fw_iffd (cc := .ne) (pc := 47) (off := 6) (by decide +kernel) (by decide) ⟨by decide, by decide⟩ (by decide) ?_
          refine gm_sz (gm_p_goto (pc := 50) (off := 9) (by decide +kernel) (by decide)) ?_
          rw [g_l1 j4 j7] at h1
          rw [s_l1 j7, if_pos (decide_eq_true j6), List.append_nil] at h1
          exact h1 _ _ _ k3 rfl
      · have j6 : ¬ i ≤ 0 := j6
        refine gm_sz (gm_p_load (pc := 32) (i := .aload_n 0) (sr := 2) (j := 0) (by decide +kernel) rfl rfl rfl) ?_
        refine gm_sz (gm_p_const (pc := 33) (i := .bipush (-16)) (v := gm_vi (-16)) (by decide +kernel) (by decide +kernel)) ?_
        refine gm_c_virt (k := 215) (ci := 9) (mj := 99) (ix := 94) (pc := 35) (as := [gm_vi (-16)]) (st := []) (d' := d - 1) (bc' := 0) (bs' := 0) (by decide +kernel) (by decide +kernel) (by decide +kernel) (by decide +kernel) (tE215c hE).1 (tE215c hE).2 (by decide) (by decide +kernel) (show 1 = gm_na 99 by decide +kernel) (fw_c1 fw_si) (show 2 ≤ gm_ml 99 by decide +kernel) (Nat.le_of_ble_eq_true rfl) (by omega) (Nat.zero_le _) (Nat.zero_le _) ?_
        rw [if_neg j6] at hu
        refine kx_c99 hE k3 (by omega) ⟨by decide, by decide⟩ (fun C10 k11 => ?_)
        show gm_Wp X LX d _ _ 96 38 _ [] n K R _ Q
        refine gm_sz (gm_p_load (pc := 38) (i := .aload_n 0) (sr := 2) (j := 0) (by decide +kernel) rfl rfl rfl) ?_
        refine gm_sz (fw_gr (pc := 39) (ix := 47) (ci := 9) (j := 0) (r := 216) (by decide +kernel) (tE215c hE) (by decide +kernel) (by decide +kernel) (tEr hE).2.1) ?_
        refine gm_sz (gm_p_ldcs (pc := 42) (i := .ldc 96) (ix := 96) (id := 15) (by decide +kernel) (Or.inl rfl) (by decide +kernel)) ?_
        refine gm_c_virt (k := 216) (ci := 8) (mj := 95) (ix := 67) (pc := 44) (as := [gm_vo 15]) (st := []) (d' := d - 1) (bc' := 0) (bs' := 0) (by decide +kernel) (by decide +kernel) (by decide +kernel) (by decide +kernel) (tE216c hE).1 (tE216c hE).2 (by decide) (by decide +kernel) (show 1 = gm_na 95 by decide +kernel) (fw_c1 fw_so) (show 2 ≤ gm_ml 95 by decide +kernel) (Nat.le_of_ble_eq_true rfl) (by omega) (Nat.zero_le _) (Nat.zero_le _) ?_
        refine tx_c95 (by omega) hE (by decide) (show tx_o 15 = wo_and by decide +kernel) g5 (fun j12 => ?_) (fun j12 => ?_)
        · show gm_Wp X LX d _ _ 96 47 _ [gm_vi 1] n K R _ Q
          have j12 : tx_is (M 2) e ((A b).2) wo_and := j12
          have g13 : 0 ≤ tx_n (M 2) e ((A b).2) ∧ tx_n (M 2) e ((A b).2) ≤ e := by have := tx_nb (f := M 2) (b := (A b).2) g5.2; omega
          refine fw_iftd (cc := .ne) (pc := 47) (off := 6) (by decide +kernel) (by decide) ⟨by decide, by decide⟩ (by decide) ?_
          refine gm_sz (gm_p_iinc (pc := 53) (j := 3) (z := 1) (by decide +kernel) rfl) ?_
          refine gm_sz (gm_p_goto (pc := 56) (off := (-45)) (by decide +kernel) (by decide)) ?_
          rw [g_l2 j4 j12] at h1 h0
          have nw := tx_nw g5.2 j12
          have nw : (A b).2 + 3 ≤ tx_n (M 2) e (A b).2 := nw
          rw [s_l2 j12, if_neg (show ¬ decide (i ≤ 0) = true from fun hh => j6 (of_decide_eq_true hh)), scds_app, scds_app, scds_1 (Or.inr (Or.inl rfl)), ← List.append_assoc, ← List.append_assoc] at h1
          rw [show s_all (M 2) e A SA t false = s_all (M 2) e A SA t (decide (i + 1 ≤ 0)) by rw [decide_eq_false (show ¬ i + 1 ≤ 0 by omega)]] at h1
          exact ih (i + 1) _ _ _ _ (by omega) (by omega) g13 (by rw [if_neg (by omega)]; omega) k11 h1 h0
        · show gm_Wp X LX d _ _ 96 47 _ [gm_vi 0] n K R _ Q
          have j12 : ¬ tx_is (M 2) e ((A b).2) wo_and := j12
          refine fw_iffd (cc := .ne) (pc := 47) (off := 6) (by decide +kernel) (by decide) ⟨by decide, by decide⟩ (by decide) ?_
          refine gm_sz (gm_p_goto (pc := 50) (off := 9) (by decide +kernel) (by decide)) ?_
          rw [g_l1 j4 j12] at h1
          rw [s_l1 j12, if_neg (show ¬ decide (i ≤ 0) = true from fun hh => j6 (of_decide_eq_true hh)), scds_app, scds_1 (Or.inr (Or.inl rfl)), ← List.append_assoc] at h1
          exact h1 _ _ _ k11 rfl
    · show gm_Wp X LX d _ _ 96 23 _ [gm_vi 0] n K R _ Q
      have j4 : ¬ (A b).1 = true := j4
      have g5 : 0 ≤ (A b).2 ∧ (A b).2 ≤ e := by have := iA b hb.1 hb.2; have := hb.1; omega
      refine fw_iffd (cc := .ne) (pc := 23) (off := 5) (by decide +kernel) (by decide) ⟨by decide, by decide⟩ (by decide) ?_
      refine gm_sz (gm_p_const (pc := 26) (i := .iconst 0) (v := gm_vi 0) (by decide +kernel) (by decide +kernel)) ?_
      rw [g_l0 j4] at h0
      exact gm_r_int (pc := 27) (by decide +kernel) (Or.inr ⟨(by decide +kernel), Or.inl rfl⟩) (h0 _ _ k3 j4)

theorem kx_t96 {A : Int → Bool × Int} {SA : Int → List lst} {BA : Nat} {dep : Int} {dA : Nat} (hE : tx_E n K R M e) (hA : cA2 X LX n K R M e lc D 97 [gm_vr 215, gm_vi dep] A (fun b => scds (SA b)) dA) (oA : s_ok e A SA BA) (iA : g_in e A) (hd : 7 ≤ d ∧ dA + 1 ≤ d) : ∀ (t : Nat) (j b us : Int) (C : Int → Int) (Lc : List Int) (z : Option gm_V), j + t = 400 → 0 ≤ j → 0 ≤ b ∧ b ≤ e → us + (if j ≤ 0 then 2 else 3) ≤ b → ctl Lc us lc D C → (∀ us2 C2, ctl (Lc ++ scds (s_cnd (M 2) e A SA t (decide (j ≤ 0)) b)) us2 lc D C2 → (g_cnd (M 2) e A t b).1 = true → Q (.inl (some (gm_vi 1))) n K R (ct M e (g_cnd (M 2) e A t b).2 (-1) us2 lc D C2)) → (∀ us2 C2, ctk us2 lc D C2 → ¬ (g_cnd (M 2) e A t b).1 = true → Q (.inl (some (gm_vi 0))) n K R (ct M e (g_cnd (M 2) e A t b).2 (g_cnd (M 2) e A t b).2 us2 lc D C2)) → gm_Wp X LX d bc bs 96 2 [some (gm_vr 215), some (gm_vi dep), some (gm_vi j), z] [] n K R (ct M e b (-1) us lc D C) Q := by
  obtain ⟨-, he0, he4⟩ := tEe hE
  intro t
  induction t with
  | zero =>
    intro j b us C Lc z hjt hj0 hb hu hok h1 h0
    refine gm_sz (gm_p_load (pc := 2) (i := .iload_n 2) (sr := 0) (j := 2) (by decide +kernel) rfl rfl rfl) ?_
    refine gm_sz (gm_p_const (pc := 3) (i := .sipush 400) (v := gm_vi 400) (by decide +kernel) (by decide +kernel)) ?_
    refine fw_ict (cc := .ge) (pc := 6) (off := 83) (by decide +kernel) (by decide) ⟨by omega, by omega⟩ ⟨by decide, by decide⟩ (show 400 ≤ j by omega) ?_
    refine gm_sz (gm_p_load (pc := 89) (i := .aload_n 0) (sr := 2) (j := 0) (by decide +kernel) rfl rfl rfl) ?_
    refine gm_sz (fw_gr (pc := 90) (ix := 47) (ci := 9) (j := 0) (r := 216) (by decide +kernel) (tE215c hE) (by decide +kernel) (by decide +kernel) (tEr hE).2.1) ?_
    refine gm_c_virt (k := 216) (ci := 8) (mj := 93) (ix := 51) (pc := 93) (as := []) (st := []) (d' := d - 1) (bc' := 0) (bs' := 0) (by decide +kernel) (by decide +kernel) (by decide +kernel) (by decide +kernel) (tE216c hE).1 (tE216c hE).2 (by decide) (by decide +kernel) (show 0 = gm_na 93 by decide +kernel) fw_c0 (show 1 ≤ gm_ml 93 by decide +kernel) (Nat.le_of_ble_eq_true rfl) (by omega) (Nat.zero_le _) (Nat.zero_le _) ?_
    refine tx_c93 hE hb ?_
    show gm_Wp X LX d _ _ 96 96 _ [gm_vi 0] n K R _ Q
    exact gm_r_int (pc := 96) (by decide +kernel) (Or.inr ⟨(by decide +kernel), Or.inl rfl⟩) (h0 us C hok.2.1 (fun h => by cases h))
  | succ t ih =>
    intro j b us C Lc z hjt hj0 hb hu hok h1 h0
    refine gm_sz (gm_p_load (pc := 2) (i := .iload_n 2) (sr := 0) (j := 2) (by decide +kernel) rfl rfl rfl) ?_
    refine gm_sz (gm_p_const (pc := 3) (i := .sipush 400) (v := gm_vi 400) (by decide +kernel) (by decide +kernel)) ?_
    refine fw_icf (cc := .ge) (pc := 6) (off := 83) (by decide +kernel) (by decide) ⟨by omega, by omega⟩ ⟨by decide, by decide⟩ (show ¬ 400 ≤ j by omega) ?_
    refine gm_sz (gm_p_const (pc := 9) (i := .iconst 0) (v := gm_vi 0) (by decide +kernel) (by decide +kernel)) ?_
    refine gm_sz (gm_p_stor (pc := 10) (i := .istore_n 3) (sr := 0) (j := 3) (by decide +kernel) rfl (show 4 ≤ _ from Nat.le_of_ble_eq_true rfl) rfl) ?_
    have hu2 : us + 2 ≤ b := by split at hu <;> omega
    refine kx_s96 hE hA oA iA hd 400 0 b us C Lc (by omega) (Int.le_refl _) hb (by rw [if_pos (Int.le_refl 0)]; exact hu2) hok (fun us2 C2 i2 hok2 hl => ?_) (fun us2 C2 hok2 hl => ?_)
    · have hb2 : 0 ≤ (g_all (M 2) e A 400 b).2 ∧ (g_all (M 2) e A 400 b).2 ≤ e := by have := g_all_in (f := M 2) iA 400 b hb.1 hb.2; have := hb.1; omega
      have hok2 : ctl (Lc ++ scds (s_all (M 2) e A SA 400 true b)) us2 lc D C2 := hok2
      have z3 := klen hok2 hok
      have o3 := (s_all_ok (f := M 2) iA oA b hb.1 hb.2 hl).1
      refine gm_sz (gm_p_load (pc := 59) (i := .iload_n 2) (sr := 0) (j := 2) (by decide +kernel) rfl rfl rfl) ?_
      refine fw_if (cc := .le) (pc := 60) (off := 9) (by decide +kernel) (by decide) ⟨by omega, by omega⟩ (fun j1 => ?_) (fun j1 => ?_)
      · have j1 : j ≤ 0 := j1
        refine gm_sz (gm_p_load (pc := 69) (i := .aload_n 0) (sr := 2) (j := 0) (by decide +kernel) rfl rfl rfl) ?_
        refine gm_sz (fw_gr (pc := 70) (ix := 47) (ci := 9) (j := 0) (r := 216) (by decide +kernel) (tE215c hE) (by decide +kernel) (by decide +kernel) (tEr hE).2.1) ?_
        refine gm_sz (gm_p_ldcs (pc := 73) (i := .ldc 98) (ix := 98) (id := 16) (by decide +kernel) (Or.inl rfl) (by decide +kernel)) ?_
        refine gm_c_virt (k := 216) (ci := 8) (mj := 95) (ix := 67) (pc := 75) (as := [gm_vo 16]) (st := []) (d' := d - 1) (bc' := 0) (bs' := 0) (by decide +kernel) (by decide +kernel) (by decide +kernel) (by decide +kernel) (tE216c hE).1 (tE216c hE).2 (by decide) (by decide +kernel) (show 1 = gm_na 95 by decide +kernel) (fw_c1 fw_so) (show 2 ≤ gm_ml 95 by decide +kernel) (Nat.le_of_ble_eq_true rfl) (by omega) (Nat.zero_le _) (Nat.zero_le _) ?_
        refine tx_c95 (by omega) hE (by decide) (show tx_o 16 = wo_or by decide +kernel) hb2 (fun j2 => ?_) (fun j2 => ?_)
        · show gm_Wp X LX d _ _ 96 78 _ [gm_vi 1] n K R _ Q
          have j2 : tx_is (M 2) e ((g_all (M 2) e A 400 b).2) wo_or := j2
          have g3 : 0 ≤ tx_n (M 2) e ((g_all (M 2) e A 400 b).2) ∧ tx_n (M 2) e ((g_all (M 2) e A 400 b).2) ≤ e := by have := tx_nb (f := M 2) (b := (g_all (M 2) e A 400 b).2) hb2.2; omega
          refine fw_iftd (cc := .ne) (pc := 78) (off := 5) (by decide +kernel) (by decide) ⟨by decide, by decide⟩ (by decide) ?_
          refine gm_sz (gm_p_iinc (pc := 83) (j := 2) (z := 1) (by decide +kernel) rfl) ?_
          refine gm_sz (gm_p_goto (pc := 86) (off := (-84)) (by decide +kernel) (by decide)) ?_
          rw [g_d2 hl j2] at h1 h0
          have nw := tx_nw hb2.2 j2
          have nw : (g_all (M 2) e A 400 b).2 + 2 ≤ tx_n (M 2) e (g_all (M 2) e A 400 b).2 := nw
          rw [s_d2 j2, if_pos (decide_eq_true j1), List.nil_append, scds_app, ← List.append_assoc] at h1
          rw [if_pos j1] at hu
          rw [show s_cnd (M 2) e A SA t false = s_cnd (M 2) e A SA t (decide (j + 1 ≤ 0)) by rw [decide_eq_false (show ¬ j + 1 ≤ 0 by omega)]] at h1
          exact ih (j + 1) _ _ _ _ _ (by omega) (by omega) g3 (by rw [if_neg (by omega)]; omega) hok2 h1 h0
        · show gm_Wp X LX d _ _ 96 78 _ [gm_vi 0] n K R _ Q
          have j2 : ¬ tx_is (M 2) e ((g_all (M 2) e A 400 b).2) wo_or := j2
          refine fw_iffd (cc := .ne) (pc := 78) (off := 5) (by decide +kernel) (by decide) ⟨by decide, by decide⟩ (by decide) ?_
          refine gm_sz (gm_p_const (pc := 81) (i := .iconst 1) (v := gm_vi 1) (by decide +kernel) (by decide +kernel)) ?_
          rw [g_d1 hl j2] at h1
          rw [s_d1 j2, if_pos (decide_eq_true j1), List.append_nil] at h1
          exact gm_r_int (pc := 82) (by decide +kernel) (Or.inr ⟨(by decide +kernel), Or.inr rfl⟩) (h1 _ _ hok2 rfl)
      · have j1 : ¬ j ≤ 0 := j1
        refine gm_sz (gm_p_load (pc := 63) (i := .aload_n 0) (sr := 2) (j := 0) (by decide +kernel) rfl rfl rfl) ?_
        refine gm_sz (gm_p_const (pc := 64) (i := .bipush (-17)) (v := gm_vi (-17)) (by decide +kernel) (by decide +kernel)) ?_
        refine gm_c_virt (k := 215) (ci := 9) (mj := 99) (ix := 94) (pc := 66) (as := [gm_vi (-17)]) (st := []) (d' := d - 1) (bc' := 0) (bs' := 0) (by decide +kernel) (by decide +kernel) (by decide +kernel) (by decide +kernel) (tE215c hE).1 (tE215c hE).2 (by decide) (by decide +kernel) (show 1 = gm_na 99 by decide +kernel) (fw_c1 fw_si) (show 2 ≤ gm_ml 99 by decide +kernel) (Nat.le_of_ble_eq_true rfl) (by omega) (Nat.zero_le _) (Nat.zero_le _) ?_
        rw [if_neg j1] at hu
        refine kx_c99 hE hok2 (by omega) ⟨by decide, by decide⟩ (fun C5 k6 => ?_)
        show gm_Wp X LX d _ _ 96 69 _ [] n K R _ Q
        refine gm_sz (gm_p_load (pc := 69) (i := .aload_n 0) (sr := 2) (j := 0) (by decide +kernel) rfl rfl rfl) ?_
        refine gm_sz (fw_gr (pc := 70) (ix := 47) (ci := 9) (j := 0) (r := 216) (by decide +kernel) (tE215c hE) (by decide +kernel) (by decide +kernel) (tEr hE).2.1) ?_
        refine gm_sz (gm_p_ldcs (pc := 73) (i := .ldc 98) (ix := 98) (id := 16) (by decide +kernel) (Or.inl rfl) (by decide +kernel)) ?_
        refine gm_c_virt (k := 216) (ci := 8) (mj := 95) (ix := 67) (pc := 75) (as := [gm_vo 16]) (st := []) (d' := d - 1) (bc' := 0) (bs' := 0) (by decide +kernel) (by decide +kernel) (by decide +kernel) (by decide +kernel) (tE216c hE).1 (tE216c hE).2 (by decide) (by decide +kernel) (show 1 = gm_na 95 by decide +kernel) (fw_c1 fw_so) (show 2 ≤ gm_ml 95 by decide +kernel) (Nat.le_of_ble_eq_true rfl) (by omega) (Nat.zero_le _) (Nat.zero_le _) ?_
        refine tx_c95 (by omega) hE (by decide) (show tx_o 16 = wo_or by decide +kernel) hb2 (fun j7 => ?_) (fun j7 => ?_)
        · show gm_Wp X LX d _ _ 96 78 _ [gm_vi 1] n K R _ Q
          have j7 : tx_is (M 2) e ((g_all (M 2) e A 400 b).2) wo_or := j7
          have g8 : 0 ≤ tx_n (M 2) e ((g_all (M 2) e A 400 b).2) ∧ tx_n (M 2) e ((g_all (M 2) e A 400 b).2) ≤ e := by have := tx_nb (f := M 2) (b := (g_all (M 2) e A 400 b).2) hb2.2; omega
          refine fw_iftd (cc := .ne) (pc := 78) (off := 5) (by decide +kernel) (by decide) ⟨by decide, by decide⟩ (by decide) ?_
          refine gm_sz (gm_p_iinc (pc := 83) (j := 2) (z := 1) (by decide +kernel) rfl) ?_
          refine gm_sz (gm_p_goto (pc := 86) (off := (-84)) (by decide +kernel) (by decide)) ?_
          rw [g_d2 hl j7] at h1 h0
          have nw := tx_nw hb2.2 j7
          have nw : (g_all (M 2) e A 400 b).2 + 2 ≤ tx_n (M 2) e (g_all (M 2) e A 400 b).2 := nw
          rw [s_d2 j7, if_neg (show ¬ decide (j ≤ 0) = true from fun hh => j1 (of_decide_eq_true hh)), scds_app, scds_app, scds_1 (Or.inr (Or.inr (Or.inl rfl))), ← List.append_assoc, ← List.append_assoc] at h1
          rw [show s_cnd (M 2) e A SA t false = s_cnd (M 2) e A SA t (decide (j + 1 ≤ 0)) by rw [decide_eq_false (show ¬ j + 1 ≤ 0 by omega)]] at h1
          exact ih (j + 1) _ _ _ _ _ (by omega) (by omega) g8 (by rw [if_neg (by omega)]; omega) k6 h1 h0
        · show gm_Wp X LX d _ _ 96 78 _ [gm_vi 0] n K R _ Q
          have j7 : ¬ tx_is (M 2) e ((g_all (M 2) e A 400 b).2) wo_or := j7
          refine fw_iffd (cc := .ne) (pc := 78) (off := 5) (by decide +kernel) (by decide) ⟨by decide, by decide⟩ (by decide) ?_
          refine gm_sz (gm_p_const (pc := 81) (i := .iconst 1) (v := gm_vi 1) (by decide +kernel) (by decide +kernel)) ?_
          rw [g_d1 hl j7] at h1
          rw [s_d1 j7, if_neg (show ¬ decide (j ≤ 0) = true from fun hh => j1 (of_decide_eq_true hh)), scds_app, scds_1 (Or.inr (Or.inr (Or.inl rfl))), ← List.append_assoc] at h1
          exact gm_r_int (pc := 82) (by decide +kernel) (Or.inr ⟨(by decide +kernel), Or.inr rfl⟩) (h1 _ _ k6 rfl)
    · rw [g_d0 hl] at h0
      exact h0 _ _ hok2 hl

theorem kx_c96 {A : Int → Bool × Int} {SA : Int → List lst} {BA : Nat} {dep : Int} {dA dn : Nat} (hE : tx_E n K R M e) (hA : cA2 X LX n K R M e lc D 97 [gm_vr 215, gm_vi dep] A (fun b => scds (SA b)) dA) (oA : s_ok e A SA BA) (iA : g_in e A) (hd9 : 7 ≤ dn ∧ dA + 1 ≤ dn) : cA2 X LX n K R M e lc D 96 [gm_vr 215, gm_vi dep] (g_cnd (M 2) e A 400) (fun b => scds (s_cnd (M 2) e A SA 400 true b)) dn := by
  intro d bc bs b us C Lc Q hd hb hu hok h1 h0
  dsimp only at h1
  refine gm_sz (gm_p_const (pc := 0) (i := .iconst 0) (v := gm_vi 0) (by decide +kernel) (by decide +kernel)) ?_
  refine gm_sz (gm_p_stor (pc := 1) (i := .istore_n 2) (sr := 0) (j := 2) (by decide +kernel) rfl (show 3 ≤ _ from Nat.le_of_ble_eq_true rfl) rfl) ?_
  exact kx_t96 hE hA oA iA ⟨by omega, by omega⟩ 400 0 b us C Lc none rfl (Int.le_refl _) hb (by rw [if_pos (Int.le_refl 0)]; exact hu) hok h1 h0

/-- readAtom and readCondition, k deep still -/
theorem kx_at (hE : tx_E n K R M e) : ∀ k : Nat, k ≤ 6 → cA2 X LX n K R M e lc D 97 [gm_vr 215, gm_vi (6 - (k : Int))] (g_at (M 2) e k) (fun b => scds (s_at (M 2) e k b)) (9 + 2 * k) := by
  intro k
  induction k with
  | zero => exact fun _ => kx_c97 (SA := fun _ => []) (SC := fun _ => []) (BA := 0) (BC := 0) hE ⟨by decide, by decide⟩ (Iff.intro (fun h => h.elim) (fun h => by omega)) (dA := 0) (dC := 0) (fun h => h.elim) (fun h => h.elim) (fun h => h.elim) (fun h => h.elim) g_no_in g_no_in ⟨by omega, fun h => h.elim⟩
  | succ k ih =>
    intro hk
    have e1 : (6 : Int) - ((k + 1 : Nat) : Int) + 1 = 6 - (k : Int) := by omega
    refine kx_c97 (SA := s_at (M 2) e k) (SC := fun b => s_cnd (M 2) e (g_at (M 2) e k) (s_at (M 2) e k) 400 true b) (BA := 1 + 2 * k) (BC := 1 + 2 * k + 2) (dA := 9 + 2 * k) (dC := 10 + 2 * k) hE ⟨by omega, by omega⟩ (Iff.intro (fun _ => by omega) (fun _ => trivial)) (fun _ => ?_) (fun _ => ?_) (fun _ => s_at_ok k) (fun _ => s_cnd_ok (g_at_in k) (s_at_ok k)) (g_at_in k) (g_cnd_in (g_at_in k) 400) ⟨by omega, fun _ => by omega⟩
    · rw [e1]
      exact ih (by omega)
    · rw [e1]
      exact kx_c96 hE (ih (by omega)) (s_at_ok k) (g_at_in k) (by omega)
theorem kx_cd (hE : tx_E n K R M e) : cA2 X LX n K R M e lc D 96 [gm_vr 215, gm_vi 0] (g_cd (M 2) e 6) (fun b => scds (s_cd (M 2) e 6 b)) 22 := kx_c96 hE (kx_at hE 6 (by decide)) (s_at_ok 6) (g_at_in 6) (by decide)
end KL
end
/-! 7a31.k1bcx -/
section
/-! THE CLASS'S READER OF A LAW, with the lines that it lays down (laid by wip/core/k1b.py out of p5's texts). -/
/-- a line more -/
noncomputable def dln (D : Int → Int) (i k m b s : Int) : Int → Int := fun t => if t = i * 4 + 3 then s else if t = i * 4 + 2 then b else if t = i * 4 + 1 then m else if t = i * 4 + 0 then k else D t
/-- the lines laid down so far -/
noncomputable def cdl (ls : List lln) (us : Int) (D C : Int → Int) : Prop := LC ls C D ∧ (∀ i, 0 ≤ i → i < us → ∃ (k : Nat) (x : lln) (t : List lst) (j : Nat), ls[k]? = some x ∧ x.2.2 = some t ∧ (scds t)[j]? = some (C i)) ∧ ∀ k : Nat, k < ls.length → (0 ≤ D ((k : Int) * 4 + 2) ∧ D ((k : Int) * 4 + 2) ≤ D ((k : Int) * 4 + 3) ∧ D ((k : Int) * 4 + 3) ≤ us) ∧ (0 ≤ D ((k : Int) * 4 + 0) ∧ D ((k : Int) * 4 + 0) ≤ 2) ∧ 0 ≤ D ((k : Int) * 4 + 1) ∧ D ((k : Int) * 4 + 1) ≤ 20
theorem cdl_0 {D C : Int → Int} : cdl [] 0 D C := ⟨fun k x h => by simp at h, fun i i0 i1 => by omega, fun k h => absurd h (Nat.not_lt_zero _)⟩
theorem cdl_add {ls : List lln} {us us2 lc k9 m9 : Int} {D C C2 : Int → Int} {c9 : Option (List lst)} (h : cdl ls us D C) (hl : lc = (ls.length : Int)) (hu : 0 ≤ us ∧ us ≤ us2) (hC : ∀ i, 0 ≤ i → i < us → C2 i = C i) (hk : 0 ≤ k9 ∧ k9 ≤ 2) (hm : 0 ≤ m9 ∧ m9 ≤ 20) (h0 : c9 = none → us2 = us) (h1 : ∀ t, c9 = some t → us2 = us + ((scds t).length : Int) ∧ ∀ (j : Nat) (v : Int), (scds t)[j]? = some v → C2 (us + (j : Int)) = v) : cdl (ls ++ [(k9, m9, c9)]) us2 (dln D lc k9 m9 us us2) C2 := by
  have e3 : ∀ i : Int, dln D lc k9 m9 us us2 (i * 4 + 3) = if i = lc then us2 else D (i * 4 + 3) := fun i => by
    unfold dln
    by_cases e : i = lc
    · rw [if_pos (by omega), if_pos e]
    · rw [if_neg (by omega), if_neg (by omega), if_neg (by omega), if_neg (by omega), if_neg e]
  have e2 : ∀ i : Int, dln D lc k9 m9 us us2 (i * 4 + 2) = if i = lc then us else D (i * 4 + 2) := fun i => by
    unfold dln
    by_cases e : i = lc
    · rw [if_neg (by omega), if_pos (by omega), if_pos e]
    · rw [if_neg (by omega), if_neg (by omega), if_neg (by omega), if_neg (by omega), if_neg e]
  have e1 : ∀ i : Int, dln D lc k9 m9 us us2 (i * 4 + 1) = if i = lc then m9 else D (i * 4 + 1) := fun i => by
    unfold dln
    by_cases e : i = lc
    · rw [if_neg (by omega), if_neg (by omega), if_pos (by omega), if_pos e]
    · rw [if_neg (by omega), if_neg (by omega), if_neg (by omega), if_neg (by omega), if_neg e]
  have e0 : ∀ i : Int, dln D lc k9 m9 us us2 (i * 4 + 0) = if i = lc then k9 else D (i * 4 + 0) := fun i => by
    unfold dln
    by_cases e : i = lc
    · rw [if_neg (by omega), if_neg (by omega), if_neg (by omega), if_pos (by omega), if_pos e]
    · rw [if_neg (by omega), if_neg (by omega), if_neg (by omega), if_neg (by omega), if_neg e]
  have old : ∀ k : Nat, k < ls.length → ¬ (k : Int) = lc := fun k hk => by omega
  refine ⟨fun k x hx => ?_, fun i i0 i1 => ?_, fun k hk9 => ?_⟩
  rotate_left
  · by_cases hi : i < us
    · obtain ⟨k, x, t, j, a1, a2, a3⟩ := h.2.1 i i0 hi
      exact ⟨k, x, t, j, by rw [List.getElem?_append_left (List.getElem?_eq_some_iff.mp a1).1]; exact a1, a2, by rw [hC i i0 hi]; exact a3⟩
    · by_cases hn : c9 = none
      · have := h0 hn
        omega
      · obtain ⟨t, ht⟩ := Option.ne_none_iff_exists'.mp hn
        obtain ⟨b1, b2⟩ := h1 t ht
        have hj : (i - us).toNat < (scds t).length := by omega
        have e : (scds t)[(i - us).toNat]? = some (scds t)[(i - us).toNat] := List.getElem?_eq_getElem hj
        have e2 := b2 _ _ e
        rw [show us + (((i - us).toNat : Nat) : Int) = i by omega] at e2
        refine ⟨ls.length, (k9, m9, c9), t, (i - us).toNat, by rw [List.getElem?_append_right (Nat.le_refl _), Nat.sub_self]; rfl, ht, ?_⟩
        rw [e2]
        exact e
  rotate_left
  · rw [e0, e1, e2, e3]
    by_cases hk9 : k < ls.length
    · rw [if_neg (old k hk9), if_neg (old k hk9), if_neg (old k hk9), if_neg (old k hk9)]
      rw [List.getElem?_append_left hk9] at hx
      obtain ⟨b1, b2, b3, b4⟩ := h.1 k x hx
      obtain ⟨⟨d1, d2, d3⟩, -⟩ := h.2.2 k hk9
      refine ⟨b1, b2, b3, fun t ht => ?_⟩
      obtain ⟨c1, c2⟩ := b4 t ht
      refine ⟨c1, fun j v hj => ?_⟩
      have hj9 := (List.getElem?_eq_some_iff.mp hj).1
      rw [hC _ (by omega) (by omega)]
      exact c2 j v hj
    · rw [List.getElem?_append_right (by omega)] at hx
      have hz : k - ls.length = 0 := by
        cases hk : k - ls.length with
        | zero => rfl
        | succ q => rw [hk] at hx; simp at hx
      rw [hz] at hx
      have ex : (k9, m9, c9) = x := by simpa using hx
      subst ex
      have ek : (k : Int) = lc := by omega
      rw [if_pos ek, if_pos ek, if_pos ek, if_pos ek]
      exact ⟨rfl, fun _ => rfl, fun hn => (h0 hn).symm, fun t ht => h1 t ht⟩
  · rw [e0, e1, e2, e3]
    by_cases hk2 : k < ls.length
    · rw [if_neg (old k hk2), if_neg (old k hk2), if_neg (old k hk2), if_neg (old k hk2)]
      obtain ⟨⟨d1, d2, d3⟩, d4⟩ := h.2.2 k hk2
      exact ⟨⟨d1, d2, by omega⟩, d4⟩
    · rw [List.length_append] at hk9
      have hk9 : k < ls.length + 1 := hk9
      have ek : (k : Int) = lc := by omega
      rw [if_pos ek, if_pos ek, if_pos ek, if_pos ek]
      exact ⟨⟨hu.1, hu.2, Int.le_refl _⟩, hk, hm⟩
theorem ctl_C {Lc E : List Int} {us us2 lc lc2 : Int} {D D2 C C2 : Int → Int} (h : ctl Lc us lc D C) (k : ctl (Lc ++ E) us2 lc2 D2 C2) : ∀ i, 0 ≤ i → i < us → C2 i = C i := by
  intro i i0 i1
  obtain ⟨u, rfl⟩ : ∃ u : Nat, i = (u : Int) := ⟨i.toNat, by omega⟩
  have hl : u < Lc.length := by have := h.1; omega
  have e : Lc[u]? = some Lc[u] := List.getElem?_eq_getElem hl
  rw [h.2.2 u _ e, k.2.2 u Lc[u] (by rw [List.getElem?_append_left hl]; exact e)]
theorem ctl_E {Lc E : List Int} {us us2 lc lc2 : Int} {D D2 C C2 : Int → Int} (h : ctl Lc us lc D C) (k : ctl (Lc ++ E) us2 lc2 D2 C2) : us2 = us + (E.length : Int) ∧ ∀ (j : Nat) (v : Int), E[j]? = some v → C2 (us + (j : Int)) = v := by
  refine ⟨klen k h, fun j v hj => ?_⟩
  have := k.2.2 (Lc.length + j) v (by rw [List.getElem?_append_right (by omega), show Lc.length + j - Lc.length = j by omega]; exact hj)
  rw [← this]
  congr 1
  have := h.1
  omega
/-- readLine -/
noncomputable def cL2 (X : Int → Int) (LX n : Nat) (K : gm_K) (R : gm_R) (M : gm_M) (e : Int) : Prop := ∀ (d bc bs : Nat) (b us lc : Int) (D C : Int → Int) (Lc : List Int) (ls : List lln) (Q : gm_Q), 23 ≤ d → 0 ≤ b ∧ b ≤ e → us ≤ b → lc < 12 → lc = (ls.length : Int) → ctl Lc us lc D C → cdl ls us D C → (∀ us2 D2 C2 Lc2, ctl Lc2 us2 (lc + 1) D2 C2 → cdl (ls ++ [s_line (M 2) e b]) us2 D2 C2 → us2 ≤ (g_line (M 2) e b).2 → (g_line (M 2) e b).1 = true → Q (.inl (some (gm_vi 1))) n K R (ct M e (g_line (M 2) e b).2 (-1) us2 (lc + 1) D2 C2)) → (∀ us2 D2 C2, ctk us2 lc D2 C2 → ¬ (g_line (M 2) e b).1 = true → Q (.inl (some (gm_vi 0))) n K R (ct M e (g_line (M 2) e b).2 (g_line (M 2) e b).2 us2 lc D2 C2)) → gm_Wp X LX d bc bs 79 0 (gm_ent 79 [gm_vr 215]) [] n K R (ct M e b (-1) us lc D C) Q
section KX
variable {X : Int → Int} {LX d bc bs n : Nat} {K : gm_K} {R : gm_R} {M : gm_M} {Q : gm_Q} {e b w us lc x : Int} {D C : Int → Int} {Lc : List Int}
theorem kx_c80 (hd : 6 ≤ d) (hE : tx_E n K R M e) (hb : 0 ≤ b ∧ b ≤ e) (h1 : tx_is (M 2) e b wo_fast ∨ tx_is (M 2) e b wo_slow → ∀ k, 0 ≤ k → k ≤ 1 → (tx_is (M 2) e b wo_fast ∧ k = 0 ∨ tx_is (M 2) e b wo_slow ∧ k = 1) → Q (.inl (some (gm_vi k))) n K R (ct M e b w us lc D C)) (h2 : tx_is (M 2) e b wo_open → Q (.inl (some (gm_vi 2))) n K R (ct M e b w us lc D C)) (h0 : ¬ (tx_is (M 2) e b wo_fast ∨ tx_is (M 2) e b wo_slow) → ¬ tx_is (M 2) e b wo_open → Q (.inl (some (gm_vi (-1)))) n K R (ct M e b w us lc D C)) : gm_Wp X LX d bc bs 80 0 (gm_ent 80 [gm_vr 215]) [] n K R (ct M e b w us lc D C) Q := by
  obtain ⟨-, he0, he4⟩ := tEe hE
  refine gm_sz (gm_p_load (pc := 0) (i := .aload_n 0) (sr := 2) (j := 0) (by decide +kernel) rfl rfl rfl) ?_
  refine gm_sz (fw_gr (pc := 1) (ix := 47) (ci := 9) (j := 0) (r := 216) (by decide +kernel) (tE215c hE) (by decide +kernel) (by decide +kernel) (tEr hE).2.1) ?_
  refine gm_sz (gm_p_ldcs (pc := 4) (i := .ldc 82) (ix := 82) (id := 0) (by decide +kernel) (Or.inl rfl) (by decide +kernel)) ?_
  refine gm_c_virt (k := 216) (ci := 8) (mj := 81) (ix := 84) (pc := 6) (as := [gm_vo 0]) (st := []) (d' := d - 1) (bc' := 0) (bs' := 0) (by decide +kernel) (by decide +kernel) (by decide +kernel) (by decide +kernel) (tE216c hE).1 (tE216c hE).2 (by decide) (by decide +kernel) (show 1 = gm_na 81 by decide +kernel) (fw_c1 fw_so) (show 2 ≤ gm_ml 81 by decide +kernel) (Nat.le_of_ble_eq_true rfl) (by omega) (Nat.zero_le _) (Nat.zero_le _) ?_
  refine tx_c81 (by omega) hE (by decide) (show tx_o 0 = wo_fast by decide +kernel) hb (fun j1 => ?_) (fun j1 => ?_)
  · show gm_Wp X LX d _ _ 80 9 _ [gm_vi 1] n K R _ Q
    have j1 : tx_is (M 2) e b wo_fast := j1
    refine fw_iffd (cc := .eq) (pc := 9) (off := 5) (by decide +kernel) (by decide) ⟨by decide, by decide⟩ (by decide) ?_
    refine gm_sz (gm_p_const (pc := 12) (i := .iconst 0) (v := gm_vi 0) (by decide +kernel) (by decide +kernel)) ?_
    exact gm_r_int (pc := 13) (by decide +kernel) (Or.inl (by decide +kernel)) (h1 (Or.inl j1) 0 (by decide) (by decide) (Or.inl ⟨j1, rfl⟩))
  · show gm_Wp X LX d _ _ 80 9 _ [gm_vi 0] n K R _ Q
    have j1 : ¬ tx_is (M 2) e b wo_fast := j1
    refine fw_iftd (cc := .eq) (pc := 9) (off := 5) (by decide +kernel) (by decide) ⟨by decide, by decide⟩ (by decide) ?_
    refine gm_sz (gm_p_load (pc := 14) (i := .aload_n 0) (sr := 2) (j := 0) (by decide +kernel) rfl rfl rfl) ?_
    refine gm_sz (fw_gr (pc := 15) (ix := 47) (ci := 9) (j := 0) (r := 216) (by decide +kernel) (tE215c hE) (by decide +kernel) (by decide +kernel) (tEr hE).2.1) ?_
    refine gm_sz (gm_p_ldcs (pc := 18) (i := .ldc 87) (ix := 87) (id := 1) (by decide +kernel) (Or.inl rfl) (by decide +kernel)) ?_
    refine gm_c_virt (k := 216) (ci := 8) (mj := 81) (ix := 84) (pc := 20) (as := [gm_vo 1]) (st := []) (d' := d - 1) (bc' := 0) (bs' := 0) (by decide +kernel) (by decide +kernel) (by decide +kernel) (by decide +kernel) (tE216c hE).1 (tE216c hE).2 (by decide) (by decide +kernel) (show 1 = gm_na 81 by decide +kernel) (fw_c1 fw_so) (show 2 ≤ gm_ml 81 by decide +kernel) (Nat.le_of_ble_eq_true rfl) (by omega) (Nat.zero_le _) (Nat.zero_le _) ?_
    refine tx_c81 (by omega) hE (by decide) (show tx_o 1 = wo_slow by decide +kernel) hb (fun j2 => ?_) (fun j2 => ?_)
    · show gm_Wp X LX d _ _ 80 23 _ [gm_vi 1] n K R _ Q
      have j2 : tx_is (M 2) e b wo_slow := j2
      refine fw_iffd (cc := .eq) (pc := 23) (off := 5) (by decide +kernel) (by decide) ⟨by decide, by decide⟩ (by decide) ?_
      refine gm_sz (gm_p_const (pc := 26) (i := .iconst 1) (v := gm_vi 1) (by decide +kernel) (by decide +kernel)) ?_
      exact gm_r_int (pc := 27) (by decide +kernel) (Or.inl (by decide +kernel)) (h1 (Or.inr j2) 1 (by decide) (by decide) (Or.inr ⟨j2, rfl⟩))
    · show gm_Wp X LX d _ _ 80 23 _ [gm_vi 0] n K R _ Q
      have j2 : ¬ tx_is (M 2) e b wo_slow := j2
      refine fw_iftd (cc := .eq) (pc := 23) (off := 5) (by decide +kernel) (by decide) ⟨by decide, by decide⟩ (by decide) ?_
      refine gm_sz (gm_p_load (pc := 28) (i := .aload_n 0) (sr := 2) (j := 0) (by decide +kernel) rfl rfl rfl) ?_
      refine gm_sz (fw_gr (pc := 29) (ix := 47) (ci := 9) (j := 0) (r := 216) (by decide +kernel) (tE215c hE) (by decide +kernel) (by decide +kernel) (tEr hE).2.1) ?_
      refine gm_sz (gm_p_ldcs (pc := 32) (i := .ldc 89) (ix := 89) (id := 2) (by decide +kernel) (Or.inl rfl) (by decide +kernel)) ?_
      refine gm_c_virt (k := 216) (ci := 8) (mj := 81) (ix := 84) (pc := 34) (as := [gm_vo 2]) (st := []) (d' := d - 1) (bc' := 0) (bs' := 0) (by decide +kernel) (by decide +kernel) (by decide +kernel) (by decide +kernel) (tE216c hE).1 (tE216c hE).2 (by decide) (by decide +kernel) (show 1 = gm_na 81 by decide +kernel) (fw_c1 fw_so) (show 2 ≤ gm_ml 81 by decide +kernel) (Nat.le_of_ble_eq_true rfl) (by omega) (Nat.zero_le _) (Nat.zero_le _) ?_
      refine tx_c81 (by omega) hE (by decide) (show tx_o 2 = wo_open by decide +kernel) hb (fun j3 => ?_) (fun j3 => ?_)
      · show gm_Wp X LX d _ _ 80 37 _ [gm_vi 1] n K R _ Q
        have j3 : tx_is (M 2) e b wo_open := j3
        refine fw_iffd (cc := .eq) (pc := 37) (off := 7) (by decide +kernel) (by decide) ⟨by decide, by decide⟩ (by decide) ?_
        refine gm_sz (gm_p_const (pc := 40) (i := .iconst 2) (v := gm_vi 2) (by decide +kernel) (by decide +kernel)) ?_
        refine gm_sz (gm_p_goto (pc := 41) (off := 4) (by decide +kernel) (by decide)) ?_
        exact gm_r_int (pc := 45) (by decide +kernel) (Or.inl (by decide +kernel)) (h2 j3)
      · show gm_Wp X LX d _ _ 80 37 _ [gm_vi 0] n K R _ Q
        have j3 : ¬ tx_is (M 2) e b wo_open := j3
        refine fw_iftd (cc := .eq) (pc := 37) (off := 7) (by decide +kernel) (by decide) ⟨by decide, by decide⟩ (by decide) ?_
        refine gm_sz (gm_p_const (pc := 44) (i := .iconst (-1)) (v := gm_vi (-1)) (by decide +kernel) (by decide +kernel)) ?_
        exact gm_r_int (pc := 45) (by decide +kernel) (Or.inl (by decide +kernel)) (h0 (fun hh => hh.elim j1 j2) j3)

theorem kx_c79 (hE : tx_E n K R M e) : cL2 X LX n K R M e := by
  obtain ⟨-, he0, he4⟩ := tEe hE
  intro d bc bs b us lc D C Lc ls Q hd hb hu hlc hls hok hdl h1 h0
  have hl0 := hok.2.1.1.2.1
  have hu0 := hok.2.1.1.1
  have nb9 := tx_nb (f := M 2) hb.2
  refine gm_sz (gm_p_load (pc := 0) (i := .aload_n 0) (sr := 2) (j := 0) (by decide +kernel) rfl rfl rfl) ?_
  refine gm_c_virt (k := 215) (ci := 9) (mj := 80) (ix := 43) (pc := 1) (as := []) (st := []) (d' := d - 1) (bc' := 0) (bs' := 0) (by decide +kernel) (by decide +kernel) (by decide +kernel) (by decide +kernel) (tE215c hE).1 (tE215c hE).2 (by decide) (by decide +kernel) (show 0 = gm_na 80 by decide +kernel) fw_c0 (show 1 ≤ gm_ml 80 by decide +kernel) (Nat.le_of_ble_eq_true rfl) (by omega) (Nat.zero_le _) (Nat.zero_le _) ?_
  refine kx_c80 (by omega) hE hb (fun j1 c2 j3 j4 jk => ?_) (fun j1 => ?_) (fun j1 j5 => ?_)
  · show gm_Wp X LX d _ _ 79 4 _ [gm_vi c2] n K R _ Q
    have j1 : tx_is (M 2) e b wo_fast ∨ tx_is (M 2) e b wo_slow := j1
    have j3 : 0 ≤ c2 := j3
    have j4 : c2 ≤ 1 := j4
    have kb9 := nb9.2.2 (by rcases j1 with h | h <;> exact g_isb h)
    have nf9 : s_line (M 2) e b = (c2, tx_v (M 2) e 3 (tx_n (M 2) e b), s_if (M 2) e (tx_n (M 2) e (tx_n (M 2) e b))) := by
      rcases jk with ⟨h, hk⟩ | ⟨h, hk⟩
      · rw [hk]; exact s_n2 h
      · rw [hk]; exact s_n3 h
    have nb8 := tx_nb (f := M 2) (e := e) (b := tx_n (M 2) e b) nb9.2.1
    have nb7 := tx_nb (f := M 2) (e := e) (b := tx_n (M 2) e (tx_n (M 2) e b)) nb8.2.1
    refine gm_sz (gm_p_stor (pc := 4) (i := .istore_n 1) (sr := 0) (j := 1) (by decide +kernel) rfl (show 2 ≤ _ from Nat.le_of_ble_eq_true rfl) rfl) ?_
    refine gm_sz (gm_p_load (pc := 5) (i := .iload_n 1) (sr := 0) (j := 1) (by decide +kernel) rfl rfl rfl) ?_
    refine gm_sz (gm_p_const (pc := 6) (i := .iconst (-1)) (v := gm_vi (-1)) (by decide +kernel) (by decide +kernel)) ?_
    refine fw_ict (cc := .ne) (pc := 7) (off := 11) (by decide +kernel) (by decide) ⟨by omega, by omega⟩ ⟨by decide, by decide⟩ (show ¬ c2 = (-1) by omega) ?_
    refine gm_sz (gm_p_load (pc := 18) (i := .aload_n 0) (sr := 2) (j := 0) (by decide +kernel) rfl rfl rfl) ?_
    refine gm_sz (fw_gr (pc := 19) (ix := 47) (ci := 9) (j := 0) (r := 216) (by decide +kernel) (tE215c hE) (by decide +kernel) (by decide +kernel) (tEr hE).2.1) ?_
    refine gm_c_virt (k := 216) (ci := 8) (mj := 76) (ix := 57) (pc := 22) (as := []) (st := []) (d' := d - 1) (bc' := 0) (bs' := 0) (by decide +kernel) (by decide +kernel) (by decide +kernel) (by decide +kernel) (tE216c hE).1 (tE216c hE).2 (by decide) (by decide +kernel) (show 0 = gm_na 76 by decide +kernel) fw_c0 (show 1 ≤ gm_ml 76 by decide +kernel) (Nat.le_of_ble_eq_true rfl) (by omega) (Nat.zero_le _) (Nat.zero_le _) ?_
    refine tx_c76 (by omega) hE hb ?_
    show gm_Wp X LX d _ _ 79 25 _ [] n K R _ Q
    have g6 : 0 ≤ tx_n (M 2) e b ∧ tx_n (M 2) e b ≤ e := by have := tx_nb (f := M 2) (b := b) hb.2; omega
    refine gm_sz (gm_p_load (pc := 25) (i := .iload_n 1) (sr := 0) (j := 1) (by decide +kernel) rfl rfl rfl) ?_
    refine gm_sz (gm_p_const (pc := 26) (i := .iconst 2) (v := gm_vi 2) (by decide +kernel) (by decide +kernel)) ?_
    refine fw_ict (cc := .ne) (pc := 27) (off := 7) (by decide +kernel) (by decide) ⟨by omega, by omega⟩ ⟨by decide, by decide⟩ (show ¬ c2 = 2 by omega) ?_
    refine gm_sz (gm_p_load (pc := 34) (i := .aload_n 0) (sr := 2) (j := 0) (by decide +kernel) rfl rfl rfl) ?_
    refine gm_sz (fw_gr (pc := 35) (ix := 47) (ci := 9) (j := 0) (r := 216) (by decide +kernel) (tE215c hE) (by decide +kernel) (by decide +kernel) (tEr hE).2.1) ?_
    refine gm_sz (gm_p_const (pc := 38) (i := .iconst 0) (v := gm_vi 0) (by decide +kernel) (by decide +kernel)) ?_
    refine gm_sz (gm_p_const (pc := 39) (i := .bipush 20) (v := gm_vi 20) (by decide +kernel) (by decide +kernel)) ?_
    refine gm_c_virt (k := 216) (ci := 8) (mj := 94) (ix := 61) (pc := 41) (as := [gm_vi 0, gm_vi 20]) (st := []) (d' := d - 1) (bc' := 0) (bs' := 0) (by decide +kernel) (by decide +kernel) (by decide +kernel) (by decide +kernel) (tE216c hE).1 (tE216c hE).2 (by decide) (by decide +kernel) (show 2 = gm_na 94 by decide +kernel) (fw_c2 fw_si fw_si) (show 3 ≤ gm_ml 94 by decide +kernel) (Nat.le_of_ble_eq_true rfl) (by omega) (Nat.zero_le _) (Nat.zero_le _) ?_
    refine tx_c94 (by omega) hE ⟨by decide, by decide⟩ ⟨by decide, by decide⟩ g6 (fun j9 j10 j11 => ?_) (fun j7 => ?_)
    · show gm_Wp X LX d _ _ 79 44 _ [gm_vi (tx_v (M 2) e 3 (tx_n (M 2) e b))] n K R _ Q
      have j7 : tx_k (M 2) e (tx_n (M 2) e b) = 258 ∧ 0 ≤ tx_v (M 2) e 3 (tx_n (M 2) e b) ∧ tx_v (M 2) e 3 (tx_n (M 2) e b) ≤ 20 := ⟨j9, j10, j11⟩
      have g8 : 0 ≤ tx_n (M 2) e (tx_n (M 2) e b) ∧ tx_n (M 2) e (tx_n (M 2) e b) ≤ e := by have := tx_nb (f := M 2) (b := tx_n (M 2) e b) g6.2; omega
      have j7v := tx_vb (f := M 2) (e := e) (m := 3) (b := tx_n (M 2) e b) (by decide)
      refine gm_sz (gm_p_stor (pc := 44) (i := .istore_n 2) (sr := 0) (j := 2) (by decide +kernel) rfl (show 3 ≤ _ from Nat.le_of_ble_eq_true rfl) rfl) ?_
      refine gm_sz (gm_p_load (pc := 45) (i := .iload_n 2) (sr := 0) (j := 2) (by decide +kernel) rfl rfl rfl) ?_
      refine gm_sz (gm_p_const (pc := 46) (i := .iconst (-1)) (v := gm_vi (-1)) (by decide +kernel) (by decide +kernel)) ?_
      refine fw_ict (cc := .ne) (pc := 47) (off := 5) (by decide +kernel) (by decide) ⟨by omega, by omega⟩ ⟨by decide, by decide⟩ (show ¬ (tx_v (M 2) e 3 (tx_n (M 2) e b)) = (-1) by omega) ?_
      refine gm_sz (gm_p_load (pc := 52) (i := .aload_n 0) (sr := 2) (j := 0) (by decide +kernel) rfl rfl rfl) ?_
      refine gm_sz (fw_gi (pc := 53) (ix := 24) (ci := 9) (j := 4) (x := us) (by decide +kernel) (tE215c hE) (by decide +kernel) (by decide +kernel) rfl) ?_
      refine gm_sz (gm_p_stor (pc := 56) (i := .istore_n 3) (sr := 0) (j := 3) (by decide +kernel) rfl (show 4 ≤ _ from Nat.le_of_ble_eq_true rfl) rfl) ?_
      refine gm_sz (gm_p_load (pc := 57) (i := .aload_n 0) (sr := 2) (j := 0) (by decide +kernel) rfl rfl rfl) ?_
      refine gm_sz (fw_gr (pc := 58) (ix := 47) (ci := 9) (j := 0) (r := 216) (by decide +kernel) (tE215c hE) (by decide +kernel) (by decide +kernel) (tEr hE).2.1) ?_
      refine gm_sz (gm_p_ldcs (pc := 61) (i := .ldc 65) (ix := 65) (id := 3) (by decide +kernel) (Or.inl rfl) (by decide +kernel)) ?_
      refine gm_c_virt (k := 216) (ci := 8) (mj := 95) (ix := 67) (pc := 63) (as := [gm_vo 3]) (st := []) (d' := d - 1) (bc' := 0) (bs' := 0) (by decide +kernel) (by decide +kernel) (by decide +kernel) (by decide +kernel) (tE216c hE).1 (tE216c hE).2 (by decide) (by decide +kernel) (show 1 = gm_na 95 by decide +kernel) (fw_c1 fw_so) (show 2 ≤ gm_ml 95 by decide +kernel) (Nat.le_of_ble_eq_true rfl) (by omega) (Nat.zero_le _) (Nat.zero_le _) ?_
      refine tx_c95 (by omega) hE (by decide) (show tx_o 3 = wo_if by decide +kernel) g8 (fun j12 => ?_) (fun j12 => ?_)
      · show gm_Wp X LX d _ _ 79 66 _ [gm_vi 1] n K R _ Q
        have j12 : tx_is (M 2) e (tx_n (M 2) e (tx_n (M 2) e b)) wo_if := j12
        have g13 : 0 ≤ tx_n (M 2) e (tx_n (M 2) e (tx_n (M 2) e b)) ∧ tx_n (M 2) e (tx_n (M 2) e (tx_n (M 2) e b)) ≤ e := by have := tx_nb (f := M 2) (b := tx_n (M 2) e (tx_n (M 2) e b)) g8.2; omega
        refine fw_iffd (cc := .eq) (pc := 66) (off := 13) (by decide +kernel) (by decide) ⟨by decide, by decide⟩ (by decide) ?_
        refine gm_sz (gm_p_load (pc := 69) (i := .aload_n 0) (sr := 2) (j := 0) (by decide +kernel) rfl rfl rfl) ?_
        refine gm_sz (gm_p_const (pc := 70) (i := .iconst 0) (v := gm_vi 0) (by decide +kernel) (by decide +kernel)) ?_
        refine gm_c_virt (k := 215) (ci := 9) (mj := 96) (ix := 71) (pc := 71) (as := [gm_vi 0]) (st := []) (d' := d - 1) (bc' := 0) (bs' := 0) (by decide +kernel) (by decide +kernel) (by decide +kernel) (by decide +kernel) (tE215c hE).1 (tE215c hE).2 (by decide) (by decide +kernel) (show 1 = gm_na 96 by decide +kernel) (fw_c1 fw_si) (show 2 ≤ gm_ml 96 by decide +kernel) (Nat.le_of_ble_eq_true rfl) (by omega) (Nat.zero_le _) (Nat.zero_le _) ?_
        refine kx_cd hE _ _ _ _ _ _ _ _ (by omega) g13 (by have := tx_nw g8.2 j12; have : tx_n (M 2) e (tx_n (M 2) e b) + 2 ≤ tx_n (M 2) e (tx_n (M 2) e (tx_n (M 2) e b)) := this; omega) hok (fun u14 C15 k16 j17 => ?_) (fun u14 C15 k16 j17 => ?_)
        · show gm_Wp X LX d _ _ 79 74 _ [gm_vi 1] n K R _ Q
          have j17 : (g_cd (M 2) e 6 (tx_n (M 2) e (tx_n (M 2) e (tx_n (M 2) e b)))).1 = true := j17
          have g18 : 0 ≤ (g_cd (M 2) e 6 (tx_n (M 2) e (tx_n (M 2) e (tx_n (M 2) e b)))).2 ∧ (g_cd (M 2) e 6 (tx_n (M 2) e (tx_n (M 2) e (tx_n (M 2) e b)))).2 ≤ e := by have := g_cd_in (f := M 2) 6 (tx_n (M 2) e (tx_n (M 2) e (tx_n (M 2) e b))) g13.1 g13.2; have := g13.1; omega
          refine fw_iftd (cc := .ne) (pc := 74) (off := 5) (by decide +kernel) (by decide) ⟨by decide, by decide⟩ (by decide) ?_
          refine gm_sz (gm_p_load (pc := 79) (i := .aload_n 0) (sr := 2) (j := 0) (by decide +kernel) rfl rfl rfl) ?_
          refine gm_sz (fw_gr (pc := 80) (ix := 14) (ci := 9) (j := 2) (r := 217) (by decide +kernel) (tE215c hE) (by decide +kernel) (by decide +kernel) (tEr hE).2.2.1) ?_
          refine gm_c_virt (k := 217) (ci := 2) (mj := 102) (ix := 75) (pc := 83) (as := []) (st := []) (d' := d - 1) (bc' := 0) (bs' := 0) (by decide +kernel) (by decide +kernel) (by decide +kernel) (by decide +kernel) (tE217c hE).1 (tE217c hE).2 (by decide) (by decide +kernel) (show 0 = gm_na 102 by decide +kernel) fw_c0 (show 1 ≤ gm_ml 102 by decide +kernel) (Nat.le_of_ble_eq_true rfl) (by omega) (Nat.zero_le _) (Nat.zero_le _) ?_
          refine tx_c102 hE ⟨by omega, by omega⟩ ?_
          show gm_Wp X LX d _ _ 79 86 _ [gm_vi (lc + 1 - 1)] n K R _ Q
          refine gm_sz (gm_p_stor (pc := 86) (i := .istore 4) (sr := 0) (j := 4) (by decide +kernel) rfl (show 5 ≤ _ from Nat.le_of_ble_eq_true rfl) rfl) ?_
          refine gm_sz (gm_p_load (pc := 88) (i := .aload_n 0) (sr := 2) (j := 0) (by decide +kernel) rfl rfl rfl) ?_
          refine gm_sz (fw_gr (pc := 89) (ix := 14) (ci := 9) (j := 2) (r := 217) (by decide +kernel) (tE215c hE) (by decide +kernel) (by decide +kernel) (tEr hE).2.2.1) ?_
          refine gm_sz (gm_p_load (pc := 92) (i := .iload 4) (sr := 0) (j := 4) (by decide +kernel) rfl rfl rfl) ?_
          refine gm_sz (gm_p_const (pc := 94) (i := .iconst 0) (v := gm_vi 0) (by decide +kernel) (by decide +kernel)) ?_
          refine gm_sz (gm_p_load (pc := 95) (i := .iload_n 1) (sr := 0) (j := 1) (by decide +kernel) rfl rfl rfl) ?_
          refine gm_c_virt (k := 217) (ci := 2) (mj := 45) (ix := 78) (pc := 96) (as := [gm_vi (lc + 1 - 1), gm_vi 0, gm_vi c2]) (st := []) (d' := d - 1) (bc' := 0) (bs' := 0) (by decide +kernel) (by decide +kernel) (by decide +kernel) (by decide +kernel) (tE217c hE).1 (tE217c hE).2 (by decide) (by decide +kernel) (show 3 = gm_na 45 by decide +kernel) (fw_c3 fw_si fw_si fw_si) (show 4 ≤ gm_ml 45 by decide +kernel) (Nat.le_of_ble_eq_true rfl) (by omega) (Nat.zero_le _) (Nat.zero_le _) ?_
          refine tx_c45 hE ⟨by omega, by omega⟩ ⟨by omega, by omega⟩ ⟨by omega, by omega⟩ ?_
          show gm_Wp X LX d _ _ 79 99 _ [] n K R _ Q
          refine gm_sz (gm_p_load (pc := 99) (i := .aload_n 0) (sr := 2) (j := 0) (by decide +kernel) rfl rfl rfl) ?_
          refine gm_sz (fw_gr (pc := 100) (ix := 14) (ci := 9) (j := 2) (r := 217) (by decide +kernel) (tE215c hE) (by decide +kernel) (by decide +kernel) (tEr hE).2.2.1) ?_
          refine gm_sz (gm_p_load (pc := 103) (i := .iload 4) (sr := 0) (j := 4) (by decide +kernel) rfl rfl rfl) ?_
          refine gm_sz (gm_p_const (pc := 105) (i := .iconst 1) (v := gm_vi 1) (by decide +kernel) (by decide +kernel)) ?_
          refine gm_sz (gm_p_load (pc := 106) (i := .iload_n 2) (sr := 0) (j := 2) (by decide +kernel) rfl rfl rfl) ?_
          refine gm_c_virt (k := 217) (ci := 2) (mj := 45) (ix := 78) (pc := 107) (as := [gm_vi (lc + 1 - 1), gm_vi 1, gm_vi (tx_v (M 2) e 3 (tx_n (M 2) e b))]) (st := []) (d' := d - 1) (bc' := 0) (bs' := 0) (by decide +kernel) (by decide +kernel) (by decide +kernel) (by decide +kernel) (tE217c hE).1 (tE217c hE).2 (by decide) (by decide +kernel) (show 3 = gm_na 45 by decide +kernel) (fw_c3 fw_si fw_si fw_si) (show 4 ≤ gm_ml 45 by decide +kernel) (Nat.le_of_ble_eq_true rfl) (by omega) (Nat.zero_le _) (Nat.zero_le _) ?_
          refine tx_c45 hE ⟨by omega, by omega⟩ ⟨by omega, by omega⟩ ⟨by omega, by omega⟩ ?_
          show gm_Wp X LX d _ _ 79 110 _ [] n K R _ Q
          refine gm_sz (gm_p_load (pc := 110) (i := .aload_n 0) (sr := 2) (j := 0) (by decide +kernel) rfl rfl rfl) ?_
          refine gm_sz (fw_gr (pc := 111) (ix := 14) (ci := 9) (j := 2) (r := 217) (by decide +kernel) (tE215c hE) (by decide +kernel) (by decide +kernel) (tEr hE).2.2.1) ?_
          refine gm_sz (gm_p_load (pc := 114) (i := .iload 4) (sr := 0) (j := 4) (by decide +kernel) rfl rfl rfl) ?_
          refine gm_sz (gm_p_const (pc := 116) (i := .iconst 2) (v := gm_vi 2) (by decide +kernel) (by decide +kernel)) ?_
          refine gm_sz (gm_p_load (pc := 117) (i := .iload_n 3) (sr := 0) (j := 3) (by decide +kernel) rfl rfl rfl) ?_
          refine gm_c_virt (k := 217) (ci := 2) (mj := 45) (ix := 78) (pc := 118) (as := [gm_vi (lc + 1 - 1), gm_vi 2, gm_vi us]) (st := []) (d' := d - 1) (bc' := 0) (bs' := 0) (by decide +kernel) (by decide +kernel) (by decide +kernel) (by decide +kernel) (tE217c hE).1 (tE217c hE).2 (by decide) (by decide +kernel) (show 3 = gm_na 45 by decide +kernel) (fw_c3 fw_si fw_si fw_si) (show 4 ≤ gm_ml 45 by decide +kernel) (Nat.le_of_ble_eq_true rfl) (by omega) (Nat.zero_le _) (Nat.zero_le _) ?_
          refine tx_c45 hE ⟨by omega, by omega⟩ ⟨by omega, by omega⟩ ⟨by omega, by omega⟩ ?_
          show gm_Wp X LX d _ _ 79 121 _ [] n K R _ Q
          refine gm_sz (gm_p_load (pc := 121) (i := .aload_n 0) (sr := 2) (j := 0) (by decide +kernel) rfl rfl rfl) ?_
          refine gm_sz (fw_gr (pc := 122) (ix := 14) (ci := 9) (j := 2) (r := 217) (by decide +kernel) (tE215c hE) (by decide +kernel) (by decide +kernel) (tEr hE).2.2.1) ?_
          refine gm_sz (gm_p_load (pc := 125) (i := .iload 4) (sr := 0) (j := 4) (by decide +kernel) rfl rfl rfl) ?_
          refine gm_sz (gm_p_const (pc := 127) (i := .iconst 3) (v := gm_vi 3) (by decide +kernel) (by decide +kernel)) ?_
          refine gm_sz (gm_p_load (pc := 128) (i := .aload_n 0) (sr := 2) (j := 0) (by decide +kernel) rfl rfl rfl) ?_
          refine gm_sz (fw_gi (pc := 129) (ix := 24) (ci := 9) (j := 4) (x := u14) (by decide +kernel) (tE215c hE) (by decide +kernel) (by decide +kernel) rfl) ?_
          refine gm_c_virt (k := 217) (ci := 2) (mj := 45) (ix := 78) (pc := 132) (as := [gm_vi (lc + 1 - 1), gm_vi 3, gm_vi u14]) (st := []) (d' := d - 1) (bc' := 0) (bs' := 0) (by decide +kernel) (by decide +kernel) (by decide +kernel) (by decide +kernel) (tE217c hE).1 (tE217c hE).2 (by decide) (by decide +kernel) (show 3 = gm_na 45 by decide +kernel) (fw_c3 fw_si fw_si fw_si) (show 4 ≤ gm_ml 45 by decide +kernel) (Nat.le_of_ble_eq_true rfl) (by omega) (Nat.zero_le _) (Nat.zero_le _) ?_
          refine tx_c45 hE ⟨by omega, by omega⟩ ⟨by omega, by omega⟩ ⟨by omega, by omega⟩ ?_
          show gm_Wp X LX d _ _ 79 135 _ [] n K R _ Q
          refine gm_sz (gm_p_const (pc := 135) (i := .iconst 1) (v := gm_vi 1) (by decide +kernel) (by decide +kernel)) ?_
          have nfi := nf9
          rw [s_f1 j12] at nfi
          rw [nfi, g_n2 j1 j7, g_f1 j12] at h1
          have k9 := k16
          have ce := ctl_E hok k9
          refine gm_r_int (pc := 136) (by decide +kernel) (Or.inr ⟨(by decide +kernel), Or.inr rfl⟩) (h1 _ (dln D (lc + 1 - 1) c2 (tx_v (M 2) e 3 (tx_n (M 2) e b)) us _) _ _ ⟨k9.1, ⟨⟨k9.2.1.1.1, by omega⟩, fun j g1 g2 => ?_, k9.2.1.2.2⟩, k9.2.2⟩ ?_ ?_ j17)
          · have q0 := k9.2.1.2.1 j g1 g2
            have q1 := k9.2.1.1.1
            show 0 ≤ (if _ then _ else if _ then _ else if _ then _ else if _ then _ else D j) ∧ (if _ then _ else if _ then _ else if _ then _ else if _ then _ else D j) ≤ 400
            repeat' split
            all_goals omega
          · rw [show lc + 1 - 1 = lc by omega]
            exact cdl_add hdl hls ⟨hu0.1, by have := ce.1; omega⟩ (ctl_C hok k9) ⟨by omega, by omega⟩ ⟨by omega, by omega⟩ (fun hn => by cases hn) (fun t9 ht => by cases ht; exact ce)
          · have o9 := (s_cd_ok (f := M 2) 6 _ (by omega) (by omega) j17).1
            have ce1 : _ = us + ((scds (s_cd (M 2) e 6 (tx_n (M 2) e (tx_n (M 2) e (tx_n (M 2) e b))))).length : Int) := ce.1
            have nw := tx_nw (by omega) j12
            have nw : tx_n (M 2) e (tx_n (M 2) e b) + 2 ≤ tx_n (M 2) e (tx_n (M 2) e (tx_n (M 2) e b)) := nw
            omega
        · show gm_Wp X LX d _ _ 79 74 _ [gm_vi 0] n K R _ Q
          have j17 : ¬ (g_cd (M 2) e 6 (tx_n (M 2) e (tx_n (M 2) e (tx_n (M 2) e b)))).1 = true := j17
          have g18 : 0 ≤ (g_cd (M 2) e 6 (tx_n (M 2) e (tx_n (M 2) e (tx_n (M 2) e b)))).2 ∧ (g_cd (M 2) e 6 (tx_n (M 2) e (tx_n (M 2) e (tx_n (M 2) e b)))).2 ≤ e := by have := g_cd_in (f := M 2) 6 (tx_n (M 2) e (tx_n (M 2) e (tx_n (M 2) e b))) g13.1 g13.2; have := g13.1; omega
          refine fw_iffd (cc := .ne) (pc := 74) (off := 5) (by decide +kernel) (by decide) ⟨by decide, by decide⟩ (by decide) ?_
          refine gm_sz (gm_p_const (pc := 77) (i := .iconst 0) (v := gm_vi 0) (by decide +kernel) (by decide +kernel)) ?_
          rw [g_n2 j1 j7, g_f1 j12] at h0
          exact gm_r_int (pc := 78) (by decide +kernel) (Or.inr ⟨(by decide +kernel), Or.inl rfl⟩) (h0 _ _ _ k16 j17)
      · show gm_Wp X LX d _ _ 79 66 _ [gm_vi 0] n K R _ Q
        have j12 : ¬ tx_is (M 2) e (tx_n (M 2) e (tx_n (M 2) e b)) wo_if := j12
        refine fw_iftd (cc := .eq) (pc := 66) (off := 13) (by decide +kernel) (by decide) ⟨by decide, by decide⟩ (by decide) ?_
        refine gm_sz (gm_p_load (pc := 79) (i := .aload_n 0) (sr := 2) (j := 0) (by decide +kernel) rfl rfl rfl) ?_
        refine gm_sz (fw_gr (pc := 80) (ix := 14) (ci := 9) (j := 2) (r := 217) (by decide +kernel) (tE215c hE) (by decide +kernel) (by decide +kernel) (tEr hE).2.2.1) ?_
        refine gm_c_virt (k := 217) (ci := 2) (mj := 102) (ix := 75) (pc := 83) (as := []) (st := []) (d' := d - 1) (bc' := 0) (bs' := 0) (by decide +kernel) (by decide +kernel) (by decide +kernel) (by decide +kernel) (tE217c hE).1 (tE217c hE).2 (by decide) (by decide +kernel) (show 0 = gm_na 102 by decide +kernel) fw_c0 (show 1 ≤ gm_ml 102 by decide +kernel) (Nat.le_of_ble_eq_true rfl) (by omega) (Nat.zero_le _) (Nat.zero_le _) ?_
        refine tx_c102 hE ⟨by omega, by omega⟩ ?_
        show gm_Wp X LX d _ _ 79 86 _ [gm_vi (lc + 1 - 1)] n K R _ Q
        refine gm_sz (gm_p_stor (pc := 86) (i := .istore 4) (sr := 0) (j := 4) (by decide +kernel) rfl (show 5 ≤ _ from Nat.le_of_ble_eq_true rfl) rfl) ?_
        refine gm_sz (gm_p_load (pc := 88) (i := .aload_n 0) (sr := 2) (j := 0) (by decide +kernel) rfl rfl rfl) ?_
        refine gm_sz (fw_gr (pc := 89) (ix := 14) (ci := 9) (j := 2) (r := 217) (by decide +kernel) (tE215c hE) (by decide +kernel) (by decide +kernel) (tEr hE).2.2.1) ?_
        refine gm_sz (gm_p_load (pc := 92) (i := .iload 4) (sr := 0) (j := 4) (by decide +kernel) rfl rfl rfl) ?_
        refine gm_sz (gm_p_const (pc := 94) (i := .iconst 0) (v := gm_vi 0) (by decide +kernel) (by decide +kernel)) ?_
        refine gm_sz (gm_p_load (pc := 95) (i := .iload_n 1) (sr := 0) (j := 1) (by decide +kernel) rfl rfl rfl) ?_
        refine gm_c_virt (k := 217) (ci := 2) (mj := 45) (ix := 78) (pc := 96) (as := [gm_vi (lc + 1 - 1), gm_vi 0, gm_vi c2]) (st := []) (d' := d - 1) (bc' := 0) (bs' := 0) (by decide +kernel) (by decide +kernel) (by decide +kernel) (by decide +kernel) (tE217c hE).1 (tE217c hE).2 (by decide) (by decide +kernel) (show 3 = gm_na 45 by decide +kernel) (fw_c3 fw_si fw_si fw_si) (show 4 ≤ gm_ml 45 by decide +kernel) (Nat.le_of_ble_eq_true rfl) (by omega) (Nat.zero_le _) (Nat.zero_le _) ?_
        refine tx_c45 hE ⟨by omega, by omega⟩ ⟨by omega, by omega⟩ ⟨by omega, by omega⟩ ?_
        show gm_Wp X LX d _ _ 79 99 _ [] n K R _ Q
        refine gm_sz (gm_p_load (pc := 99) (i := .aload_n 0) (sr := 2) (j := 0) (by decide +kernel) rfl rfl rfl) ?_
        refine gm_sz (fw_gr (pc := 100) (ix := 14) (ci := 9) (j := 2) (r := 217) (by decide +kernel) (tE215c hE) (by decide +kernel) (by decide +kernel) (tEr hE).2.2.1) ?_
        refine gm_sz (gm_p_load (pc := 103) (i := .iload 4) (sr := 0) (j := 4) (by decide +kernel) rfl rfl rfl) ?_
        refine gm_sz (gm_p_const (pc := 105) (i := .iconst 1) (v := gm_vi 1) (by decide +kernel) (by decide +kernel)) ?_
        refine gm_sz (gm_p_load (pc := 106) (i := .iload_n 2) (sr := 0) (j := 2) (by decide +kernel) rfl rfl rfl) ?_
        refine gm_c_virt (k := 217) (ci := 2) (mj := 45) (ix := 78) (pc := 107) (as := [gm_vi (lc + 1 - 1), gm_vi 1, gm_vi (tx_v (M 2) e 3 (tx_n (M 2) e b))]) (st := []) (d' := d - 1) (bc' := 0) (bs' := 0) (by decide +kernel) (by decide +kernel) (by decide +kernel) (by decide +kernel) (tE217c hE).1 (tE217c hE).2 (by decide) (by decide +kernel) (show 3 = gm_na 45 by decide +kernel) (fw_c3 fw_si fw_si fw_si) (show 4 ≤ gm_ml 45 by decide +kernel) (Nat.le_of_ble_eq_true rfl) (by omega) (Nat.zero_le _) (Nat.zero_le _) ?_
        refine tx_c45 hE ⟨by omega, by omega⟩ ⟨by omega, by omega⟩ ⟨by omega, by omega⟩ ?_
        show gm_Wp X LX d _ _ 79 110 _ [] n K R _ Q
        refine gm_sz (gm_p_load (pc := 110) (i := .aload_n 0) (sr := 2) (j := 0) (by decide +kernel) rfl rfl rfl) ?_
        refine gm_sz (fw_gr (pc := 111) (ix := 14) (ci := 9) (j := 2) (r := 217) (by decide +kernel) (tE215c hE) (by decide +kernel) (by decide +kernel) (tEr hE).2.2.1) ?_
        refine gm_sz (gm_p_load (pc := 114) (i := .iload 4) (sr := 0) (j := 4) (by decide +kernel) rfl rfl rfl) ?_
        refine gm_sz (gm_p_const (pc := 116) (i := .iconst 2) (v := gm_vi 2) (by decide +kernel) (by decide +kernel)) ?_
        refine gm_sz (gm_p_load (pc := 117) (i := .iload_n 3) (sr := 0) (j := 3) (by decide +kernel) rfl rfl rfl) ?_
        refine gm_c_virt (k := 217) (ci := 2) (mj := 45) (ix := 78) (pc := 118) (as := [gm_vi (lc + 1 - 1), gm_vi 2, gm_vi us]) (st := []) (d' := d - 1) (bc' := 0) (bs' := 0) (by decide +kernel) (by decide +kernel) (by decide +kernel) (by decide +kernel) (tE217c hE).1 (tE217c hE).2 (by decide) (by decide +kernel) (show 3 = gm_na 45 by decide +kernel) (fw_c3 fw_si fw_si fw_si) (show 4 ≤ gm_ml 45 by decide +kernel) (Nat.le_of_ble_eq_true rfl) (by omega) (Nat.zero_le _) (Nat.zero_le _) ?_
        refine tx_c45 hE ⟨by omega, by omega⟩ ⟨by omega, by omega⟩ ⟨by omega, by omega⟩ ?_
        show gm_Wp X LX d _ _ 79 121 _ [] n K R _ Q
        refine gm_sz (gm_p_load (pc := 121) (i := .aload_n 0) (sr := 2) (j := 0) (by decide +kernel) rfl rfl rfl) ?_
        refine gm_sz (fw_gr (pc := 122) (ix := 14) (ci := 9) (j := 2) (r := 217) (by decide +kernel) (tE215c hE) (by decide +kernel) (by decide +kernel) (tEr hE).2.2.1) ?_
        refine gm_sz (gm_p_load (pc := 125) (i := .iload 4) (sr := 0) (j := 4) (by decide +kernel) rfl rfl rfl) ?_
        refine gm_sz (gm_p_const (pc := 127) (i := .iconst 3) (v := gm_vi 3) (by decide +kernel) (by decide +kernel)) ?_
        refine gm_sz (gm_p_load (pc := 128) (i := .aload_n 0) (sr := 2) (j := 0) (by decide +kernel) rfl rfl rfl) ?_
        refine gm_sz (fw_gi (pc := 129) (ix := 24) (ci := 9) (j := 4) (x := us) (by decide +kernel) (tE215c hE) (by decide +kernel) (by decide +kernel) rfl) ?_
        refine gm_c_virt (k := 217) (ci := 2) (mj := 45) (ix := 78) (pc := 132) (as := [gm_vi (lc + 1 - 1), gm_vi 3, gm_vi us]) (st := []) (d' := d - 1) (bc' := 0) (bs' := 0) (by decide +kernel) (by decide +kernel) (by decide +kernel) (by decide +kernel) (tE217c hE).1 (tE217c hE).2 (by decide) (by decide +kernel) (show 3 = gm_na 45 by decide +kernel) (fw_c3 fw_si fw_si fw_si) (show 4 ≤ gm_ml 45 by decide +kernel) (Nat.le_of_ble_eq_true rfl) (by omega) (Nat.zero_le _) (Nat.zero_le _) ?_
        refine tx_c45 hE ⟨by omega, by omega⟩ ⟨by omega, by omega⟩ ⟨by omega, by omega⟩ ?_
        show gm_Wp X LX d _ _ 79 135 _ [] n K R _ Q
        refine gm_sz (gm_p_const (pc := 135) (i := .iconst 1) (v := gm_vi 1) (by decide +kernel) (by decide +kernel)) ?_
        have nfi := nf9
        rw [s_f0 j12] at nfi
        rw [nfi, g_n2 j1 j7, g_f0 j12] at h1
        refine gm_r_int (pc := 136) (by decide +kernel) (Or.inr ⟨(by decide +kernel), Or.inr rfl⟩) (h1 _ (dln D (lc + 1 - 1) c2 (tx_v (M 2) e 3 (tx_n (M 2) e b)) us _) _ _ ⟨hok.1, ⟨⟨hok.2.1.1.1, by omega⟩, fun j g1 g2 => ?_, hok.2.1.2.2⟩, hok.2.2⟩ ?_ ?_ rfl)
        · have q0 := hok.2.1.2.1 j g1 g2
          have q1 := hok.2.1.1.1
          show 0 ≤ (if _ then _ else if _ then _ else if _ then _ else if _ then _ else D j) ∧ (if _ then _ else if _ then _ else if _ then _ else if _ then _ else D j) ≤ 400
          repeat' split
          all_goals omega
        · rw [show lc + 1 - 1 = lc by omega]
          exact cdl_add hdl hls ⟨hu0.1, Int.le_refl _⟩ (fun _ _ _ => rfl) ⟨by omega, by omega⟩ ⟨by omega, by omega⟩ (fun _ => rfl) (fun t9 ht => by cases ht)
        · show us ≤ tx_n (M 2) e (tx_n (M 2) e b)
          omega
    · show gm_Wp X LX d _ _ 79 44 _ [gm_vi (-1)] n K R _ Q
      have j7 : ¬ (tx_k (M 2) e (tx_n (M 2) e b) = 258 ∧ 0 ≤ tx_v (M 2) e 3 (tx_n (M 2) e b) ∧ tx_v (M 2) e 3 (tx_n (M 2) e b) ≤ 20) := j7
      refine gm_sz (gm_p_stor (pc := 44) (i := .istore_n 2) (sr := 0) (j := 2) (by decide +kernel) rfl (show 3 ≤ _ from Nat.le_of_ble_eq_true rfl) rfl) ?_
      refine gm_sz (gm_p_load (pc := 45) (i := .iload_n 2) (sr := 0) (j := 2) (by decide +kernel) rfl rfl rfl) ?_
      refine gm_sz (gm_p_const (pc := 46) (i := .iconst (-1)) (v := gm_vi (-1)) (by decide +kernel) (by decide +kernel)) ?_
      refine fw_icfd (cc := .ne) (pc := 47) (off := 5) (by decide +kernel) (by decide) ⟨by decide, by decide⟩ ⟨by decide, by decide⟩ (by decide) ?_
      refine gm_sz (gm_p_const (pc := 50) (i := .iconst 0) (v := gm_vi 0) (by decide +kernel) (by decide +kernel)) ?_
      rw [g_n3 j1 j7] at h0
      exact gm_r_int (pc := 51) (by decide +kernel) (Or.inr ⟨(by decide +kernel), Or.inl rfl⟩) (h0 _ _ _ hok.2.1 (fun h => by cases h))
  · show gm_Wp X LX d _ _ 79 4 _ [gm_vi 2] n K R _ Q
    have j1 : tx_is (M 2) e b wo_open := j1
    have kb9 := nb9.2.2 (g_isb j1)
    have nf9 := s_n1 (f := M 2) j1
    have nb8 := tx_nb (f := M 2) (e := e) (b := tx_n (M 2) e b) nb9.2.1
    refine gm_sz (gm_p_stor (pc := 4) (i := .istore_n 1) (sr := 0) (j := 1) (by decide +kernel) rfl (show 2 ≤ _ from Nat.le_of_ble_eq_true rfl) rfl) ?_
    refine gm_sz (gm_p_load (pc := 5) (i := .iload_n 1) (sr := 0) (j := 1) (by decide +kernel) rfl rfl rfl) ?_
    refine gm_sz (gm_p_const (pc := 6) (i := .iconst (-1)) (v := gm_vi (-1)) (by decide +kernel) (by decide +kernel)) ?_
    refine fw_ictd (cc := .ne) (pc := 7) (off := 11) (by decide +kernel) (by decide) ⟨by decide, by decide⟩ ⟨by decide, by decide⟩ (by decide) ?_
    refine gm_sz (gm_p_load (pc := 18) (i := .aload_n 0) (sr := 2) (j := 0) (by decide +kernel) rfl rfl rfl) ?_
    refine gm_sz (fw_gr (pc := 19) (ix := 47) (ci := 9) (j := 0) (r := 216) (by decide +kernel) (tE215c hE) (by decide +kernel) (by decide +kernel) (tEr hE).2.1) ?_
    refine gm_c_virt (k := 216) (ci := 8) (mj := 76) (ix := 57) (pc := 22) (as := []) (st := []) (d' := d - 1) (bc' := 0) (bs' := 0) (by decide +kernel) (by decide +kernel) (by decide +kernel) (by decide +kernel) (tE216c hE).1 (tE216c hE).2 (by decide) (by decide +kernel) (show 0 = gm_na 76 by decide +kernel) fw_c0 (show 1 ≤ gm_ml 76 by decide +kernel) (Nat.le_of_ble_eq_true rfl) (by omega) (Nat.zero_le _) (Nat.zero_le _) ?_
    refine tx_c76 (by omega) hE hb ?_
    show gm_Wp X LX d _ _ 79 25 _ [] n K R _ Q
    have g19 : 0 ≤ tx_n (M 2) e b ∧ tx_n (M 2) e b ≤ e := by have := tx_nb (f := M 2) (b := b) hb.2; omega
    refine gm_sz (gm_p_load (pc := 25) (i := .iload_n 1) (sr := 0) (j := 1) (by decide +kernel) rfl rfl rfl) ?_
    refine gm_sz (gm_p_const (pc := 26) (i := .iconst 2) (v := gm_vi 2) (by decide +kernel) (by decide +kernel)) ?_
    refine fw_icfd (cc := .ne) (pc := 27) (off := 7) (by decide +kernel) (by decide) ⟨by decide, by decide⟩ ⟨by decide, by decide⟩ (by decide) ?_
    refine gm_sz (gm_p_const (pc := 30) (i := .iconst 0) (v := gm_vi 0) (by decide +kernel) (by decide +kernel)) ?_
    refine gm_sz (gm_p_goto (pc := 31) (off := 13) (by decide +kernel) (by decide)) ?_
    refine gm_sz (gm_p_stor (pc := 44) (i := .istore_n 2) (sr := 0) (j := 2) (by decide +kernel) rfl (show 3 ≤ _ from Nat.le_of_ble_eq_true rfl) rfl) ?_
    refine gm_sz (gm_p_load (pc := 45) (i := .iload_n 2) (sr := 0) (j := 2) (by decide +kernel) rfl rfl rfl) ?_
    refine gm_sz (gm_p_const (pc := 46) (i := .iconst (-1)) (v := gm_vi (-1)) (by decide +kernel) (by decide +kernel)) ?_
    refine fw_ictd (cc := .ne) (pc := 47) (off := 5) (by decide +kernel) (by decide) ⟨by decide, by decide⟩ ⟨by decide, by decide⟩ (by decide) ?_
    refine gm_sz (gm_p_load (pc := 52) (i := .aload_n 0) (sr := 2) (j := 0) (by decide +kernel) rfl rfl rfl) ?_
    refine gm_sz (fw_gi (pc := 53) (ix := 24) (ci := 9) (j := 4) (x := us) (by decide +kernel) (tE215c hE) (by decide +kernel) (by decide +kernel) rfl) ?_
    refine gm_sz (gm_p_stor (pc := 56) (i := .istore_n 3) (sr := 0) (j := 3) (by decide +kernel) rfl (show 4 ≤ _ from Nat.le_of_ble_eq_true rfl) rfl) ?_
    refine gm_sz (gm_p_load (pc := 57) (i := .aload_n 0) (sr := 2) (j := 0) (by decide +kernel) rfl rfl rfl) ?_
    refine gm_sz (fw_gr (pc := 58) (ix := 47) (ci := 9) (j := 0) (r := 216) (by decide +kernel) (tE215c hE) (by decide +kernel) (by decide +kernel) (tEr hE).2.1) ?_
    refine gm_sz (gm_p_ldcs (pc := 61) (i := .ldc 65) (ix := 65) (id := 3) (by decide +kernel) (Or.inl rfl) (by decide +kernel)) ?_
    refine gm_c_virt (k := 216) (ci := 8) (mj := 95) (ix := 67) (pc := 63) (as := [gm_vo 3]) (st := []) (d' := d - 1) (bc' := 0) (bs' := 0) (by decide +kernel) (by decide +kernel) (by decide +kernel) (by decide +kernel) (tE216c hE).1 (tE216c hE).2 (by decide) (by decide +kernel) (show 1 = gm_na 95 by decide +kernel) (fw_c1 fw_so) (show 2 ≤ gm_ml 95 by decide +kernel) (Nat.le_of_ble_eq_true rfl) (by omega) (Nat.zero_le _) (Nat.zero_le _) ?_
    refine tx_c95 (by omega) hE (by decide) (show tx_o 3 = wo_if by decide +kernel) g19 (fun j20 => ?_) (fun j20 => ?_)
    · show gm_Wp X LX d _ _ 79 66 _ [gm_vi 1] n K R _ Q
      have j20 : tx_is (M 2) e (tx_n (M 2) e b) wo_if := j20
      have g21 : 0 ≤ tx_n (M 2) e (tx_n (M 2) e b) ∧ tx_n (M 2) e (tx_n (M 2) e b) ≤ e := by have := tx_nb (f := M 2) (b := tx_n (M 2) e b) g19.2; omega
      refine fw_iffd (cc := .eq) (pc := 66) (off := 13) (by decide +kernel) (by decide) ⟨by decide, by decide⟩ (by decide) ?_
      refine gm_sz (gm_p_load (pc := 69) (i := .aload_n 0) (sr := 2) (j := 0) (by decide +kernel) rfl rfl rfl) ?_
      refine gm_sz (gm_p_const (pc := 70) (i := .iconst 0) (v := gm_vi 0) (by decide +kernel) (by decide +kernel)) ?_
      refine gm_c_virt (k := 215) (ci := 9) (mj := 96) (ix := 71) (pc := 71) (as := [gm_vi 0]) (st := []) (d' := d - 1) (bc' := 0) (bs' := 0) (by decide +kernel) (by decide +kernel) (by decide +kernel) (by decide +kernel) (tE215c hE).1 (tE215c hE).2 (by decide) (by decide +kernel) (show 1 = gm_na 96 by decide +kernel) (fw_c1 fw_si) (show 2 ≤ gm_ml 96 by decide +kernel) (Nat.le_of_ble_eq_true rfl) (by omega) (Nat.zero_le _) (Nat.zero_le _) ?_
      refine kx_cd hE _ _ _ _ _ _ _ _ (by omega) g21 (by have := tx_nw g19.2 j20; have : tx_n (M 2) e b + 2 ≤ tx_n (M 2) e (tx_n (M 2) e b) := this; omega) hok (fun u22 C23 k24 j25 => ?_) (fun u22 C23 k24 j25 => ?_)
      · show gm_Wp X LX d _ _ 79 74 _ [gm_vi 1] n K R _ Q
        have j25 : (g_cd (M 2) e 6 (tx_n (M 2) e (tx_n (M 2) e b))).1 = true := j25
        have g26 : 0 ≤ (g_cd (M 2) e 6 (tx_n (M 2) e (tx_n (M 2) e b))).2 ∧ (g_cd (M 2) e 6 (tx_n (M 2) e (tx_n (M 2) e b))).2 ≤ e := by have := g_cd_in (f := M 2) 6 (tx_n (M 2) e (tx_n (M 2) e b)) g21.1 g21.2; have := g21.1; omega
        refine fw_iftd (cc := .ne) (pc := 74) (off := 5) (by decide +kernel) (by decide) ⟨by decide, by decide⟩ (by decide) ?_
        refine gm_sz (gm_p_load (pc := 79) (i := .aload_n 0) (sr := 2) (j := 0) (by decide +kernel) rfl rfl rfl) ?_
        refine gm_sz (fw_gr (pc := 80) (ix := 14) (ci := 9) (j := 2) (r := 217) (by decide +kernel) (tE215c hE) (by decide +kernel) (by decide +kernel) (tEr hE).2.2.1) ?_
        refine gm_c_virt (k := 217) (ci := 2) (mj := 102) (ix := 75) (pc := 83) (as := []) (st := []) (d' := d - 1) (bc' := 0) (bs' := 0) (by decide +kernel) (by decide +kernel) (by decide +kernel) (by decide +kernel) (tE217c hE).1 (tE217c hE).2 (by decide) (by decide +kernel) (show 0 = gm_na 102 by decide +kernel) fw_c0 (show 1 ≤ gm_ml 102 by decide +kernel) (Nat.le_of_ble_eq_true rfl) (by omega) (Nat.zero_le _) (Nat.zero_le _) ?_
        refine tx_c102 hE ⟨by omega, by omega⟩ ?_
        show gm_Wp X LX d _ _ 79 86 _ [gm_vi (lc + 1 - 1)] n K R _ Q
        refine gm_sz (gm_p_stor (pc := 86) (i := .istore 4) (sr := 0) (j := 4) (by decide +kernel) rfl (show 5 ≤ _ from Nat.le_of_ble_eq_true rfl) rfl) ?_
        refine gm_sz (gm_p_load (pc := 88) (i := .aload_n 0) (sr := 2) (j := 0) (by decide +kernel) rfl rfl rfl) ?_
        refine gm_sz (fw_gr (pc := 89) (ix := 14) (ci := 9) (j := 2) (r := 217) (by decide +kernel) (tE215c hE) (by decide +kernel) (by decide +kernel) (tEr hE).2.2.1) ?_
        refine gm_sz (gm_p_load (pc := 92) (i := .iload 4) (sr := 0) (j := 4) (by decide +kernel) rfl rfl rfl) ?_
        refine gm_sz (gm_p_const (pc := 94) (i := .iconst 0) (v := gm_vi 0) (by decide +kernel) (by decide +kernel)) ?_
        refine gm_sz (gm_p_load (pc := 95) (i := .iload_n 1) (sr := 0) (j := 1) (by decide +kernel) rfl rfl rfl) ?_
        refine gm_c_virt (k := 217) (ci := 2) (mj := 45) (ix := 78) (pc := 96) (as := [gm_vi (lc + 1 - 1), gm_vi 0, gm_vi 2]) (st := []) (d' := d - 1) (bc' := 0) (bs' := 0) (by decide +kernel) (by decide +kernel) (by decide +kernel) (by decide +kernel) (tE217c hE).1 (tE217c hE).2 (by decide) (by decide +kernel) (show 3 = gm_na 45 by decide +kernel) (fw_c3 fw_si fw_si fw_si) (show 4 ≤ gm_ml 45 by decide +kernel) (Nat.le_of_ble_eq_true rfl) (by omega) (Nat.zero_le _) (Nat.zero_le _) ?_
        refine tx_c45 hE ⟨by omega, by omega⟩ ⟨by omega, by omega⟩ ⟨by omega, by omega⟩ ?_
        show gm_Wp X LX d _ _ 79 99 _ [] n K R _ Q
        refine gm_sz (gm_p_load (pc := 99) (i := .aload_n 0) (sr := 2) (j := 0) (by decide +kernel) rfl rfl rfl) ?_
        refine gm_sz (fw_gr (pc := 100) (ix := 14) (ci := 9) (j := 2) (r := 217) (by decide +kernel) (tE215c hE) (by decide +kernel) (by decide +kernel) (tEr hE).2.2.1) ?_
        refine gm_sz (gm_p_load (pc := 103) (i := .iload 4) (sr := 0) (j := 4) (by decide +kernel) rfl rfl rfl) ?_
        refine gm_sz (gm_p_const (pc := 105) (i := .iconst 1) (v := gm_vi 1) (by decide +kernel) (by decide +kernel)) ?_
        refine gm_sz (gm_p_load (pc := 106) (i := .iload_n 2) (sr := 0) (j := 2) (by decide +kernel) rfl rfl rfl) ?_
        refine gm_c_virt (k := 217) (ci := 2) (mj := 45) (ix := 78) (pc := 107) (as := [gm_vi (lc + 1 - 1), gm_vi 1, gm_vi 0]) (st := []) (d' := d - 1) (bc' := 0) (bs' := 0) (by decide +kernel) (by decide +kernel) (by decide +kernel) (by decide +kernel) (tE217c hE).1 (tE217c hE).2 (by decide) (by decide +kernel) (show 3 = gm_na 45 by decide +kernel) (fw_c3 fw_si fw_si fw_si) (show 4 ≤ gm_ml 45 by decide +kernel) (Nat.le_of_ble_eq_true rfl) (by omega) (Nat.zero_le _) (Nat.zero_le _) ?_
        refine tx_c45 hE ⟨by omega, by omega⟩ ⟨by omega, by omega⟩ ⟨by omega, by omega⟩ ?_
        show gm_Wp X LX d _ _ 79 110 _ [] n K R _ Q
        refine gm_sz (gm_p_load (pc := 110) (i := .aload_n 0) (sr := 2) (j := 0) (by decide +kernel) rfl rfl rfl) ?_
        refine gm_sz (fw_gr (pc := 111) (ix := 14) (ci := 9) (j := 2) (r := 217) (by decide +kernel) (tE215c hE) (by decide +kernel) (by decide +kernel) (tEr hE).2.2.1) ?_
        refine gm_sz (gm_p_load (pc := 114) (i := .iload 4) (sr := 0) (j := 4) (by decide +kernel) rfl rfl rfl) ?_
        refine gm_sz (gm_p_const (pc := 116) (i := .iconst 2) (v := gm_vi 2) (by decide +kernel) (by decide +kernel)) ?_
        refine gm_sz (gm_p_load (pc := 117) (i := .iload_n 3) (sr := 0) (j := 3) (by decide +kernel) rfl rfl rfl) ?_
        refine gm_c_virt (k := 217) (ci := 2) (mj := 45) (ix := 78) (pc := 118) (as := [gm_vi (lc + 1 - 1), gm_vi 2, gm_vi us]) (st := []) (d' := d - 1) (bc' := 0) (bs' := 0) (by decide +kernel) (by decide +kernel) (by decide +kernel) (by decide +kernel) (tE217c hE).1 (tE217c hE).2 (by decide) (by decide +kernel) (show 3 = gm_na 45 by decide +kernel) (fw_c3 fw_si fw_si fw_si) (show 4 ≤ gm_ml 45 by decide +kernel) (Nat.le_of_ble_eq_true rfl) (by omega) (Nat.zero_le _) (Nat.zero_le _) ?_
        refine tx_c45 hE ⟨by omega, by omega⟩ ⟨by omega, by omega⟩ ⟨by omega, by omega⟩ ?_
        show gm_Wp X LX d _ _ 79 121 _ [] n K R _ Q
        refine gm_sz (gm_p_load (pc := 121) (i := .aload_n 0) (sr := 2) (j := 0) (by decide +kernel) rfl rfl rfl) ?_
        refine gm_sz (fw_gr (pc := 122) (ix := 14) (ci := 9) (j := 2) (r := 217) (by decide +kernel) (tE215c hE) (by decide +kernel) (by decide +kernel) (tEr hE).2.2.1) ?_
        refine gm_sz (gm_p_load (pc := 125) (i := .iload 4) (sr := 0) (j := 4) (by decide +kernel) rfl rfl rfl) ?_
        refine gm_sz (gm_p_const (pc := 127) (i := .iconst 3) (v := gm_vi 3) (by decide +kernel) (by decide +kernel)) ?_
        refine gm_sz (gm_p_load (pc := 128) (i := .aload_n 0) (sr := 2) (j := 0) (by decide +kernel) rfl rfl rfl) ?_
        refine gm_sz (fw_gi (pc := 129) (ix := 24) (ci := 9) (j := 4) (x := u22) (by decide +kernel) (tE215c hE) (by decide +kernel) (by decide +kernel) rfl) ?_
        refine gm_c_virt (k := 217) (ci := 2) (mj := 45) (ix := 78) (pc := 132) (as := [gm_vi (lc + 1 - 1), gm_vi 3, gm_vi u22]) (st := []) (d' := d - 1) (bc' := 0) (bs' := 0) (by decide +kernel) (by decide +kernel) (by decide +kernel) (by decide +kernel) (tE217c hE).1 (tE217c hE).2 (by decide) (by decide +kernel) (show 3 = gm_na 45 by decide +kernel) (fw_c3 fw_si fw_si fw_si) (show 4 ≤ gm_ml 45 by decide +kernel) (Nat.le_of_ble_eq_true rfl) (by omega) (Nat.zero_le _) (Nat.zero_le _) ?_
        refine tx_c45 hE ⟨by omega, by omega⟩ ⟨by omega, by omega⟩ ⟨by omega, by omega⟩ ?_
        show gm_Wp X LX d _ _ 79 135 _ [] n K R _ Q
        refine gm_sz (gm_p_const (pc := 135) (i := .iconst 1) (v := gm_vi 1) (by decide +kernel) (by decide +kernel)) ?_
        have nfi := nf9
        rw [s_f1 j20] at nfi
        rw [nfi, g_n1 j1, g_f1 j20] at h1
        have k9 := k24
        have ce := ctl_E hok k9
        refine gm_r_int (pc := 136) (by decide +kernel) (Or.inr ⟨(by decide +kernel), Or.inr rfl⟩) (h1 _ (dln D (lc + 1 - 1) 2 (0) us _) _ _ ⟨k9.1, ⟨⟨k9.2.1.1.1, by omega⟩, fun j g1 g2 => ?_, k9.2.1.2.2⟩, k9.2.2⟩ ?_ ?_ j25)
        · have q0 := k9.2.1.2.1 j g1 g2
          have q1 := k9.2.1.1.1
          show 0 ≤ (if _ then _ else if _ then _ else if _ then _ else if _ then _ else D j) ∧ (if _ then _ else if _ then _ else if _ then _ else if _ then _ else D j) ≤ 400
          repeat' split
          all_goals omega
        · rw [show lc + 1 - 1 = lc by omega]
          exact cdl_add hdl hls ⟨hu0.1, by have := ce.1; omega⟩ (ctl_C hok k9) ⟨by omega, by omega⟩ ⟨by omega, by omega⟩ (fun hn => by cases hn) (fun t9 ht => by cases ht; exact ce)
        · have o9 := (s_cd_ok (f := M 2) 6 _ (by omega) (by omega) j25).1
          have ce1 : _ = us + ((scds (s_cd (M 2) e 6 (tx_n (M 2) e (tx_n (M 2) e b)))).length : Int) := ce.1
          have nw := tx_nw (by omega) j20
          have nw : tx_n (M 2) e b + 2 ≤ tx_n (M 2) e (tx_n (M 2) e b) := nw
          omega
      · show gm_Wp X LX d _ _ 79 74 _ [gm_vi 0] n K R _ Q
        have j25 : ¬ (g_cd (M 2) e 6 (tx_n (M 2) e (tx_n (M 2) e b))).1 = true := j25
        have g26 : 0 ≤ (g_cd (M 2) e 6 (tx_n (M 2) e (tx_n (M 2) e b))).2 ∧ (g_cd (M 2) e 6 (tx_n (M 2) e (tx_n (M 2) e b))).2 ≤ e := by have := g_cd_in (f := M 2) 6 (tx_n (M 2) e (tx_n (M 2) e b)) g21.1 g21.2; have := g21.1; omega
        refine fw_iffd (cc := .ne) (pc := 74) (off := 5) (by decide +kernel) (by decide) ⟨by decide, by decide⟩ (by decide) ?_
        refine gm_sz (gm_p_const (pc := 77) (i := .iconst 0) (v := gm_vi 0) (by decide +kernel) (by decide +kernel)) ?_
        rw [g_n1 j1, g_f1 j20] at h0
        exact gm_r_int (pc := 78) (by decide +kernel) (Or.inr ⟨(by decide +kernel), Or.inl rfl⟩) (h0 _ _ _ k24 j25)
    · show gm_Wp X LX d _ _ 79 66 _ [gm_vi 0] n K R _ Q
      have j20 : ¬ tx_is (M 2) e (tx_n (M 2) e b) wo_if := j20
      refine fw_iftd (cc := .eq) (pc := 66) (off := 13) (by decide +kernel) (by decide) ⟨by decide, by decide⟩ (by decide) ?_
      refine gm_sz (gm_p_load (pc := 79) (i := .aload_n 0) (sr := 2) (j := 0) (by decide +kernel) rfl rfl rfl) ?_
      refine gm_sz (fw_gr (pc := 80) (ix := 14) (ci := 9) (j := 2) (r := 217) (by decide +kernel) (tE215c hE) (by decide +kernel) (by decide +kernel) (tEr hE).2.2.1) ?_
      refine gm_c_virt (k := 217) (ci := 2) (mj := 102) (ix := 75) (pc := 83) (as := []) (st := []) (d' := d - 1) (bc' := 0) (bs' := 0) (by decide +kernel) (by decide +kernel) (by decide +kernel) (by decide +kernel) (tE217c hE).1 (tE217c hE).2 (by decide) (by decide +kernel) (show 0 = gm_na 102 by decide +kernel) fw_c0 (show 1 ≤ gm_ml 102 by decide +kernel) (Nat.le_of_ble_eq_true rfl) (by omega) (Nat.zero_le _) (Nat.zero_le _) ?_
      refine tx_c102 hE ⟨by omega, by omega⟩ ?_
      show gm_Wp X LX d _ _ 79 86 _ [gm_vi (lc + 1 - 1)] n K R _ Q
      refine gm_sz (gm_p_stor (pc := 86) (i := .istore 4) (sr := 0) (j := 4) (by decide +kernel) rfl (show 5 ≤ _ from Nat.le_of_ble_eq_true rfl) rfl) ?_
      refine gm_sz (gm_p_load (pc := 88) (i := .aload_n 0) (sr := 2) (j := 0) (by decide +kernel) rfl rfl rfl) ?_
      refine gm_sz (fw_gr (pc := 89) (ix := 14) (ci := 9) (j := 2) (r := 217) (by decide +kernel) (tE215c hE) (by decide +kernel) (by decide +kernel) (tEr hE).2.2.1) ?_
      refine gm_sz (gm_p_load (pc := 92) (i := .iload 4) (sr := 0) (j := 4) (by decide +kernel) rfl rfl rfl) ?_
      refine gm_sz (gm_p_const (pc := 94) (i := .iconst 0) (v := gm_vi 0) (by decide +kernel) (by decide +kernel)) ?_
      refine gm_sz (gm_p_load (pc := 95) (i := .iload_n 1) (sr := 0) (j := 1) (by decide +kernel) rfl rfl rfl) ?_
      refine gm_c_virt (k := 217) (ci := 2) (mj := 45) (ix := 78) (pc := 96) (as := [gm_vi (lc + 1 - 1), gm_vi 0, gm_vi 2]) (st := []) (d' := d - 1) (bc' := 0) (bs' := 0) (by decide +kernel) (by decide +kernel) (by decide +kernel) (by decide +kernel) (tE217c hE).1 (tE217c hE).2 (by decide) (by decide +kernel) (show 3 = gm_na 45 by decide +kernel) (fw_c3 fw_si fw_si fw_si) (show 4 ≤ gm_ml 45 by decide +kernel) (Nat.le_of_ble_eq_true rfl) (by omega) (Nat.zero_le _) (Nat.zero_le _) ?_
      refine tx_c45 hE ⟨by omega, by omega⟩ ⟨by omega, by omega⟩ ⟨by omega, by omega⟩ ?_
      show gm_Wp X LX d _ _ 79 99 _ [] n K R _ Q
      refine gm_sz (gm_p_load (pc := 99) (i := .aload_n 0) (sr := 2) (j := 0) (by decide +kernel) rfl rfl rfl) ?_
      refine gm_sz (fw_gr (pc := 100) (ix := 14) (ci := 9) (j := 2) (r := 217) (by decide +kernel) (tE215c hE) (by decide +kernel) (by decide +kernel) (tEr hE).2.2.1) ?_
      refine gm_sz (gm_p_load (pc := 103) (i := .iload 4) (sr := 0) (j := 4) (by decide +kernel) rfl rfl rfl) ?_
      refine gm_sz (gm_p_const (pc := 105) (i := .iconst 1) (v := gm_vi 1) (by decide +kernel) (by decide +kernel)) ?_
      refine gm_sz (gm_p_load (pc := 106) (i := .iload_n 2) (sr := 0) (j := 2) (by decide +kernel) rfl rfl rfl) ?_
      refine gm_c_virt (k := 217) (ci := 2) (mj := 45) (ix := 78) (pc := 107) (as := [gm_vi (lc + 1 - 1), gm_vi 1, gm_vi 0]) (st := []) (d' := d - 1) (bc' := 0) (bs' := 0) (by decide +kernel) (by decide +kernel) (by decide +kernel) (by decide +kernel) (tE217c hE).1 (tE217c hE).2 (by decide) (by decide +kernel) (show 3 = gm_na 45 by decide +kernel) (fw_c3 fw_si fw_si fw_si) (show 4 ≤ gm_ml 45 by decide +kernel) (Nat.le_of_ble_eq_true rfl) (by omega) (Nat.zero_le _) (Nat.zero_le _) ?_
      refine tx_c45 hE ⟨by omega, by omega⟩ ⟨by omega, by omega⟩ ⟨by omega, by omega⟩ ?_
      show gm_Wp X LX d _ _ 79 110 _ [] n K R _ Q
      refine gm_sz (gm_p_load (pc := 110) (i := .aload_n 0) (sr := 2) (j := 0) (by decide +kernel) rfl rfl rfl) ?_
      refine gm_sz (fw_gr (pc := 111) (ix := 14) (ci := 9) (j := 2) (r := 217) (by decide +kernel) (tE215c hE) (by decide +kernel) (by decide +kernel) (tEr hE).2.2.1) ?_
      refine gm_sz (gm_p_load (pc := 114) (i := .iload 4) (sr := 0) (j := 4) (by decide +kernel) rfl rfl rfl) ?_
      refine gm_sz (gm_p_const (pc := 116) (i := .iconst 2) (v := gm_vi 2) (by decide +kernel) (by decide +kernel)) ?_
      refine gm_sz (gm_p_load (pc := 117) (i := .iload_n 3) (sr := 0) (j := 3) (by decide +kernel) rfl rfl rfl) ?_
      refine gm_c_virt (k := 217) (ci := 2) (mj := 45) (ix := 78) (pc := 118) (as := [gm_vi (lc + 1 - 1), gm_vi 2, gm_vi us]) (st := []) (d' := d - 1) (bc' := 0) (bs' := 0) (by decide +kernel) (by decide +kernel) (by decide +kernel) (by decide +kernel) (tE217c hE).1 (tE217c hE).2 (by decide) (by decide +kernel) (show 3 = gm_na 45 by decide +kernel) (fw_c3 fw_si fw_si fw_si) (show 4 ≤ gm_ml 45 by decide +kernel) (Nat.le_of_ble_eq_true rfl) (by omega) (Nat.zero_le _) (Nat.zero_le _) ?_
      refine tx_c45 hE ⟨by omega, by omega⟩ ⟨by omega, by omega⟩ ⟨by omega, by omega⟩ ?_
      show gm_Wp X LX d _ _ 79 121 _ [] n K R _ Q
      refine gm_sz (gm_p_load (pc := 121) (i := .aload_n 0) (sr := 2) (j := 0) (by decide +kernel) rfl rfl rfl) ?_
      refine gm_sz (fw_gr (pc := 122) (ix := 14) (ci := 9) (j := 2) (r := 217) (by decide +kernel) (tE215c hE) (by decide +kernel) (by decide +kernel) (tEr hE).2.2.1) ?_
      refine gm_sz (gm_p_load (pc := 125) (i := .iload 4) (sr := 0) (j := 4) (by decide +kernel) rfl rfl rfl) ?_
      refine gm_sz (gm_p_const (pc := 127) (i := .iconst 3) (v := gm_vi 3) (by decide +kernel) (by decide +kernel)) ?_
      refine gm_sz (gm_p_load (pc := 128) (i := .aload_n 0) (sr := 2) (j := 0) (by decide +kernel) rfl rfl rfl) ?_
      refine gm_sz (fw_gi (pc := 129) (ix := 24) (ci := 9) (j := 4) (x := us) (by decide +kernel) (tE215c hE) (by decide +kernel) (by decide +kernel) rfl) ?_
      refine gm_c_virt (k := 217) (ci := 2) (mj := 45) (ix := 78) (pc := 132) (as := [gm_vi (lc + 1 - 1), gm_vi 3, gm_vi us]) (st := []) (d' := d - 1) (bc' := 0) (bs' := 0) (by decide +kernel) (by decide +kernel) (by decide +kernel) (by decide +kernel) (tE217c hE).1 (tE217c hE).2 (by decide) (by decide +kernel) (show 3 = gm_na 45 by decide +kernel) (fw_c3 fw_si fw_si fw_si) (show 4 ≤ gm_ml 45 by decide +kernel) (Nat.le_of_ble_eq_true rfl) (by omega) (Nat.zero_le _) (Nat.zero_le _) ?_
      refine tx_c45 hE ⟨by omega, by omega⟩ ⟨by omega, by omega⟩ ⟨by omega, by omega⟩ ?_
      show gm_Wp X LX d _ _ 79 135 _ [] n K R _ Q
      refine gm_sz (gm_p_const (pc := 135) (i := .iconst 1) (v := gm_vi 1) (by decide +kernel) (by decide +kernel)) ?_
      have nfi := nf9
      rw [s_f0 j20] at nfi
      rw [nfi, g_n1 j1, g_f0 j20] at h1
      refine gm_r_int (pc := 136) (by decide +kernel) (Or.inr ⟨(by decide +kernel), Or.inr rfl⟩) (h1 _ (dln D (lc + 1 - 1) 2 (0) us _) _ _ ⟨hok.1, ⟨⟨hok.2.1.1.1, by omega⟩, fun j g1 g2 => ?_, hok.2.1.2.2⟩, hok.2.2⟩ ?_ ?_ rfl)
      · have q0 := hok.2.1.2.1 j g1 g2
        have q1 := hok.2.1.1.1
        show 0 ≤ (if _ then _ else if _ then _ else if _ then _ else if _ then _ else D j) ∧ (if _ then _ else if _ then _ else if _ then _ else if _ then _ else D j) ≤ 400
        repeat' split
        all_goals omega
      · rw [show lc + 1 - 1 = lc by omega]
        exact cdl_add hdl hls ⟨hu0.1, Int.le_refl _⟩ (fun _ _ _ => rfl) ⟨by omega, by omega⟩ ⟨by omega, by omega⟩ (fun _ => rfl) (fun t9 ht => by cases ht)
      · show us ≤ tx_n (M 2) e b
        omega
  · show gm_Wp X LX d _ _ 79 4 _ [gm_vi (-1)] n K R _ Q
    have j1 : ¬ (tx_is (M 2) e b wo_fast ∨ tx_is (M 2) e b wo_slow) := j1
    have j5 : ¬ tx_is (M 2) e b wo_open := j5
    refine gm_sz (gm_p_stor (pc := 4) (i := .istore_n 1) (sr := 0) (j := 1) (by decide +kernel) rfl (show 2 ≤ _ from Nat.le_of_ble_eq_true rfl) rfl) ?_
    refine gm_sz (gm_p_load (pc := 5) (i := .iload_n 1) (sr := 0) (j := 1) (by decide +kernel) rfl rfl rfl) ?_
    refine gm_sz (gm_p_const (pc := 6) (i := .iconst (-1)) (v := gm_vi (-1)) (by decide +kernel) (by decide +kernel)) ?_
    refine fw_icfd (cc := .ne) (pc := 7) (off := 11) (by decide +kernel) (by decide) ⟨by decide, by decide⟩ ⟨by decide, by decide⟩ (by decide) ?_
    refine gm_sz (gm_p_load (pc := 10) (i := .aload_n 0) (sr := 2) (j := 0) (by decide +kernel) rfl rfl rfl) ?_
    refine gm_sz (fw_gr (pc := 11) (ix := 47) (ci := 9) (j := 0) (r := 216) (by decide +kernel) (tE215c hE) (by decide +kernel) (by decide +kernel) (tEr hE).2.1) ?_
    refine gm_c_virt (k := 216) (ci := 8) (mj := 93) (ix := 51) (pc := 14) (as := []) (st := []) (d' := d - 1) (bc' := 0) (bs' := 0) (by decide +kernel) (by decide +kernel) (by decide +kernel) (by decide +kernel) (tE216c hE).1 (tE216c hE).2 (by decide) (by decide +kernel) (show 0 = gm_na 93 by decide +kernel) fw_c0 (show 1 ≤ gm_ml 93 by decide +kernel) (Nat.le_of_ble_eq_true rfl) (by omega) (Nat.zero_le _) (Nat.zero_le _) ?_
    refine tx_c93 hE hb ?_
    show gm_Wp X LX d _ _ 79 17 _ [gm_vi 0] n K R _ Q
    rw [g_n0 j1 j5] at h0
    exact gm_r_int (pc := 17) (by decide +kernel) (Or.inr ⟨(by decide +kernel), Or.inl rfl⟩) (h0 _ _ _ hok.2.1 (fun h => by cases h))

theorem kx_l72 (hd : 24 ≤ d) (hE : tx_E n K R M e) (z : Int) : ∀ (t : Nat) (i b us : Int) (D C : Int → Int) (Lc : List Int) (ls : List lln), i + t = 12 → 0 ≤ i → 0 ≤ b ∧ b ≤ e → us ≤ b → i = (ls.length : Int) → ctl Lc us i D C → cdl ls us D C → (∀ us2 D2 C2 b2 Lc2, ctl Lc2 us2 (g_txt (M 2) e t b).2 D2 C2 → cdl (ls ++ s_txt (M 2) e t b) us2 D2 C2 → (g_txt (M 2) e t b).1 = true → Q (.inl (some (gm_vi (-1)))) n K R (ct M e b2 (-1) us2 (g_txt (M 2) e t b).2 D2 C2)) → (∀ us2 lc2 D2 C2 b2, ¬ (g_txt (M 2) e t b).1 = true → Q (.inl (some (gm_vi (g_txt (M 2) e t b).2))) n K R (ct M e b2 (g_txt (M 2) e t b).2 us2 lc2 D2 C2)) → gm_Wp X LX d bc bs 72 29 [some (gm_vr 215), some (gm_vi z), some (gm_vi i)] [] n K R (ct M e b (-1) us i D C) Q := by
  obtain ⟨-, he0, he4⟩ := tEe hE
  intro t
  induction t with
  | zero =>
    intro i b us D C Lc ls hit hi0 hb hu hls hok hdl h1 h0
    refine gm_sz (gm_p_load (pc := 29) (i := .iload_n 2) (sr := 0) (j := 2) (by decide +kernel) rfl rfl rfl) ?_
    refine gm_sz (gm_p_load (pc := 30) (i := .aload_n 0) (sr := 2) (j := 0) (by decide +kernel) rfl rfl rfl) ?_
    refine gm_sz (fw_gi (pc := 31) (ix := 20) (ci := 9) (j := 1) (x := 12) (by decide +kernel) (tE215c hE) (by decide +kernel) (by decide +kernel) (tEm hE).2.2.2) ?_
    refine fw_ict (cc := .ge) (pc := 34) (off := 49) (by decide +kernel) (by decide) ⟨by omega, by omega⟩ ⟨by decide, by decide⟩ (show 12 ≤ i by omega) ?_
    refine gm_sz (gm_p_load (pc := 83) (i := .aload_n 0) (sr := 2) (j := 0) (by decide +kernel) rfl rfl rfl) ?_
    refine gm_sz (fw_gr (pc := 84) (ix := 14) (ci := 9) (j := 0) (r := 216) (by decide +kernel) (tE215c hE) (by decide +kernel) (by decide +kernel) (tEr hE).2.1) ?_
    refine gm_c_virt (k := 216) (ci := 8) (mj := 93) (ix := 46) (pc := 87) (as := []) (st := []) (d' := d - 1) (bc' := 0) (bs' := 0) (by decide +kernel) (by decide +kernel) (by decide +kernel) (by decide +kernel) (tE216c hE).1 (tE216c hE).2 (by decide) (by decide +kernel) (show 0 = gm_na 93 by decide +kernel) fw_c0 (show 1 ≤ gm_ml 93 by decide +kernel) (Nat.le_of_ble_eq_true rfl) (by omega) (Nat.zero_le _) (Nat.zero_le _) ?_
    refine tx_c93 hE hb ?_
    show gm_Wp X LX d _ _ 72 90 _ [gm_vi 0] n K R _ Q
    refine gm_sz (gm_p_pop (pc := 90) (by decide +kernel) fw_si) ?_
    refine gm_sz (gm_p_load (pc := 91) (i := .aload_n 0) (sr := 2) (j := 0) (by decide +kernel) rfl rfl rfl) ?_
    refine gm_sz (fw_gr (pc := 92) (ix := 14) (ci := 9) (j := 0) (r := 216) (by decide +kernel) (tE215c hE) (by decide +kernel) (by decide +kernel) (tEr hE).2.1) ?_
    refine gm_c_virt (k := 216) (ci := 8) (mj := 121) (ix := 42) (pc := 95) (as := []) (st := []) (d' := d - 1) (bc' := 0) (bs' := 0) (by decide +kernel) (by decide +kernel) (by decide +kernel) (by decide +kernel) (tE216c hE).1 (tE216c hE).2 (by decide) (by decide +kernel) (show 0 = gm_na 121 by decide +kernel) fw_c0 (show 1 ≤ gm_ml 121 by decide +kernel) (Nat.le_of_ble_eq_true rfl) (by omega) (Nat.zero_le _) (Nat.zero_le _) ?_
    refine tx_c121 hE ?_
    show gm_Wp X LX d _ _ 72 98 _ [gm_vi b] n K R _ Q
    exact gm_r_int (pc := 98) (by decide +kernel) (Or.inl (by decide +kernel)) (h0 _ _ _ _ _ (fun h => by cases h))
  | succ t ih =>
    intro i b us D C Lc ls hit hi0 hb hu hls hok hdl h1 h0
    have hkk := tx_kc (f := M 2) (e := e) (b := (g_line (M 2) e b).2) (fun h => tEb hE (by have := (g_line_in (f := M 2) hb.1 hb.2).1; omega) (by omega))
    refine gm_sz (gm_p_load (pc := 29) (i := .iload_n 2) (sr := 0) (j := 2) (by decide +kernel) rfl rfl rfl) ?_
    refine gm_sz (gm_p_load (pc := 30) (i := .aload_n 0) (sr := 2) (j := 0) (by decide +kernel) rfl rfl rfl) ?_
    refine gm_sz (fw_gi (pc := 31) (ix := 20) (ci := 9) (j := 1) (x := 12) (by decide +kernel) (tE215c hE) (by decide +kernel) (by decide +kernel) (tEm hE).2.2.2) ?_
    refine fw_icf (cc := .ge) (pc := 34) (off := 49) (by decide +kernel) (by decide) ⟨by omega, by omega⟩ ⟨by decide, by decide⟩ (show ¬ 12 ≤ i by omega) ?_
    refine gm_sz (gm_p_load (pc := 37) (i := .aload_n 0) (sr := 2) (j := 0) (by decide +kernel) rfl rfl rfl) ?_
    refine gm_c_up (k := 215) (ci := 9) (mj := 79) (ix := 34) (pc := 38) (as := []) (st := []) (d' := d - 1) (bc' := 0) (bs' := 0) (by decide +kernel) (by decide +kernel) (by decide +kernel) (tE215c hE).1 (tE215c hE).2 (show 0 = gm_na 79 by decide +kernel) fw_c0 (show 1 ≤ gm_ml 79 by decide +kernel) (Nat.le_of_ble_eq_true rfl) (by omega) (Nat.zero_le _) (Nat.zero_le _) ?_
    refine kx_c79 hE _ _ _ _ _ _ _ _ _ _ _ (by omega) hb hu (by omega) hls hok hdl (fun u1 D2 C3 Lc3 k4 kd ku j5 => ?_) (fun u1 D2 C3 k4 j5 => ?_)
    · show gm_Wp X LX d _ _ 72 41 _ [gm_vi 1] n K R _ Q
      have j5 : (g_line (M 2) e b).1 = true := j5
      have g6 : 0 ≤ (g_line (M 2) e b).2 ∧ (g_line (M 2) e b).2 ≤ e := by have := g_line_in (f := M 2) hb.1 hb.2; have := hb.1; omega
      refine fw_iffd (cc := .eq) (pc := 41) (off := 28) (by decide +kernel) (by decide) ⟨by decide, by decide⟩ (by decide) ?_
      refine gm_sz (gm_p_load (pc := 44) (i := .aload_n 0) (sr := 2) (j := 0) (by decide +kernel) rfl rfl rfl) ?_
      refine gm_sz (fw_gr (pc := 45) (ix := 14) (ci := 9) (j := 0) (r := 216) (by decide +kernel) (tE215c hE) (by decide +kernel) (by decide +kernel) (tEr hE).2.1) ?_
      refine gm_sz (fw_gi (pc := 48) (ix := 31) (ci := 8) (j := 6) (x := tx_k (M 2) e ((g_line (M 2) e b).2)) (by decide +kernel) (tE216c hE) (by decide +kernel) (by decide +kernel) rfl) ?_
      refine gm_sz (gm_p_const (pc := 51) (i := .sipush 256) (v := gm_vi 256) (by decide +kernel) (by decide +kernel)) ?_
      refine fw_ic (cc := .eq) (pc := 54) (off := 15) (by decide +kernel) (by decide) ⟨by omega, by omega⟩ ⟨by decide, by decide⟩ (fun j7 => ?_) (fun j7 => ?_)
      · have j7 : (tx_k (M 2) e ((g_line (M 2) e b).2)) = 256 := j7
        refine gm_sz (gm_p_load (pc := 69) (i := .aload_n 0) (sr := 2) (j := 0) (by decide +kernel) rfl rfl rfl) ?_
        refine gm_sz (fw_gr (pc := 70) (ix := 14) (ci := 9) (j := 0) (r := 216) (by decide +kernel) (tE215c hE) (by decide +kernel) (by decide +kernel) (tEr hE).2.1) ?_
        refine gm_c_virt (k := 216) (ci := 8) (mj := 121) (ix := 42) (pc := 73) (as := []) (st := []) (d' := d - 1) (bc' := 0) (bs' := 0) (by decide +kernel) (by decide +kernel) (by decide +kernel) (by decide +kernel) (tE216c hE).1 (tE216c hE).2 (by decide) (by decide +kernel) (show 0 = gm_na 121 by decide +kernel) fw_c0 (show 1 ≤ gm_ml 121 by decide +kernel) (Nat.le_of_ble_eq_true rfl) (by omega) (Nat.zero_le _) (Nat.zero_le _) ?_
        refine tx_c121 hE ?_
        show gm_Wp X LX d _ _ 72 76 _ [gm_vi (-1)] n K R _ Q
        rw [g_t1 j5 j7, s_t1 j7, show ((true, 12 - (t : Int)) : Bool × Int).2 = i + 1 by show 12 - (t : Int) = i + 1; omega] at h1
        exact gm_r_int (pc := 76) (by decide +kernel) (Or.inl (by decide +kernel)) (h1 _ _ _ _ _ k4 kd rfl)
      · have j7 : ¬ (tx_k (M 2) e ((g_line (M 2) e b).2)) = 256 := j7
        refine gm_sz (gm_p_load (pc := 57) (i := .aload_n 0) (sr := 2) (j := 0) (by decide +kernel) rfl rfl rfl) ?_
        refine gm_sz (fw_gr (pc := 58) (ix := 14) (ci := 9) (j := 0) (r := 216) (by decide +kernel) (tE215c hE) (by decide +kernel) (by decide +kernel) (tEr hE).2.1) ?_
        refine gm_sz (gm_p_const (pc := 61) (i := .bipush 59) (v := gm_vi 59) (by decide +kernel) (by decide +kernel)) ?_
        refine gm_c_virt (k := 216) (ci := 8) (mj := 98) (ix := 38) (pc := 63) (as := [gm_vi 59]) (st := []) (d' := d - 1) (bc' := 0) (bs' := 0) (by decide +kernel) (by decide +kernel) (by decide +kernel) (by decide +kernel) (tE216c hE).1 (tE216c hE).2 (by decide) (by decide +kernel) (show 1 = gm_na 98 by decide +kernel) (fw_c1 fw_si) (show 2 ≤ gm_ml 98 by decide +kernel) (Nat.le_of_ble_eq_true rfl) (by omega) (Nat.zero_le _) (Nat.zero_le _) ?_
        refine tx_c98 (by omega) hE ⟨by decide, by decide⟩ g6 (fun j8 => ?_) (fun j8 => ?_)
        · show gm_Wp X LX d _ _ 72 66 _ [gm_vi 1] n K R _ Q
          have j8 : tx_k (M 2) e ((g_line (M 2) e b).2) = 59 := j8
          have g9 : 0 ≤ tx_n (M 2) e ((g_line (M 2) e b).2) ∧ tx_n (M 2) e ((g_line (M 2) e b).2) ≤ e := by have := tx_nb (f := M 2) (b := (g_line (M 2) e b).2) g6.2; omega
          refine fw_iftd (cc := .ne) (pc := 66) (off := 11) (by decide +kernel) (by decide) ⟨by decide, by decide⟩ (by decide) ?_
          refine gm_sz (gm_p_iinc (pc := 77) (j := 2) (z := 1) (by decide +kernel) rfl) ?_
          refine gm_sz (gm_p_goto (pc := 80) (off := (-51)) (by decide +kernel) (by decide)) ?_
          rw [g_t3 j5 j7 j8] at h1 h0
          rw [s_t3 j7 j8, List.append_cons] at h1
          have nb := tx_nb (f := M 2) (e := e) (b := (g_line (M 2) e b).2) g6.2
          exact gm_Wp_wk (d' := d) (bc' := bc) (bs' := bs) (Nat.le_refl _) (by omega) (by omega) (ih (i + 1) _ _ _ _ _ _ (by omega) (by omega) g9 (by omega) (by rw [List.length_append]; show i + 1 = ((ls.length + 1 : Nat) : Int); omega) k4 kd h1 h0)
        · show gm_Wp X LX d _ _ 72 66 _ [gm_vi 0] n K R _ Q
          have j8 : ¬ tx_k (M 2) e ((g_line (M 2) e b).2) = 59 := j8
          refine fw_iffd (cc := .ne) (pc := 66) (off := 11) (by decide +kernel) (by decide) ⟨by decide, by decide⟩ (by decide) ?_
          refine gm_sz (gm_p_load (pc := 69) (i := .aload_n 0) (sr := 2) (j := 0) (by decide +kernel) rfl rfl rfl) ?_
          refine gm_sz (fw_gr (pc := 70) (ix := 14) (ci := 9) (j := 0) (r := 216) (by decide +kernel) (tE215c hE) (by decide +kernel) (by decide +kernel) (tEr hE).2.1) ?_
          refine gm_c_virt (k := 216) (ci := 8) (mj := 121) (ix := 42) (pc := 73) (as := []) (st := []) (d' := d - 1) (bc' := 0) (bs' := 0) (by decide +kernel) (by decide +kernel) (by decide +kernel) (by decide +kernel) (tE216c hE).1 (tE216c hE).2 (by decide) (by decide +kernel) (show 0 = gm_na 121 by decide +kernel) fw_c0 (show 1 ≤ gm_ml 121 by decide +kernel) (Nat.le_of_ble_eq_true rfl) (by omega) (Nat.zero_le _) (Nat.zero_le _) ?_
          refine tx_c121 hE ?_
          show gm_Wp X LX d _ _ 72 76 _ [gm_vi ((g_line (M 2) e b).2)] n K R _ Q
          rw [g_t2 j5 j7 j8] at h0
          exact gm_r_int (pc := 76) (by decide +kernel) (Or.inl (by decide +kernel)) (h0 _ _ _ _ _ (fun h => by cases h))
    · show gm_Wp X LX d _ _ 72 41 _ [gm_vi 0] n K R _ Q
      have j5 : ¬ (g_line (M 2) e b).1 = true := j5
      have g6 : 0 ≤ (g_line (M 2) e b).2 ∧ (g_line (M 2) e b).2 ≤ e := by have := g_line_in (f := M 2) hb.1 hb.2; have := hb.1; omega
      refine fw_iftd (cc := .eq) (pc := 41) (off := 28) (by decide +kernel) (by decide) ⟨by decide, by decide⟩ (by decide) ?_
      refine gm_sz (gm_p_load (pc := 69) (i := .aload_n 0) (sr := 2) (j := 0) (by decide +kernel) rfl rfl rfl) ?_
      refine gm_sz (fw_gr (pc := 70) (ix := 14) (ci := 9) (j := 0) (r := 216) (by decide +kernel) (tE215c hE) (by decide +kernel) (by decide +kernel) (tEr hE).2.1) ?_
      refine gm_c_virt (k := 216) (ci := 8) (mj := 121) (ix := 42) (pc := 73) (as := []) (st := []) (d' := d - 1) (bc' := 0) (bs' := 0) (by decide +kernel) (by decide +kernel) (by decide +kernel) (by decide +kernel) (tE216c hE).1 (tE216c hE).2 (by decide) (by decide +kernel) (show 0 = gm_na 121 by decide +kernel) fw_c0 (show 1 ≤ gm_ml 121 by decide +kernel) (Nat.le_of_ble_eq_true rfl) (by omega) (Nat.zero_le _) (Nat.zero_le _) ?_
      refine tx_c121 hE ?_
      show gm_Wp X LX d _ _ 72 76 _ [gm_vi ((g_line (M 2) e b).2)] n K R _ Q
      rw [g_t0 j5] at h0
      exact gm_r_int (pc := 76) (by decide +kernel) (Or.inl (by decide +kernel)) (h0 _ _ _ _ _ (fun h => by cases h))

end KX
end
/-! 7a32.k1ccy -/
section
/-! THE CLASS'S readText OF A LAW, with what it lays down (laid by wip/core/k1c.py out of p5's texts). -/
section KY
variable {X : Int → Int} {LX d bc bs n : Nat} {K : gm_K} {R : gm_R} {M : gm_M} {Q : gm_Q} {e e0 b w us lc x p k v : Int} {D C : Int → Int}
/-- the law stands read: lines in 218, codes in 219 -/
noncomputable def ctw (ls : List lln) (M2 : gm_M) : Prop := ∃ (Lc : List Int), ctl Lc (M2 215 4) (M2 217 3) (M2 218) (M2 219) ∧ cdl ls (M2 215 4) (M2 218) (M2 219)
theorem ctw_ct {ls : List lln} {Lc : List Int} {M1 : gm_M} {D2 C2 : Int → Int} (h : ctl Lc us lc D2 C2) (h2 : cdl ls us D2 C2) : ctw ls (ct M1 e b w us lc D2 C2) := ⟨Lc, h, h2⟩
end KY
end
/-! 7a33.k2rl -/
section
/-! THE REFERENCE'S READER OF A LAW, with the steps that it lays down (laid by wip/core/k2.py out of p5's texts). -/
/-- the steps laid down so far -/
noncomputable def RL (L : List (Int × Int)) (W0 : Int → Int) (st : Int) (W : Int → Int) : Prop := st = (L.length : Int) ∧ (∀ j, j < 1293 → W j = W0 j) ∧ ∀ (i : Nat) (p : Int × Int), L[i]? = some p → W (1293 + 2 * (i : Int)) = p.1 ∧ W (1293 + 2 * (i : Int) + 1) = p.2
theorem rl_put {L : List (Int × Int)} {W0 W W2 : Int → Int} {st x y : Int} (h : RL L W0 st W) (h2 : W2 = fun t9 => if t9 = (1293 + (2 * st)) + 1 then y else if t9 = 1293 + (2 * st) then x else W t9) : RL (L ++ [(x, y)]) W0 (st + 1) W2 := by
  subst h2
  obtain ⟨e1, e2, e3⟩ := h
  refine ⟨?_, fun j hj => ?_, fun i p hi => ?_⟩
  · rw [List.length_append]
    show st + 1 = ((L.length + 1 : Nat) : Int)
    omega
  · show (if j = (1293 + (2 * st)) + 1 then y else if j = 1293 + (2 * st) then x else W j) = W0 j
    rw [if_neg (by omega), if_neg (by omega)]
    exact e2 j hj
  · show (if 1293 + 2 * (i : Int) = (1293 + (2 * st)) + 1 then y else if 1293 + 2 * (i : Int) = 1293 + (2 * st) then x else W (1293 + 2 * (i : Int))) = p.1 ∧ (if 1293 + 2 * (i : Int) + 1 = (1293 + (2 * st)) + 1 then y else if 1293 + 2 * (i : Int) + 1 = 1293 + (2 * st) then x else W (1293 + 2 * (i : Int) + 1)) = p.2
    by_cases hl : i < L.length
    · rw [List.getElem?_append_left hl] at hi
      rw [if_neg (by omega), if_neg (by omega), if_neg (by omega), if_neg (by omega)]
      exact e3 i p hi
    · rw [List.getElem?_append_right (by omega)] at hi
      have h0 : i - L.length = 0 := by
        cases hk : i - L.length with
        | zero => rfl
        | succ k => rw [hk] at hi; simp at hi
      rw [h0] at hi
      have e4 : (x, y) = p := by simpa using hi
      subst e4
      rw [if_neg (by omega), if_pos (by omega), if_pos (by omega)]
      exact ⟨rfl, rfl⟩
/-- a method that says whether G stands at the token; E: what steps it lays down -/
noncomputable def cR2 (X : Int → Int) (LX n : Nat) (K : gm_K) (R : gm_R) (M : gm_M) (e dp : Int) (W0 : Int → Int) (mi : Nat) (G : Int → Bool × Int) (E : Int → List (Int × Int)) (dn : Nat) : Prop := ∀ (d bc bs : Nat) (pt b bg st : Int) (W : Int → Int) (L : List (Int × Int)) (Q : gm_Q), dn ≤ d → 0 ≤ pt ∧ pt ≤ e → tx_g (M 231) e pt = b → 0 ≤ st ∧ st + 1 ≤ pt → RL L W0 st W → (∀ p2 bg2 st2 W2, RL (L ++ E b) W0 st2 W2 → (G b).1 = true → 0 ≤ p2 ∧ p2 ≤ e → tx_g (M 231) e p2 = (G b).2 → 0 ≤ st2 ∧ st2 - st ≤ p2 - pt ∧ pt ≤ p2 → Q (.inl (some (gm_vi 1))) n K R (rm M p2 bg2 dp st2 W2)) → (∀ p2 dp2 st2 W2, (∀ j, j < 1293 → W2 j = W0 j) → ¬ (G b).1 = true → Q (.inl (some (gm_vi 0))) n K R (rm M p2 (G b).2 dp2 st2 W2)) → gm_Wp X LX d bc bs mi 0 (gm_ent mi [gm_vr 226]) [] n K R (rm M pt bg dp st W) Q
section KR
variable {X : Int → Int} {LX d bc bs n : Nat} {K : gm_K} {R : gm_R} {M : gm_M} {Q : gm_Q} {e pt bg dp st b : Int} {W W0 : Int → Int} {L : List (Int × Int)}
theorem sr_c279 {x y : Int} (hE : tR n K R M e) (hs : 0 ≤ st ∧ st ≤ 399) (hL : RL L W0 st W) (hq : ∀ W2, RL (L ++ [(x, y)]) W0 (st + 1) W2 → Q (.inl none) n K R (rm M pt bg dp (st + 1) W2)) : gm_Wp X LX d bc bs 279 0 (gm_ent 279 [gm_vr 226, gm_vi x, gm_vi y]) [] n K R (rm M pt bg dp st W) Q := by
  refine gm_sz (gm_p_load (pc := 0) (i := .aload_n 0) (sr := 2) (j := 0) (by decide +kernel) rfl rfl rfl) ?_
  refine gm_sz (fw_gr (pc := 1) (ix := 13) (ci := 11) (j := 1) (r := 227) (by decide +kernel) (tR226 hE) (by decide +kernel) (by decide +kernel) (tRr hE).1) ?_
  refine gm_sz (gm_p_const (pc := 4) (i := .sipush 1293) (v := gm_vi 1293) (by decide +kernel) (by decide +kernel)) ?_
  refine gm_sz (gm_p_const (pc := 7) (i := .iconst 2) (v := gm_vi 2) (by decide +kernel) (by decide +kernel)) ?_
  refine gm_sz (gm_p_load (pc := 8) (i := .aload_n 0) (sr := 2) (j := 0) (by decide +kernel) rfl rfl rfl) ?_
  refine gm_sz (fw_gi (pc := 9) (ix := 224) (ci := 11) (j := 15) (x := st) (by decide +kernel) (tR226 hE) (by decide +kernel) (by decide +kernel) rfl) ?_
  refine gm_sz (gm_p_bin (pc := 12) (i := .imul) (f := fun x y => x * y) (by decide +kernel) rfl) ?_
  refine gm_sz (gm_p_bin (pc := 13) (i := .iadd) (f := fun x y => x + y) (by decide +kernel) rfl) ?_
  refine gm_sz (gm_p_load (pc := 14) (i := .iload_n 1) (sr := 0) (j := 1) (by decide +kernel) rfl rfl rfl) ?_
  refine gm_sz (fw_is (pc := 15) (k := 227) (len := 2093) (e0 := 1293 + (2 * st)) (x := x) (M' := rm M pt bg dp st (fun t9 => if t9 = 1293 + (2 * st) then x else W t9)) (by decide +kernel) (tR227 hE).1 (tR227 hE).2 (by decide) ⟨by omega, by omega⟩ rm_W) ?_
  refine gm_sz (gm_p_load (pc := 16) (i := .aload_n 0) (sr := 2) (j := 0) (by decide +kernel) rfl rfl rfl) ?_
  refine gm_sz (fw_gr (pc := 17) (ix := 13) (ci := 11) (j := 1) (r := 227) (by decide +kernel) (tR226 hE) (by decide +kernel) (by decide +kernel) (tRr hE).1) ?_
  refine gm_sz (gm_p_const (pc := 20) (i := .sipush 1293) (v := gm_vi 1293) (by decide +kernel) (by decide +kernel)) ?_
  refine gm_sz (gm_p_const (pc := 23) (i := .iconst 2) (v := gm_vi 2) (by decide +kernel) (by decide +kernel)) ?_
  refine gm_sz (gm_p_load (pc := 24) (i := .aload_n 0) (sr := 2) (j := 0) (by decide +kernel) rfl rfl rfl) ?_
  refine gm_sz (fw_gi (pc := 25) (ix := 224) (ci := 11) (j := 15) (x := st) (by decide +kernel) (tR226 hE) (by decide +kernel) (by decide +kernel) rfl) ?_
  refine gm_sz (gm_p_bin (pc := 28) (i := .imul) (f := fun x y => x * y) (by decide +kernel) rfl) ?_
  refine gm_sz (gm_p_bin (pc := 29) (i := .iadd) (f := fun x y => x + y) (by decide +kernel) rfl) ?_
  refine gm_sz (gm_p_const (pc := 30) (i := .iconst 1) (v := gm_vi 1) (by decide +kernel) (by decide +kernel)) ?_
  refine gm_sz (gm_p_bin (pc := 31) (i := .iadd) (f := fun x y => x + y) (by decide +kernel) rfl) ?_
  refine gm_sz (gm_p_load (pc := 32) (i := .iload_n 2) (sr := 0) (j := 2) (by decide +kernel) rfl rfl rfl) ?_
  refine gm_sz (fw_is (pc := 33) (k := 227) (len := 2093) (e0 := (1293 + (2 * st)) + 1) (x := y) (M' := rm M pt bg dp st (fun t9 => if t9 = (1293 + (2 * st)) + 1 then y else (fun t9 => if t9 = 1293 + (2 * st) then x else W t9) t9)) (by decide +kernel) (tR227 hE).1 (tR227 hE).2 (by decide) ⟨by omega, by omega⟩ rm_W) ?_
  refine gm_sz (gm_p_load (pc := 34) (i := .aload_n 0) (sr := 2) (j := 0) (by decide +kernel) rfl rfl rfl) ?_
  refine gm_sz (gm_p_dup (pc := 35) (by decide +kernel) fw_sr) ?_
  refine gm_sz (fw_gi (pc := 36) (ix := 224) (ci := 11) (j := 15) (x := st) (by decide +kernel) (tR226 hE) (by decide +kernel) (by decide +kernel) rfl) ?_
  refine gm_sz (gm_p_const (pc := 39) (i := .iconst 1) (v := gm_vi 1) (by decide +kernel) (by decide +kernel)) ?_
  refine gm_sz (gm_p_bin (pc := 40) (i := .iadd) (f := fun x y => x + y) (by decide +kernel) rfl) ?_
  refine gm_sz (fw_pi (pc := 41) (ix := 224) (ci := 11) (j := 15) (M' := rm M pt bg dp (st + 1) (fun t9 => if t9 = (1293 + (2 * st)) + 1 then y else (fun t9 => if t9 = 1293 + (2 * st) then x else W t9) t9)) (by decide +kernel) (tR226 hE) (by decide +kernel) (by decide +kernel) (by decide +kernel) rm_st) ?_
  exact gm_r_void (pc := 44) (by decide +kernel) (by decide +kernel) (hq _ (rl_put hL rfl))

theorem sr_c281 (hE : tR n K R M e) : cR2 X LX n K R M e dp W0 281 (g_par (M 231) e) (fun b => [s_pt (M 231) e b]) 8 := by
  obtain ⟨-, he0, he4⟩ := tRe hE
  intro d bc bs pt b bg st W L Q hd hp hg hst k0 h1 h0
  have h1 : ∀ p2 bg2 st2 W2, RL (L ++ [s_pt (M 231) e b]) W0 st2 W2 → (g_par (M 231) e b).1 = true → 0 ≤ p2 ∧ p2 ≤ e → tx_g (M 231) e p2 = (g_par (M 231) e b).2 → 0 ≤ st2 ∧ st2 - st ≤ p2 - pt ∧ pt ≤ p2 → Q (.inl (some (gm_vi 1))) n K R (rm M p2 bg2 dp st2 W2) := h1
  obtain ⟨hg1, hg2, -⟩ := tx_gb (f := M 231) hp.2
  rw [hg] at hg1 hg2
  have hb : 0 ≤ b ∧ b ≤ e := ⟨by omega, hg2⟩
  have hkb := tx_kc (f := M 231) (e := e) (b := b) (fun h => tRb hE hb.1 (by omega))
  obtain ⟨hs1, hs2, hs3⟩ := tx_sb (f := M 231) hb.2
  refine gm_sz (gm_p_load (pc := 0) (i := .aload_n 0) (sr := 2) (j := 0) (by decide +kernel) rfl rfl rfl) ?_
  refine gm_c_virt (k := 226) (ci := 11) (mj := 248) (ix := 131) (pc := 1) (as := []) (st := []) (d' := d - 1) (bc' := 0) (bs' := 0) (by decide +kernel) (by decide +kernel) (by decide +kernel) (by decide +kernel) (tR226 hE).1 (tR226 hE).2 (by decide) (by decide +kernel) (show 0 = gm_na 248 by decide +kernel) fw_c0 (show 1 ≤ gm_ml 248 by decide +kernel) (Nat.le_of_ble_eq_true rfl) (by omega) (Nat.zero_le _) (Nat.zero_le _) ?_
  refine tr_c248 (by omega) hE hp hg ?_
  show gm_Wp X LX d _ _ 281 4 _ [] n K R _ Q
  have q2 : tx_g (M 231) e b = b := by rw [← hg]; exact tx_gi hp.2
  have g1 : 0 ≤ tx_r (tx_l (M 231)) e b ∧ tx_r (tx_l (M 231)) e b ≤ e := by have := tx_rb (q := tx_l (M 231)) (e := e) _ b rfl hb.2; omega
  refine gm_sz (gm_p_load (pc := 4) (i := .aload_n 0) (sr := 2) (j := 0) (by decide +kernel) rfl rfl rfl) ?_
  refine gm_sz (fw_gi (pc := 5) (ix := 106) (ci := 11) (j := 9) (x := tx_r (tx_l (M 231)) e b) (by decide +kernel) (tR226 hE) (by decide +kernel) (by decide +kernel) rfl) ?_
  refine gm_sz (gm_p_load (pc := 8) (i := .aload_n 0) (sr := 2) (j := 0) (by decide +kernel) rfl rfl rfl) ?_
  refine gm_sz (fw_gi (pc := 9) (ix := 116) (ci := 11) (j := 11) (x := b) (by decide +kernel) (tR226 hE) (by decide +kernel) (by decide +kernel) rfl) ?_
  refine fw_ic (cc := .ne) (pc := 12) (off := 23) (by decide +kernel) (by decide) ⟨by omega, by omega⟩ ⟨by omega, by omega⟩ (fun j3 => ?_) (fun j3 => ?_)
  · have j3 : ¬ (tx_r (tx_l (M 231)) e b) = b := j3
    refine gm_sz (gm_p_load (pc := 35) (i := .aload_n 0) (sr := 2) (j := 0) (by decide +kernel) rfl rfl rfl) ?_
    refine gm_sz (gm_p_ldcs (pc := 36) (i := .ldc 231) (ix := 231) (id := 66) (by decide +kernel) (Or.inl rfl) (by decide +kernel)) ?_
    refine gm_c_virt (k := 226) (ci := 11) (mj := 250) (ix := 134) (pc := 38) (as := [gm_vo 66]) (st := []) (d' := d - 1) (bc' := 0) (bs' := 0) (by decide +kernel) (by decide +kernel) (by decide +kernel) (by decide +kernel) (tR226 hE).1 (tR226 hE).2 (by decide) (by decide +kernel) (show 1 = gm_na 250 by decide +kernel) (fw_c1 fw_so) (show 2 ≤ gm_ml 250 by decide +kernel) (Nat.le_of_ble_eq_true rfl) (by omega) (Nat.zero_le _) (Nat.zero_le _) ?_
    refine tr_c250 (by omega) hE (by decide) (show tx_o 66 = wo_lane by decide +kernel) ⟨hb.1, (tx_rb (q := tx_l (M 231)) (e := e) _ b rfl hb.2).1, (tx_rb (q := tx_l (M 231)) (e := e) _ b rfl hb.2).2.1⟩ (fun j4 => ?_) (fun j4 => ?_)
    · show gm_Wp X LX d _ _ 281 41 _ [gm_vi 1] n K R _ Q
      have j4 : tx_is (M 231) e b wo_lane := (tr_is hb (by decide)).mp j4
      have q5 : tx_g (M 231) e (tx_r (tx_l (M 231)) e b) = tx_n (M 231) e b := by rw [← tx_s1 j4]; rfl
      have g7 : 0 ≤ tx_n (M 231) e b ∧ tx_n (M 231) e b ≤ e := by have := tx_nb (f := M 231) (b := b) hb.2; have := hb.1; omega
      have g6 : b + 1 ≤ tx_r (tx_l (M 231)) e b := by have := (tx_sb (f := M 231) hb.2).2.2 (g_isb j4); rwa [tx_s1 j4] at this
      refine fw_iffd (cc := .eq) (pc := 41) (off := 7) (by decide +kernel) (by decide) ⟨by decide, by decide⟩ (by decide) ?_
      refine gm_sz (gm_p_const (pc := 44) (i := .iconst 0) (v := gm_vi 0) (by decide +kernel) (by decide +kernel)) ?_
      refine gm_sz (gm_p_goto (pc := 45) (off := 97) (by decide +kernel) (by decide)) ?_
      refine gm_sz (gm_p_stor (pc := 142) (i := .istore_n 1) (sr := 0) (j := 1) (by decide +kernel) rfl (show 2 ≤ _ from Nat.le_of_ble_eq_true rfl) rfl) ?_
      refine gm_sz (gm_p_load (pc := 143) (i := .aload_n 0) (sr := 2) (j := 0) (by decide +kernel) rfl rfl rfl) ?_
      refine gm_sz (gm_p_load (pc := 144) (i := .iload_n 1) (sr := 0) (j := 1) (by decide +kernel) rfl rfl rfl) ?_
      refine gm_sz (gm_p_const (pc := 145) (i := .iconst 0) (v := gm_vi 0) (by decide +kernel) (by decide +kernel)) ?_
      refine gm_c_virt (k := 226) (ci := 11) (mj := 279) (ix := 227) (pc := 146) (as := [gm_vi 0, gm_vi 0]) (st := []) (d' := d - 1) (bc' := 0) (bs' := 0) (by decide +kernel) (by decide +kernel) (by decide +kernel) (by decide +kernel) (tR226 hE).1 (tR226 hE).2 (by decide) (by decide +kernel) (show 2 = gm_na 279 by decide +kernel) (fw_c2 fw_si fw_si) (show 3 ≤ gm_ml 279 by decide +kernel) (Nat.le_of_ble_eq_true rfl) (by omega) (Nat.zero_le _) (Nat.zero_le _) ?_
      refine sr_c279 hE ⟨by omega, by omega⟩ k0 (fun W8 kW8 => ?_)
      show gm_Wp X LX d _ _ 281 149 _ [] n K R _ Q
      refine gm_sz (gm_p_load (pc := 149) (i := .iload_n 1) (sr := 0) (j := 1) (by decide +kernel) rfl rfl rfl) ?_
      refine fw_iffd (cc := .lt) (pc := 150) (off := 7) (by decide +kernel) (by decide) ⟨by decide, by decide⟩ (by decide) ?_
      refine gm_sz (gm_p_const (pc := 153) (i := .iconst 1) (v := gm_vi 1) (by decide +kernel) (by decide +kernel)) ?_
      refine gm_sz (gm_p_goto (pc := 154) (off := 4) (by decide +kernel) (by decide)) ?_
      rw [g_p1 (Or.inr (Or.inl j4))] at h1
      have z9 : s_pt (M 231) e b = (0, 0) := by
        unfold s_pt s_fc
        rw [tif_f (show ¬ tx_k (M 231) e b = 258 by have := g_kis j4; omega), tif_t j4]
      rw [z9] at h1
      have hs3 := hs3 (g_isb j4)
      rw [tx_s1 j4] at hs1 hs2 hs3
      refine gm_r_int (pc := 158) (by decide +kernel) (Or.inr ⟨(by decide +kernel), Or.inr rfl⟩) (h1 _ _ _ _ kW8 rfl ⟨by omega, by omega⟩ ?_ ⟨by omega, by omega, by omega⟩)
      rw [← tx_s1 j4]
      rfl
    · show gm_Wp X LX d _ _ 281 41 _ [gm_vi 0] n K R _ Q
      have j4 : ¬ tx_is (M 231) e b wo_lane := fun hh => j4 ((tr_is hb (by decide)).mpr hh)
      refine fw_iftd (cc := .eq) (pc := 41) (off := 7) (by decide +kernel) (by decide) ⟨by decide, by decide⟩ (by decide) ?_
      refine gm_sz (gm_p_load (pc := 48) (i := .aload_n 0) (sr := 2) (j := 0) (by decide +kernel) rfl rfl rfl) ?_
      refine gm_sz (gm_p_ldcs (pc := 49) (i := .ldc 233) (ix := 233) (id := 67) (by decide +kernel) (Or.inl rfl) (by decide +kernel)) ?_
      refine gm_c_virt (k := 226) (ci := 11) (mj := 250) (ix := 134) (pc := 51) (as := [gm_vo 67]) (st := []) (d' := d - 1) (bc' := 0) (bs' := 0) (by decide +kernel) (by decide +kernel) (by decide +kernel) (by decide +kernel) (tR226 hE).1 (tR226 hE).2 (by decide) (by decide +kernel) (show 1 = gm_na 250 by decide +kernel) (fw_c1 fw_so) (show 2 ≤ gm_ml 250 by decide +kernel) (Nat.le_of_ble_eq_true rfl) (by omega) (Nat.zero_le _) (Nat.zero_le _) ?_
      refine tr_c250 (by omega) hE (by decide) (show tx_o 67 = wo_row by decide +kernel) ⟨hb.1, (tx_rb (q := tx_l (M 231)) (e := e) _ b rfl hb.2).1, (tx_rb (q := tx_l (M 231)) (e := e) _ b rfl hb.2).2.1⟩ (fun j9 => ?_) (fun j9 => ?_)
      · show gm_Wp X LX d _ _ 281 54 _ [gm_vi 1] n K R _ Q
        have j9 : tx_is (M 231) e b wo_row := (tr_is hb (by decide)).mp j9
        have q10 : tx_g (M 231) e (tx_r (tx_l (M 231)) e b) = tx_n (M 231) e b := by rw [← tx_s1 j9]; rfl
        have g12 : 0 ≤ tx_n (M 231) e b ∧ tx_n (M 231) e b ≤ e := by have := tx_nb (f := M 231) (b := b) hb.2; have := hb.1; omega
        have g11 : b + 1 ≤ tx_r (tx_l (M 231)) e b := by have := (tx_sb (f := M 231) hb.2).2.2 (g_isb j9); rwa [tx_s1 j9] at this
        refine fw_iffd (cc := .eq) (pc := 54) (off := 7) (by decide +kernel) (by decide) ⟨by decide, by decide⟩ (by decide) ?_
        refine gm_sz (gm_p_const (pc := 57) (i := .iconst 1) (v := gm_vi 1) (by decide +kernel) (by decide +kernel)) ?_
        refine gm_sz (gm_p_goto (pc := 58) (off := 84) (by decide +kernel) (by decide)) ?_
        refine gm_sz (gm_p_stor (pc := 142) (i := .istore_n 1) (sr := 0) (j := 1) (by decide +kernel) rfl (show 2 ≤ _ from Nat.le_of_ble_eq_true rfl) rfl) ?_
        refine gm_sz (gm_p_load (pc := 143) (i := .aload_n 0) (sr := 2) (j := 0) (by decide +kernel) rfl rfl rfl) ?_
        refine gm_sz (gm_p_load (pc := 144) (i := .iload_n 1) (sr := 0) (j := 1) (by decide +kernel) rfl rfl rfl) ?_
        refine gm_sz (gm_p_const (pc := 145) (i := .iconst 0) (v := gm_vi 0) (by decide +kernel) (by decide +kernel)) ?_
        refine gm_c_virt (k := 226) (ci := 11) (mj := 279) (ix := 227) (pc := 146) (as := [gm_vi 1, gm_vi 0]) (st := []) (d' := d - 1) (bc' := 0) (bs' := 0) (by decide +kernel) (by decide +kernel) (by decide +kernel) (by decide +kernel) (tR226 hE).1 (tR226 hE).2 (by decide) (by decide +kernel) (show 2 = gm_na 279 by decide +kernel) (fw_c2 fw_si fw_si) (show 3 ≤ gm_ml 279 by decide +kernel) (Nat.le_of_ble_eq_true rfl) (by omega) (Nat.zero_le _) (Nat.zero_le _) ?_
        refine sr_c279 hE ⟨by omega, by omega⟩ k0 (fun W13 kW13 => ?_)
        show gm_Wp X LX d _ _ 281 149 _ [] n K R _ Q
        refine gm_sz (gm_p_load (pc := 149) (i := .iload_n 1) (sr := 0) (j := 1) (by decide +kernel) rfl rfl rfl) ?_
        refine fw_iffd (cc := .lt) (pc := 150) (off := 7) (by decide +kernel) (by decide) ⟨by decide, by decide⟩ (by decide) ?_
        refine gm_sz (gm_p_const (pc := 153) (i := .iconst 1) (v := gm_vi 1) (by decide +kernel) (by decide +kernel)) ?_
        refine gm_sz (gm_p_goto (pc := 154) (off := 4) (by decide +kernel) (by decide)) ?_
        rw [g_p1 (Or.inr (Or.inr (Or.inl j9)))] at h1
        have z9 : s_pt (M 231) e b = (1, 0) := by
          unfold s_pt s_fc
          rw [tif_f (show ¬ tx_k (M 231) e b = 258 by have := g_kis j9; omega), tif_f j4, tif_t j9]
        rw [z9] at h1
        have hs3 := hs3 (g_isb j9)
        rw [tx_s1 j9] at hs1 hs2 hs3
        refine gm_r_int (pc := 158) (by decide +kernel) (Or.inr ⟨(by decide +kernel), Or.inr rfl⟩) (h1 _ _ _ _ kW13 rfl ⟨by omega, by omega⟩ ?_ ⟨by omega, by omega, by omega⟩)
        rw [← tx_s1 j9]
        rfl
      · show gm_Wp X LX d _ _ 281 54 _ [gm_vi 0] n K R _ Q
        have j9 : ¬ tx_is (M 231) e b wo_row := fun hh => j9 ((tr_is hb (by decide)).mpr hh)
        refine fw_iftd (cc := .eq) (pc := 54) (off := 7) (by decide +kernel) (by decide) ⟨by decide, by decide⟩ (by decide) ?_
        refine gm_sz (gm_p_load (pc := 61) (i := .aload_n 0) (sr := 2) (j := 0) (by decide +kernel) rfl rfl rfl) ?_
        refine gm_sz (gm_p_ldcs (pc := 62) (i := .ldc 235) (ix := 235) (id := 68) (by decide +kernel) (Or.inl rfl) (by decide +kernel)) ?_
        refine gm_c_virt (k := 226) (ci := 11) (mj := 250) (ix := 134) (pc := 64) (as := [gm_vo 68]) (st := []) (d' := d - 1) (bc' := 0) (bs' := 0) (by decide +kernel) (by decide +kernel) (by decide +kernel) (by decide +kernel) (tR226 hE).1 (tR226 hE).2 (by decide) (by decide +kernel) (show 1 = gm_na 250 by decide +kernel) (fw_c1 fw_so) (show 2 ≤ gm_ml 250 by decide +kernel) (Nat.le_of_ble_eq_true rfl) (by omega) (Nat.zero_le _) (Nat.zero_le _) ?_
        refine tr_c250 (by omega) hE (by decide) (show tx_o 68 = wo_year by decide +kernel) ⟨hb.1, (tx_rb (q := tx_l (M 231)) (e := e) _ b rfl hb.2).1, (tx_rb (q := tx_l (M 231)) (e := e) _ b rfl hb.2).2.1⟩ (fun j14 => ?_) (fun j14 => ?_)
        · show gm_Wp X LX d _ _ 281 67 _ [gm_vi 1] n K R _ Q
          have j14 : tx_is (M 231) e b wo_year := (tr_is hb (by decide)).mp j14
          have q15 : tx_g (M 231) e (tx_r (tx_l (M 231)) e b) = tx_n (M 231) e b := by rw [← tx_s1 j14]; rfl
          have g17 : 0 ≤ tx_n (M 231) e b ∧ tx_n (M 231) e b ≤ e := by have := tx_nb (f := M 231) (b := b) hb.2; have := hb.1; omega
          have g16 : b + 1 ≤ tx_r (tx_l (M 231)) e b := by have := (tx_sb (f := M 231) hb.2).2.2 (g_isb j14); rwa [tx_s1 j14] at this
          refine fw_iffd (cc := .eq) (pc := 67) (off := 7) (by decide +kernel) (by decide) ⟨by decide, by decide⟩ (by decide) ?_
          refine gm_sz (gm_p_const (pc := 70) (i := .iconst 2) (v := gm_vi 2) (by decide +kernel) (by decide +kernel)) ?_
          refine gm_sz (gm_p_goto (pc := 71) (off := 71) (by decide +kernel) (by decide)) ?_
          refine gm_sz (gm_p_stor (pc := 142) (i := .istore_n 1) (sr := 0) (j := 1) (by decide +kernel) rfl (show 2 ≤ _ from Nat.le_of_ble_eq_true rfl) rfl) ?_
          refine gm_sz (gm_p_load (pc := 143) (i := .aload_n 0) (sr := 2) (j := 0) (by decide +kernel) rfl rfl rfl) ?_
          refine gm_sz (gm_p_load (pc := 144) (i := .iload_n 1) (sr := 0) (j := 1) (by decide +kernel) rfl rfl rfl) ?_
          refine gm_sz (gm_p_const (pc := 145) (i := .iconst 0) (v := gm_vi 0) (by decide +kernel) (by decide +kernel)) ?_
          refine gm_c_virt (k := 226) (ci := 11) (mj := 279) (ix := 227) (pc := 146) (as := [gm_vi 2, gm_vi 0]) (st := []) (d' := d - 1) (bc' := 0) (bs' := 0) (by decide +kernel) (by decide +kernel) (by decide +kernel) (by decide +kernel) (tR226 hE).1 (tR226 hE).2 (by decide) (by decide +kernel) (show 2 = gm_na 279 by decide +kernel) (fw_c2 fw_si fw_si) (show 3 ≤ gm_ml 279 by decide +kernel) (Nat.le_of_ble_eq_true rfl) (by omega) (Nat.zero_le _) (Nat.zero_le _) ?_
          refine sr_c279 hE ⟨by omega, by omega⟩ k0 (fun W18 kW18 => ?_)
          show gm_Wp X LX d _ _ 281 149 _ [] n K R _ Q
          refine gm_sz (gm_p_load (pc := 149) (i := .iload_n 1) (sr := 0) (j := 1) (by decide +kernel) rfl rfl rfl) ?_
          refine fw_iffd (cc := .lt) (pc := 150) (off := 7) (by decide +kernel) (by decide) ⟨by decide, by decide⟩ (by decide) ?_
          refine gm_sz (gm_p_const (pc := 153) (i := .iconst 1) (v := gm_vi 1) (by decide +kernel) (by decide +kernel)) ?_
          refine gm_sz (gm_p_goto (pc := 154) (off := 4) (by decide +kernel) (by decide)) ?_
          rw [g_p1 (Or.inr (Or.inr (Or.inr (Or.inl j14))))] at h1
          have z9 : s_pt (M 231) e b = (2, 0) := by
            unfold s_pt s_fc
            rw [tif_f (show ¬ tx_k (M 231) e b = 258 by have := g_kis j14; omega), tif_f j4, tif_f j9, tif_t j14]
          rw [z9] at h1
          have hs3 := hs3 (g_isb j14)
          rw [tx_s1 j14] at hs1 hs2 hs3
          refine gm_r_int (pc := 158) (by decide +kernel) (Or.inr ⟨(by decide +kernel), Or.inr rfl⟩) (h1 _ _ _ _ kW18 rfl ⟨by omega, by omega⟩ ?_ ⟨by omega, by omega, by omega⟩)
          rw [← tx_s1 j14]
          rfl
        · show gm_Wp X LX d _ _ 281 67 _ [gm_vi 0] n K R _ Q
          have j14 : ¬ tx_is (M 231) e b wo_year := fun hh => j14 ((tr_is hb (by decide)).mpr hh)
          refine fw_iftd (cc := .eq) (pc := 67) (off := 7) (by decide +kernel) (by decide) ⟨by decide, by decide⟩ (by decide) ?_
          refine gm_sz (gm_p_load (pc := 74) (i := .aload_n 0) (sr := 2) (j := 0) (by decide +kernel) rfl rfl rfl) ?_
          refine gm_sz (gm_p_ldcs (pc := 75) (i := .ldc 237) (ix := 237) (id := 69) (by decide +kernel) (Or.inl rfl) (by decide +kernel)) ?_
          refine gm_c_virt (k := 226) (ci := 11) (mj := 250) (ix := 134) (pc := 77) (as := [gm_vo 69]) (st := []) (d' := d - 1) (bc' := 0) (bs' := 0) (by decide +kernel) (by decide +kernel) (by decide +kernel) (by decide +kernel) (tR226 hE).1 (tR226 hE).2 (by decide) (by decide +kernel) (show 1 = gm_na 250 by decide +kernel) (fw_c1 fw_so) (show 2 ≤ gm_ml 250 by decide +kernel) (Nat.le_of_ble_eq_true rfl) (by omega) (Nat.zero_le _) (Nat.zero_le _) ?_
          refine tr_c250 (by omega) hE (by decide) (show tx_o 69 = wo_heat by decide +kernel) ⟨hb.1, (tx_rb (q := tx_l (M 231)) (e := e) _ b rfl hb.2).1, (tx_rb (q := tx_l (M 231)) (e := e) _ b rfl hb.2).2.1⟩ (fun j19 => ?_) (fun j19 => ?_)
          · show gm_Wp X LX d _ _ 281 80 _ [gm_vi 1] n K R _ Q
            have j19 : tx_is (M 231) e b wo_heat := (tr_is hb (by decide)).mp j19
            have q20 : tx_g (M 231) e (tx_r (tx_l (M 231)) e b) = tx_n (M 231) e b := by rw [← tx_s1 j19]; rfl
            have g22 : 0 ≤ tx_n (M 231) e b ∧ tx_n (M 231) e b ≤ e := by have := tx_nb (f := M 231) (b := b) hb.2; have := hb.1; omega
            have g21 : b + 1 ≤ tx_r (tx_l (M 231)) e b := by have := (tx_sb (f := M 231) hb.2).2.2 (g_isb j19); rwa [tx_s1 j19] at this
            refine fw_iffd (cc := .eq) (pc := 80) (off := 7) (by decide +kernel) (by decide) ⟨by decide, by decide⟩ (by decide) ?_
            refine gm_sz (gm_p_const (pc := 83) (i := .iconst 3) (v := gm_vi 3) (by decide +kernel) (by decide +kernel)) ?_
            refine gm_sz (gm_p_goto (pc := 84) (off := 58) (by decide +kernel) (by decide)) ?_
            refine gm_sz (gm_p_stor (pc := 142) (i := .istore_n 1) (sr := 0) (j := 1) (by decide +kernel) rfl (show 2 ≤ _ from Nat.le_of_ble_eq_true rfl) rfl) ?_
            refine gm_sz (gm_p_load (pc := 143) (i := .aload_n 0) (sr := 2) (j := 0) (by decide +kernel) rfl rfl rfl) ?_
            refine gm_sz (gm_p_load (pc := 144) (i := .iload_n 1) (sr := 0) (j := 1) (by decide +kernel) rfl rfl rfl) ?_
            refine gm_sz (gm_p_const (pc := 145) (i := .iconst 0) (v := gm_vi 0) (by decide +kernel) (by decide +kernel)) ?_
            refine gm_c_virt (k := 226) (ci := 11) (mj := 279) (ix := 227) (pc := 146) (as := [gm_vi 3, gm_vi 0]) (st := []) (d' := d - 1) (bc' := 0) (bs' := 0) (by decide +kernel) (by decide +kernel) (by decide +kernel) (by decide +kernel) (tR226 hE).1 (tR226 hE).2 (by decide) (by decide +kernel) (show 2 = gm_na 279 by decide +kernel) (fw_c2 fw_si fw_si) (show 3 ≤ gm_ml 279 by decide +kernel) (Nat.le_of_ble_eq_true rfl) (by omega) (Nat.zero_le _) (Nat.zero_le _) ?_
            refine sr_c279 hE ⟨by omega, by omega⟩ k0 (fun W23 kW23 => ?_)
            show gm_Wp X LX d _ _ 281 149 _ [] n K R _ Q
            refine gm_sz (gm_p_load (pc := 149) (i := .iload_n 1) (sr := 0) (j := 1) (by decide +kernel) rfl rfl rfl) ?_
            refine fw_iffd (cc := .lt) (pc := 150) (off := 7) (by decide +kernel) (by decide) ⟨by decide, by decide⟩ (by decide) ?_
            refine gm_sz (gm_p_const (pc := 153) (i := .iconst 1) (v := gm_vi 1) (by decide +kernel) (by decide +kernel)) ?_
            refine gm_sz (gm_p_goto (pc := 154) (off := 4) (by decide +kernel) (by decide)) ?_
            rw [g_p1 (Or.inr (Or.inr (Or.inr (Or.inr (Or.inl j19)))))] at h1
            have z9 : s_pt (M 231) e b = (3, 0) := by
              unfold s_pt s_fc
              rw [tif_f (show ¬ tx_k (M 231) e b = 258 by have := g_kis j19; omega), tif_f j4, tif_f j9, tif_f j14, tif_t j19]
            rw [z9] at h1
            have hs3 := hs3 (g_isb j19)
            rw [tx_s1 j19] at hs1 hs2 hs3
            refine gm_r_int (pc := 158) (by decide +kernel) (Or.inr ⟨(by decide +kernel), Or.inr rfl⟩) (h1 _ _ _ _ kW23 rfl ⟨by omega, by omega⟩ ?_ ⟨by omega, by omega, by omega⟩)
            rw [← tx_s1 j19]
            rfl
          · show gm_Wp X LX d _ _ 281 80 _ [gm_vi 0] n K R _ Q
            have j19 : ¬ tx_is (M 231) e b wo_heat := fun hh => j19 ((tr_is hb (by decide)).mpr hh)
            refine fw_iftd (cc := .eq) (pc := 80) (off := 7) (by decide +kernel) (by decide) ⟨by decide, by decide⟩ (by decide) ?_
            refine gm_sz (gm_p_load (pc := 87) (i := .aload_n 0) (sr := 2) (j := 0) (by decide +kernel) rfl rfl rfl) ?_
            refine gm_sz (gm_p_ldcs (pc := 88) (i := .ldc 239) (ix := 239) (id := 70) (by decide +kernel) (Or.inl rfl) (by decide +kernel)) ?_
            refine gm_c_virt (k := 226) (ci := 11) (mj := 250) (ix := 134) (pc := 90) (as := [gm_vo 70]) (st := []) (d' := d - 1) (bc' := 0) (bs' := 0) (by decide +kernel) (by decide +kernel) (by decide +kernel) (by decide +kernel) (tR226 hE).1 (tR226 hE).2 (by decide) (by decide +kernel) (show 1 = gm_na 250 by decide +kernel) (fw_c1 fw_so) (show 2 ≤ gm_ml 250 by decide +kernel) (Nat.le_of_ble_eq_true rfl) (by omega) (Nat.zero_le _) (Nat.zero_le _) ?_
            refine tr_c250 (by omega) hE (by decide) (show tx_o 70 = wo_speed by decide +kernel) ⟨hb.1, (tx_rb (q := tx_l (M 231)) (e := e) _ b rfl hb.2).1, (tx_rb (q := tx_l (M 231)) (e := e) _ b rfl hb.2).2.1⟩ (fun j24 => ?_) (fun j24 => ?_)
            · show gm_Wp X LX d _ _ 281 93 _ [gm_vi 1] n K R _ Q
              have j24 : tx_is (M 231) e b wo_speed := (tr_is hb (by decide)).mp j24
              have q25 : tx_g (M 231) e (tx_r (tx_l (M 231)) e b) = tx_n (M 231) e b := by rw [← tx_s1 j24]; rfl
              have g27 : 0 ≤ tx_n (M 231) e b ∧ tx_n (M 231) e b ≤ e := by have := tx_nb (f := M 231) (b := b) hb.2; have := hb.1; omega
              have g26 : b + 1 ≤ tx_r (tx_l (M 231)) e b := by have := (tx_sb (f := M 231) hb.2).2.2 (g_isb j24); rwa [tx_s1 j24] at this
              refine fw_iffd (cc := .eq) (pc := 93) (off := 7) (by decide +kernel) (by decide) ⟨by decide, by decide⟩ (by decide) ?_
              refine gm_sz (gm_p_const (pc := 96) (i := .iconst 4) (v := gm_vi 4) (by decide +kernel) (by decide +kernel)) ?_
              refine gm_sz (gm_p_goto (pc := 97) (off := 45) (by decide +kernel) (by decide)) ?_
              refine gm_sz (gm_p_stor (pc := 142) (i := .istore_n 1) (sr := 0) (j := 1) (by decide +kernel) rfl (show 2 ≤ _ from Nat.le_of_ble_eq_true rfl) rfl) ?_
              refine gm_sz (gm_p_load (pc := 143) (i := .aload_n 0) (sr := 2) (j := 0) (by decide +kernel) rfl rfl rfl) ?_
              refine gm_sz (gm_p_load (pc := 144) (i := .iload_n 1) (sr := 0) (j := 1) (by decide +kernel) rfl rfl rfl) ?_
              refine gm_sz (gm_p_const (pc := 145) (i := .iconst 0) (v := gm_vi 0) (by decide +kernel) (by decide +kernel)) ?_
              refine gm_c_virt (k := 226) (ci := 11) (mj := 279) (ix := 227) (pc := 146) (as := [gm_vi 4, gm_vi 0]) (st := []) (d' := d - 1) (bc' := 0) (bs' := 0) (by decide +kernel) (by decide +kernel) (by decide +kernel) (by decide +kernel) (tR226 hE).1 (tR226 hE).2 (by decide) (by decide +kernel) (show 2 = gm_na 279 by decide +kernel) (fw_c2 fw_si fw_si) (show 3 ≤ gm_ml 279 by decide +kernel) (Nat.le_of_ble_eq_true rfl) (by omega) (Nat.zero_le _) (Nat.zero_le _) ?_
              refine sr_c279 hE ⟨by omega, by omega⟩ k0 (fun W28 kW28 => ?_)
              show gm_Wp X LX d _ _ 281 149 _ [] n K R _ Q
              refine gm_sz (gm_p_load (pc := 149) (i := .iload_n 1) (sr := 0) (j := 1) (by decide +kernel) rfl rfl rfl) ?_
              refine fw_iffd (cc := .lt) (pc := 150) (off := 7) (by decide +kernel) (by decide) ⟨by decide, by decide⟩ (by decide) ?_
              refine gm_sz (gm_p_const (pc := 153) (i := .iconst 1) (v := gm_vi 1) (by decide +kernel) (by decide +kernel)) ?_
              refine gm_sz (gm_p_goto (pc := 154) (off := 4) (by decide +kernel) (by decide)) ?_
              rw [g_p1 (Or.inr (Or.inr (Or.inr (Or.inr (Or.inr (Or.inl j24))))))] at h1
              have z9 : s_pt (M 231) e b = (4, 0) := by
                unfold s_pt s_fc
                rw [tif_f (show ¬ tx_k (M 231) e b = 258 by have := g_kis j24; omega), tif_f j4, tif_f j9, tif_f j14, tif_f j19, tif_t j24]
              rw [z9] at h1
              have hs3 := hs3 (g_isb j24)
              rw [tx_s1 j24] at hs1 hs2 hs3
              refine gm_r_int (pc := 158) (by decide +kernel) (Or.inr ⟨(by decide +kernel), Or.inr rfl⟩) (h1 _ _ _ _ kW28 rfl ⟨by omega, by omega⟩ ?_ ⟨by omega, by omega, by omega⟩)
              rw [← tx_s1 j24]
              rfl
            · show gm_Wp X LX d _ _ 281 93 _ [gm_vi 0] n K R _ Q
              have j24 : ¬ tx_is (M 231) e b wo_speed := fun hh => j24 ((tr_is hb (by decide)).mpr hh)
              refine fw_iftd (cc := .eq) (pc := 93) (off := 7) (by decide +kernel) (by decide) ⟨by decide, by decide⟩ (by decide) ?_
              refine gm_sz (gm_p_load (pc := 100) (i := .aload_n 0) (sr := 2) (j := 0) (by decide +kernel) rfl rfl rfl) ?_
              refine gm_sz (gm_p_ldcs (pc := 101) (i := .ldc 205) (ix := 205) (id := 53) (by decide +kernel) (Or.inl rfl) (by decide +kernel)) ?_
              refine gm_c_virt (k := 226) (ci := 11) (mj := 250) (ix := 134) (pc := 103) (as := [gm_vo 53]) (st := []) (d' := d - 1) (bc' := 0) (bs' := 0) (by decide +kernel) (by decide +kernel) (by decide +kernel) (by decide +kernel) (tR226 hE).1 (tR226 hE).2 (by decide) (by decide +kernel) (show 1 = gm_na 250 by decide +kernel) (fw_c1 fw_so) (show 2 ≤ gm_ml 250 by decide +kernel) (Nat.le_of_ble_eq_true rfl) (by omega) (Nat.zero_le _) (Nat.zero_le _) ?_
              refine tr_c250 (by omega) hE (by decide) (show tx_o 53 = wo_person by decide +kernel) ⟨hb.1, (tx_rb (q := tx_l (M 231)) (e := e) _ b rfl hb.2).1, (tx_rb (q := tx_l (M 231)) (e := e) _ b rfl hb.2).2.1⟩ (fun j29 => ?_) (fun j29 => ?_)
              · show gm_Wp X LX d _ _ 281 106 _ [gm_vi 1] n K R _ Q
                have j29 : tx_is (M 231) e b wo_person := (tr_is hb (by decide)).mp j29
                have q30 : tx_g (M 231) e (tx_r (tx_l (M 231)) e b) = tx_n (M 231) e b := by rw [← tx_s1 j29]; rfl
                have g32 : 0 ≤ tx_n (M 231) e b ∧ tx_n (M 231) e b ≤ e := by have := tx_nb (f := M 231) (b := b) hb.2; have := hb.1; omega
                have g31 : b + 1 ≤ tx_r (tx_l (M 231)) e b := by have := (tx_sb (f := M 231) hb.2).2.2 (g_isb j29); rwa [tx_s1 j29] at this
                refine fw_iffd (cc := .eq) (pc := 106) (off := 7) (by decide +kernel) (by decide) ⟨by decide, by decide⟩ (by decide) ?_
                refine gm_sz (gm_p_const (pc := 109) (i := .iconst 5) (v := gm_vi 5) (by decide +kernel) (by decide +kernel)) ?_
                refine gm_sz (gm_p_goto (pc := 110) (off := 32) (by decide +kernel) (by decide)) ?_
                refine gm_sz (gm_p_stor (pc := 142) (i := .istore_n 1) (sr := 0) (j := 1) (by decide +kernel) rfl (show 2 ≤ _ from Nat.le_of_ble_eq_true rfl) rfl) ?_
                refine gm_sz (gm_p_load (pc := 143) (i := .aload_n 0) (sr := 2) (j := 0) (by decide +kernel) rfl rfl rfl) ?_
                refine gm_sz (gm_p_load (pc := 144) (i := .iload_n 1) (sr := 0) (j := 1) (by decide +kernel) rfl rfl rfl) ?_
                refine gm_sz (gm_p_const (pc := 145) (i := .iconst 0) (v := gm_vi 0) (by decide +kernel) (by decide +kernel)) ?_
                refine gm_c_virt (k := 226) (ci := 11) (mj := 279) (ix := 227) (pc := 146) (as := [gm_vi 5, gm_vi 0]) (st := []) (d' := d - 1) (bc' := 0) (bs' := 0) (by decide +kernel) (by decide +kernel) (by decide +kernel) (by decide +kernel) (tR226 hE).1 (tR226 hE).2 (by decide) (by decide +kernel) (show 2 = gm_na 279 by decide +kernel) (fw_c2 fw_si fw_si) (show 3 ≤ gm_ml 279 by decide +kernel) (Nat.le_of_ble_eq_true rfl) (by omega) (Nat.zero_le _) (Nat.zero_le _) ?_
                refine sr_c279 hE ⟨by omega, by omega⟩ k0 (fun W33 kW33 => ?_)
                show gm_Wp X LX d _ _ 281 149 _ [] n K R _ Q
                refine gm_sz (gm_p_load (pc := 149) (i := .iload_n 1) (sr := 0) (j := 1) (by decide +kernel) rfl rfl rfl) ?_
                refine fw_iffd (cc := .lt) (pc := 150) (off := 7) (by decide +kernel) (by decide) ⟨by decide, by decide⟩ (by decide) ?_
                refine gm_sz (gm_p_const (pc := 153) (i := .iconst 1) (v := gm_vi 1) (by decide +kernel) (by decide +kernel)) ?_
                refine gm_sz (gm_p_goto (pc := 154) (off := 4) (by decide +kernel) (by decide)) ?_
                rw [g_p1 (Or.inr (Or.inr (Or.inr (Or.inr (Or.inr (Or.inr (Or.inl j29)))))))] at h1
                have z9 : s_pt (M 231) e b = (5, 0) := by
                  unfold s_pt s_fc
                  rw [tif_f (show ¬ tx_k (M 231) e b = 258 by have := g_kis j29; omega), tif_f j4, tif_f j9, tif_f j14, tif_f j19, tif_f j24, tif_t j29]
                rw [z9] at h1
                have hs3 := hs3 (g_isb j29)
                rw [tx_s1 j29] at hs1 hs2 hs3
                refine gm_r_int (pc := 158) (by decide +kernel) (Or.inr ⟨(by decide +kernel), Or.inr rfl⟩) (h1 _ _ _ _ kW33 rfl ⟨by omega, by omega⟩ ?_ ⟨by omega, by omega, by omega⟩)
                rw [← tx_s1 j29]
                rfl
              · show gm_Wp X LX d _ _ 281 106 _ [gm_vi 0] n K R _ Q
                have j29 : ¬ tx_is (M 231) e b wo_person := fun hh => j29 ((tr_is hb (by decide)).mpr hh)
                refine fw_iftd (cc := .eq) (pc := 106) (off := 7) (by decide +kernel) (by decide) ⟨by decide, by decide⟩ (by decide) ?_
                refine gm_sz (gm_p_load (pc := 113) (i := .aload_n 0) (sr := 2) (j := 0) (by decide +kernel) rfl rfl rfl) ?_
                refine gm_sz (gm_p_ldcs (pc := 114) (i := .ldc 241) (ix := 241) (id := 71) (by decide +kernel) (Or.inl rfl) (by decide +kernel)) ?_
                refine gm_c_virt (k := 226) (ci := 11) (mj := 250) (ix := 134) (pc := 116) (as := [gm_vo 71]) (st := []) (d' := d - 1) (bc' := 0) (bs' := 0) (by decide +kernel) (by decide +kernel) (by decide +kernel) (by decide +kernel) (tR226 hE).1 (tR226 hE).2 (by decide) (by decide +kernel) (show 1 = gm_na 250 by decide +kernel) (fw_c1 fw_so) (show 2 ≤ gm_ml 250 by decide +kernel) (Nat.le_of_ble_eq_true rfl) (by omega) (Nat.zero_le _) (Nat.zero_le _) ?_
                refine tr_c250 (by omega) hE (by decide) (show tx_o 71 = wo_age by decide +kernel) ⟨hb.1, (tx_rb (q := tx_l (M 231)) (e := e) _ b rfl hb.2).1, (tx_rb (q := tx_l (M 231)) (e := e) _ b rfl hb.2).2.1⟩ (fun j34 => ?_) (fun j34 => ?_)
                · show gm_Wp X LX d _ _ 281 119 _ [gm_vi 1] n K R _ Q
                  have j34 : tx_is (M 231) e b wo_age := (tr_is hb (by decide)).mp j34
                  have q35 : tx_g (M 231) e (tx_r (tx_l (M 231)) e b) = tx_n (M 231) e b := by rw [← tx_s1 j34]; rfl
                  have g37 : 0 ≤ tx_n (M 231) e b ∧ tx_n (M 231) e b ≤ e := by have := tx_nb (f := M 231) (b := b) hb.2; have := hb.1; omega
                  have g36 : b + 1 ≤ tx_r (tx_l (M 231)) e b := by have := (tx_sb (f := M 231) hb.2).2.2 (g_isb j34); rwa [tx_s1 j34] at this
                  refine fw_iffd (cc := .eq) (pc := 119) (off := 8) (by decide +kernel) (by decide) ⟨by decide, by decide⟩ (by decide) ?_
                  refine gm_sz (gm_p_const (pc := 122) (i := .bipush 6) (v := gm_vi 6) (by decide +kernel) (by decide +kernel)) ?_
                  refine gm_sz (gm_p_goto (pc := 124) (off := 18) (by decide +kernel) (by decide)) ?_
                  refine gm_sz (gm_p_stor (pc := 142) (i := .istore_n 1) (sr := 0) (j := 1) (by decide +kernel) rfl (show 2 ≤ _ from Nat.le_of_ble_eq_true rfl) rfl) ?_
                  refine gm_sz (gm_p_load (pc := 143) (i := .aload_n 0) (sr := 2) (j := 0) (by decide +kernel) rfl rfl rfl) ?_
                  refine gm_sz (gm_p_load (pc := 144) (i := .iload_n 1) (sr := 0) (j := 1) (by decide +kernel) rfl rfl rfl) ?_
                  refine gm_sz (gm_p_const (pc := 145) (i := .iconst 0) (v := gm_vi 0) (by decide +kernel) (by decide +kernel)) ?_
                  refine gm_c_virt (k := 226) (ci := 11) (mj := 279) (ix := 227) (pc := 146) (as := [gm_vi 6, gm_vi 0]) (st := []) (d' := d - 1) (bc' := 0) (bs' := 0) (by decide +kernel) (by decide +kernel) (by decide +kernel) (by decide +kernel) (tR226 hE).1 (tR226 hE).2 (by decide) (by decide +kernel) (show 2 = gm_na 279 by decide +kernel) (fw_c2 fw_si fw_si) (show 3 ≤ gm_ml 279 by decide +kernel) (Nat.le_of_ble_eq_true rfl) (by omega) (Nat.zero_le _) (Nat.zero_le _) ?_
                  refine sr_c279 hE ⟨by omega, by omega⟩ k0 (fun W38 kW38 => ?_)
                  show gm_Wp X LX d _ _ 281 149 _ [] n K R _ Q
                  refine gm_sz (gm_p_load (pc := 149) (i := .iload_n 1) (sr := 0) (j := 1) (by decide +kernel) rfl rfl rfl) ?_
                  refine fw_iffd (cc := .lt) (pc := 150) (off := 7) (by decide +kernel) (by decide) ⟨by decide, by decide⟩ (by decide) ?_
                  refine gm_sz (gm_p_const (pc := 153) (i := .iconst 1) (v := gm_vi 1) (by decide +kernel) (by decide +kernel)) ?_
                  refine gm_sz (gm_p_goto (pc := 154) (off := 4) (by decide +kernel) (by decide)) ?_
                  rw [g_p1 (Or.inr (Or.inr (Or.inr (Or.inr (Or.inr (Or.inr (Or.inr (Or.inl j34))))))))] at h1
                  have z9 : s_pt (M 231) e b = (6, 0) := by
                    unfold s_pt s_fc
                    rw [tif_f (show ¬ tx_k (M 231) e b = 258 by have := g_kis j34; omega), tif_f j4, tif_f j9, tif_f j14, tif_f j19, tif_f j24, tif_f j29, tif_t j34]
                  rw [z9] at h1
                  have hs3 := hs3 (g_isb j34)
                  rw [tx_s1 j34] at hs1 hs2 hs3
                  refine gm_r_int (pc := 158) (by decide +kernel) (Or.inr ⟨(by decide +kernel), Or.inr rfl⟩) (h1 _ _ _ _ kW38 rfl ⟨by omega, by omega⟩ ?_ ⟨by omega, by omega, by omega⟩)
                  rw [← tx_s1 j34]
                  rfl
                · show gm_Wp X LX d _ _ 281 119 _ [gm_vi 0] n K R _ Q
                  have j34 : ¬ tx_is (M 231) e b wo_age := fun hh => j34 ((tr_is hb (by decide)).mpr hh)
                  refine fw_iftd (cc := .eq) (pc := 119) (off := 8) (by decide +kernel) (by decide) ⟨by decide, by decide⟩ (by decide) ?_
                  refine gm_sz (gm_p_load (pc := 127) (i := .aload_n 0) (sr := 2) (j := 0) (by decide +kernel) rfl rfl rfl) ?_
                  refine gm_sz (gm_p_ldcs (pc := 128) (i := .ldc 243) (ix := 243) (id := 72) (by decide +kernel) (Or.inl rfl) (by decide +kernel)) ?_
                  refine gm_c_virt (k := 226) (ci := 11) (mj := 250) (ix := 134) (pc := 130) (as := [gm_vo 72]) (st := []) (d' := d - 1) (bc' := 0) (bs' := 0) (by decide +kernel) (by decide +kernel) (by decide +kernel) (by decide +kernel) (tR226 hE).1 (tR226 hE).2 (by decide) (by decide +kernel) (show 1 = gm_na 250 by decide +kernel) (fw_c1 fw_so) (show 2 ≤ gm_ml 250 by decide +kernel) (Nat.le_of_ble_eq_true rfl) (by omega) (Nat.zero_le _) (Nat.zero_le _) ?_
                  refine tr_c250 (by omega) hE (by decide) (show tx_o 72 = wo_deep by decide +kernel) ⟨hb.1, (tx_rb (q := tx_l (M 231)) (e := e) _ b rfl hb.2).1, (tx_rb (q := tx_l (M 231)) (e := e) _ b rfl hb.2).2.1⟩ (fun j39 => ?_) (fun j39 => ?_)
                  · show gm_Wp X LX d _ _ 281 133 _ [gm_vi 1] n K R _ Q
                    have j39 : tx_is (M 231) e b wo_deep := (tr_is hb (by decide)).mp j39
                    have q40 : tx_g (M 231) e (tx_r (tx_l (M 231)) e b) = tx_n (M 231) e b := by rw [← tx_s1 j39]; rfl
                    have g42 : 0 ≤ tx_n (M 231) e b ∧ tx_n (M 231) e b ≤ e := by have := tx_nb (f := M 231) (b := b) hb.2; have := hb.1; omega
                    have g41 : b + 1 ≤ tx_r (tx_l (M 231)) e b := by have := (tx_sb (f := M 231) hb.2).2.2 (g_isb j39); rwa [tx_s1 j39] at this
                    refine fw_iffd (cc := .eq) (pc := 133) (off := 8) (by decide +kernel) (by decide) ⟨by decide, by decide⟩ (by decide) ?_
                    refine gm_sz (gm_p_const (pc := 136) (i := .bipush 7) (v := gm_vi 7) (by decide +kernel) (by decide +kernel)) ?_
                    refine gm_sz (gm_p_goto (pc := 138) (off := 4) (by decide +kernel) (by decide)) ?_
                    refine gm_sz (gm_p_stor (pc := 142) (i := .istore_n 1) (sr := 0) (j := 1) (by decide +kernel) rfl (show 2 ≤ _ from Nat.le_of_ble_eq_true rfl) rfl) ?_
                    refine gm_sz (gm_p_load (pc := 143) (i := .aload_n 0) (sr := 2) (j := 0) (by decide +kernel) rfl rfl rfl) ?_
                    refine gm_sz (gm_p_load (pc := 144) (i := .iload_n 1) (sr := 0) (j := 1) (by decide +kernel) rfl rfl rfl) ?_
                    refine gm_sz (gm_p_const (pc := 145) (i := .iconst 0) (v := gm_vi 0) (by decide +kernel) (by decide +kernel)) ?_
                    refine gm_c_virt (k := 226) (ci := 11) (mj := 279) (ix := 227) (pc := 146) (as := [gm_vi 7, gm_vi 0]) (st := []) (d' := d - 1) (bc' := 0) (bs' := 0) (by decide +kernel) (by decide +kernel) (by decide +kernel) (by decide +kernel) (tR226 hE).1 (tR226 hE).2 (by decide) (by decide +kernel) (show 2 = gm_na 279 by decide +kernel) (fw_c2 fw_si fw_si) (show 3 ≤ gm_ml 279 by decide +kernel) (Nat.le_of_ble_eq_true rfl) (by omega) (Nat.zero_le _) (Nat.zero_le _) ?_
                    refine sr_c279 hE ⟨by omega, by omega⟩ k0 (fun W43 kW43 => ?_)
                    show gm_Wp X LX d _ _ 281 149 _ [] n K R _ Q
                    refine gm_sz (gm_p_load (pc := 149) (i := .iload_n 1) (sr := 0) (j := 1) (by decide +kernel) rfl rfl rfl) ?_
                    refine fw_iffd (cc := .lt) (pc := 150) (off := 7) (by decide +kernel) (by decide) ⟨by decide, by decide⟩ (by decide) ?_
                    refine gm_sz (gm_p_const (pc := 153) (i := .iconst 1) (v := gm_vi 1) (by decide +kernel) (by decide +kernel)) ?_
                    refine gm_sz (gm_p_goto (pc := 154) (off := 4) (by decide +kernel) (by decide)) ?_
                    rw [g_p1 (Or.inr (Or.inr (Or.inr (Or.inr (Or.inr (Or.inr (Or.inr (Or.inr (j39)))))))))] at h1
                    have z9 : s_pt (M 231) e b = (7, 0) := by
                      unfold s_pt s_fc
                      rw [tif_f (show ¬ tx_k (M 231) e b = 258 by have := g_kis j39; omega), tif_f j4, tif_f j9, tif_f j14, tif_f j19, tif_f j24, tif_f j29, tif_f j34]
                    rw [z9] at h1
                    have hs3 := hs3 (g_isb j39)
                    rw [tx_s1 j39] at hs1 hs2 hs3
                    refine gm_r_int (pc := 158) (by decide +kernel) (Or.inr ⟨(by decide +kernel), Or.inr rfl⟩) (h1 _ _ _ _ kW43 rfl ⟨by omega, by omega⟩ ?_ ⟨by omega, by omega, by omega⟩)
                    rw [← tx_s1 j39]
                    rfl
                  · show gm_Wp X LX d _ _ 281 133 _ [gm_vi 0] n K R _ Q
                    have j39 : ¬ tx_is (M 231) e b wo_deep := fun hh => j39 ((tr_is hb (by decide)).mpr hh)
                    refine fw_iftd (cc := .eq) (pc := 133) (off := 8) (by decide +kernel) (by decide) ⟨by decide, by decide⟩ (by decide) ?_
                    refine gm_sz (gm_p_const (pc := 141) (i := .iconst (-1)) (v := gm_vi (-1)) (by decide +kernel) (by decide +kernel)) ?_
                    refine gm_sz (gm_p_stor (pc := 142) (i := .istore_n 1) (sr := 0) (j := 1) (by decide +kernel) rfl (show 2 ≤ _ from Nat.le_of_ble_eq_true rfl) rfl) ?_
                    refine gm_sz (gm_p_load (pc := 143) (i := .aload_n 0) (sr := 2) (j := 0) (by decide +kernel) rfl rfl rfl) ?_
                    refine gm_sz (gm_p_load (pc := 144) (i := .iload_n 1) (sr := 0) (j := 1) (by decide +kernel) rfl rfl rfl) ?_
                    refine gm_sz (gm_p_const (pc := 145) (i := .iconst 0) (v := gm_vi 0) (by decide +kernel) (by decide +kernel)) ?_
                    refine gm_c_virt (k := 226) (ci := 11) (mj := 279) (ix := 227) (pc := 146) (as := [gm_vi (-1), gm_vi 0]) (st := []) (d' := d - 1) (bc' := 0) (bs' := 0) (by decide +kernel) (by decide +kernel) (by decide +kernel) (by decide +kernel) (tR226 hE).1 (tR226 hE).2 (by decide) (by decide +kernel) (show 2 = gm_na 279 by decide +kernel) (fw_c2 fw_si fw_si) (show 3 ≤ gm_ml 279 by decide +kernel) (Nat.le_of_ble_eq_true rfl) (by omega) (Nat.zero_le _) (Nat.zero_le _) ?_
                    refine sr_c279 hE ⟨by omega, by omega⟩ k0 (fun W44 kW44 => ?_)
                    show gm_Wp X LX d _ _ 281 149 _ [] n K R _ Q
                    refine gm_sz (gm_p_load (pc := 149) (i := .iload_n 1) (sr := 0) (j := 1) (by decide +kernel) rfl rfl rfl) ?_
                    refine fw_iftd (cc := .lt) (pc := 150) (off := 7) (by decide +kernel) (by decide) ⟨by decide, by decide⟩ (by decide) ?_
                    refine gm_sz (gm_p_const (pc := 157) (i := .iconst 0) (v := gm_vi 0) (by decide +kernel) (by decide +kernel)) ?_
                    have np : ¬ g_pt (M 231) e b := fun hh => by
                      rcases hh with hh | hh
                      · have := tx_kne (f := M 231) (e := e) (b := b) (by omega)
                        by_cases h8 : 97 ≤ M 231 b ∧ M 231 b ≤ 122
                        · have := (tx_k1 (m := 0) this h8).1
                          omega
                        · have := tx_rf (q := tx_l (M 231)) (e := e) (p := b) (fun h h2 => h8 (of_decide_eq_true h2))
                          omega
                      · rcases hh with hh | hh | hh | hh | hh | hh | hh | hh <;> contradiction
                    rw [g_p0 np] at h0
                    exact gm_r_int (pc := 158) (by decide +kernel) (Or.inr ⟨(by decide +kernel), Or.inl rfl⟩) (h0 _ _ _ _ (kW44.2.1) (fun h => by cases h))
  · have j3 : (tx_r (tx_l (M 231)) e b) = b := Classical.not_not.mp j3
    have hgb : tx_g (M 231) e b = b := by rw [← hg]; exact tx_gi hp.2
    rw [show tx_r (tx_l (M 231)) e b = b by omega]
    refine gm_sz (gm_p_load (pc := 15) (i := .aload_n 0) (sr := 2) (j := 0) (by decide +kernel) rfl rfl rfl) ?_
    refine gm_sz (gm_p_const (pc := 16) (i := .iconst 0) (v := gm_vi 0) (by decide +kernel) (by decide +kernel)) ?_
    refine gm_sz (gm_p_const (pc := 17) (i := .sipush 999) (v := gm_vi 999) (by decide +kernel) (by decide +kernel)) ?_
    refine gm_sz (gm_p_const (pc := 20) (i := .iconst 3) (v := gm_vi 3) (by decide +kernel) (by decide +kernel)) ?_
    refine gm_c_virt (k := 226) (ci := 11) (mj := 256) (ix := 138) (pc := 21) (as := [gm_vi 0, gm_vi 999, gm_vi 3]) (st := []) (d' := d - 1) (bc' := 0) (bs' := 0) (by decide +kernel) (by decide +kernel) (by decide +kernel) (by decide +kernel) (tR226 hE).1 (tR226 hE).2 (by decide) (by decide +kernel) (show 3 = gm_na 256 by decide +kernel) (fw_c3 fw_si fw_si fw_si) (show 4 ≤ gm_ml 256 by decide +kernel) (Nat.le_of_ble_eq_true rfl) (by omega) (Nat.zero_le _) (Nat.zero_le _) ?_
    refine tr_c256 (by omega) hE (by decide) (by decide) ⟨by decide, by decide⟩ hb hgb (fun j45 => ?_) (fun j45 p46 => ?_)
    · show gm_Wp X LX d _ _ 281 24 _ [gm_vi (tx_v (M 231) e 3 b)] n K R _ Q
      have j45 : tx_k (M 231) e b = 258 ∧ 0 ≤ tx_v (M 231) e 3 b ∧ tx_v (M 231) e 3 b ≤ 999 := j45
      have g47 : 0 ≤ tx_s (M 231) e b ∧ tx_s (M 231) e b ≤ e := by have := tx_sb (f := M 231) hb.2; have := hb.1; omega
      have g48 : 0 ≤ tx_n (M 231) e b ∧ tx_n (M 231) e b ≤ e := by have := tx_gb (f := M 231) g47.2; have := g47.1; unfold tx_n; omega
      have j45s := (tx_sb (f := M 231) hb.2).2.2 (tx_kne (f := M 231) (by omega))
      have j45p := (tx_gb (f := M 231) hb.2).1
      rw [hgb] at j45p
      have j45v := tx_vb (f := M 231) (e := e) (m := 3) (b := b) (by decide)
      refine gm_sz (gm_p_stor (pc := 24) (i := .istore_n 1) (sr := 0) (j := 1) (by decide +kernel) rfl (show 2 ≤ _ from Nat.le_of_ble_eq_true rfl) rfl) ?_
      refine gm_sz (gm_p_load (pc := 25) (i := .aload_n 0) (sr := 2) (j := 0) (by decide +kernel) rfl rfl rfl) ?_
      refine gm_sz (gm_p_const (pc := 26) (i := .bipush 10) (v := gm_vi 10) (by decide +kernel) (by decide +kernel)) ?_
      refine gm_sz (gm_p_load (pc := 28) (i := .iload_n 1) (sr := 0) (j := 1) (by decide +kernel) rfl rfl rfl) ?_
      refine gm_c_virt (k := 226) (ci := 11) (mj := 279) (ix := 227) (pc := 29) (as := [gm_vi 10, gm_vi (tx_v (M 231) e 3 b)]) (st := []) (d' := d - 1) (bc' := 0) (bs' := 0) (by decide +kernel) (by decide +kernel) (by decide +kernel) (by decide +kernel) (tR226 hE).1 (tR226 hE).2 (by decide) (by decide +kernel) (show 2 = gm_na 279 by decide +kernel) (fw_c2 fw_si fw_si) (show 3 ≤ gm_ml 279 by decide +kernel) (Nat.le_of_ble_eq_true rfl) (by omega) (Nat.zero_le _) (Nat.zero_le _) ?_
      refine sr_c279 hE ⟨by omega, by omega⟩ k0 (fun W49 kW49 => ?_)
      show gm_Wp X LX d _ _ 281 32 _ [] n K R _ Q
      refine gm_sz (gm_p_goto (pc := 32) (off := 117) (by decide +kernel) (by decide)) ?_
      refine gm_sz (gm_p_load (pc := 149) (i := .iload_n 1) (sr := 0) (j := 1) (by decide +kernel) rfl rfl rfl) ?_
      refine fw_iff (cc := .lt) (pc := 150) (off := 7) (by decide +kernel) (by decide) ⟨by omega, by omega⟩ (show ¬ (tx_v (M 231) e 3 b) < 0 by omega) ?_
      refine gm_sz (gm_p_const (pc := 153) (i := .iconst 1) (v := gm_vi 1) (by decide +kernel) (by decide +kernel)) ?_
      refine gm_sz (gm_p_goto (pc := 154) (off := 4) (by decide +kernel) (by decide)) ?_
      rw [g_p1 (Or.inl ⟨by omega, by omega⟩)] at h1
      rw [show s_pt (M 231) e b = (10, tx_v (M 231) e 3 b) from tif_t j45.1] at h1
      have hs3 := hs3 (tx_kne (f := M 231) (by omega))
      exact gm_r_int (pc := 158) (by decide +kernel) (Or.inr ⟨(by decide +kernel), Or.inr rfl⟩) (h1 _ _ _ _ kW49 rfl ⟨by omega, by omega⟩ rfl ⟨by omega, by omega, by omega⟩)
    · show gm_Wp X LX d _ _ 281 24 _ [gm_vi (-1)] n K R _ Q
      have j45 : ¬ (tx_k (M 231) e b = 258 ∧ 0 ≤ tx_v (M 231) e 3 b ∧ tx_v (M 231) e 3 b ≤ 999) := j45
      refine gm_sz (gm_p_stor (pc := 24) (i := .istore_n 1) (sr := 0) (j := 1) (by decide +kernel) rfl (show 2 ≤ _ from Nat.le_of_ble_eq_true rfl) rfl) ?_
      refine gm_sz (gm_p_load (pc := 25) (i := .aload_n 0) (sr := 2) (j := 0) (by decide +kernel) rfl rfl rfl) ?_
      refine gm_sz (gm_p_const (pc := 26) (i := .bipush 10) (v := gm_vi 10) (by decide +kernel) (by decide +kernel)) ?_
      refine gm_sz (gm_p_load (pc := 28) (i := .iload_n 1) (sr := 0) (j := 1) (by decide +kernel) rfl rfl rfl) ?_
      refine gm_c_virt (k := 226) (ci := 11) (mj := 279) (ix := 227) (pc := 29) (as := [gm_vi 10, gm_vi (-1)]) (st := []) (d' := d - 1) (bc' := 0) (bs' := 0) (by decide +kernel) (by decide +kernel) (by decide +kernel) (by decide +kernel) (tR226 hE).1 (tR226 hE).2 (by decide) (by decide +kernel) (show 2 = gm_na 279 by decide +kernel) (fw_c2 fw_si fw_si) (show 3 ≤ gm_ml 279 by decide +kernel) (Nat.le_of_ble_eq_true rfl) (by omega) (Nat.zero_le _) (Nat.zero_le _) ?_
      refine sr_c279 hE ⟨by omega, by omega⟩ k0 (fun W50 kW50 => ?_)
      show gm_Wp X LX d _ _ 281 32 _ [] n K R _ Q
      refine gm_sz (gm_p_goto (pc := 32) (off := 117) (by decide +kernel) (by decide)) ?_
      refine gm_sz (gm_p_load (pc := 149) (i := .iload_n 1) (sr := 0) (j := 1) (by decide +kernel) rfl rfl rfl) ?_
      refine fw_iftd (cc := .lt) (pc := 150) (off := 7) (by decide +kernel) (by decide) ⟨by decide, by decide⟩ (by decide) ?_
      refine gm_sz (gm_p_const (pc := 157) (i := .iconst 0) (v := gm_vi 0) (by decide +kernel) (by decide +kernel)) ?_
      have np : ¬ g_pt (M 231) e b := fun hh => by
        rcases hh with hh | hh
        · have := tx_vb (f := M 231) (e := e) (m := 3) (b := b) (by decide)
          have := tx_v9 (f := M 231) (e := e) (b := b)
          omega
        · have h9 := g_fk hh
          have h8 := tx_kne (f := M 231) (e := e) (b := b) (by omega)
          by_cases h7 : 97 ≤ M 231 b ∧ M 231 b ≤ 122
          · have := tx_rs (q := tx_l (M 231)) (e := e) h8 (decide_eq_true h7)
            omega
          · by_cases h6 : 48 ≤ M 231 b ∧ M 231 b ≤ 57
            · have := (tx_k2 (m := 0) h8 h6).1
              omega
            · have := (tx_k3 (f := M 231) (m := 0) h8 h7 h6).1
              omega
      rw [g_p0 np] at h0
      exact gm_r_int (pc := 158) (by decide +kernel) (Or.inr ⟨(by decide +kernel), Or.inl rfl⟩) (h0 _ _ _ _ (kW50.2.1) (fun h => by cases h))

/-- what steps a sum lays down behind its first part, a row of ANDs behind its first, a row of ORs -/
noncomputable def e_sm (f : Int → Int) (e : Int) (t : Nat) (c : Int) : List (Int × Int) := tif (tx_k f e c = 43) (rps (s_sum f e t (tx_n f e c))) []
noncomputable def e_am (f : Int → Int) (e : Int) (A : Int → Bool × Int) (SA : Int → List lst) (t : Nat) (c : Int) : List (Int × Int) := tif (tx_is f e c wo_and) (srds (s_all f e A SA t false (tx_n f e c))) []
noncomputable def e_cm (f : Int → Int) (e : Int) (A : Int → Bool × Int) (SA : Int → List lst) (t : Nat) (c : Int) : List (Int × Int) := tif (tx_is f e c wo_or) (srds (s_cnd f e A SA t false (tx_n f e c))) []
section EM
variable {f : Int → Int} {A : Int → Bool × Int} {SA : Int → List lst} {t : Nat} {c : Int}
theorem e_sm0 (h : ¬ tx_k f e c = 43) : e_sm f e t c = [] := tif_f h
theorem e_sm2 (h : tx_k f e c = 43) : e_sm f e (t + 1) c = s_pt f e (tx_n f e c) :: (11, 0) :: e_sm f e t (tx_n f e (tx_n f e c)) := by
  unfold e_sm
  rw [tif_t h]
  by_cases h2 : tx_k f e (tx_n f e (tx_n f e c)) = 43
  · rw [s_sum2 h2, tif_t h2]
    rfl
  · rw [s_sum1 h2, tif_f h2]
    rfl
theorem e_sme : rpt (s_sum f e (t + 1) b) = s_pt f e b :: e_sm f e t (tx_n f e b) := by
  unfold e_sm
  by_cases h2 : tx_k f e (tx_n f e b) = 43
  · rw [s_sum2 h2, tif_t h2]
    rfl
  · rw [s_sum1 h2, tif_f h2]
    rfl
theorem e_am0 (h : ¬ tx_is f e c wo_and) : e_am f e A SA t c = [] := tif_f h
theorem e_am2 (h : tx_is f e c wo_and) : e_am f e A SA (t + 1) c = srds (SA (tx_n f e c)) ++ (15, 0) :: e_am f e A SA t (A (tx_n f e c)).2 := by
  unfold e_am
  rw [tif_t h]
  by_cases h2 : tx_is f e (A (tx_n f e c)).2 wo_and
  · rw [s_l2 h2, tif_t h2, if_neg (by decide), srds_app, srds_app, srds_1 (Or.inr (Or.inl rfl))]
    rfl
  · rw [s_l1 h2, tif_f h2, if_neg (by decide), srds_app, srds_1 (Or.inr (Or.inl rfl))]
theorem e_ame : srds (s_all f e A SA (t + 1) true b) = srds (SA b) ++ e_am f e A SA t (A b).2 := by
  unfold e_am
  by_cases h2 : tx_is f e (A b).2 wo_and
  · rw [s_l2 h2, tif_t h2, if_pos rfl, srds_app]
    rfl
  · rw [s_l1 h2, tif_f h2, if_pos rfl, srds_app]
    rfl
theorem e_cm0 (h : ¬ tx_is f e c wo_or) : e_cm f e A SA t c = [] := tif_f h
theorem e_cm2 (h : tx_is f e c wo_or) : e_cm f e A SA (t + 1) c = srds (s_all f e A SA 400 true (tx_n f e c)) ++ (16, 0) :: e_cm f e A SA t (g_all f e A 400 (tx_n f e c)).2 := by
  unfold e_cm
  rw [tif_t h]
  by_cases h2 : tx_is f e (g_all f e A 400 (tx_n f e c)).2 wo_or
  · rw [s_d2 h2, tif_t h2, if_neg (by decide), srds_app, srds_app, srds_1 (Or.inr (Or.inr (Or.inl rfl)))]
    rfl
  · rw [s_d1 h2, tif_f h2, if_neg (by decide), srds_app, srds_1 (Or.inr (Or.inr (Or.inl rfl)))]
theorem e_cme : srds (s_cnd f e A SA (t + 1) true b) = srds (s_all f e A SA 400 true b) ++ e_cm f e A SA t (g_all f e A 400 b).2 := by
  unfold e_cm
  by_cases h2 : tx_is f e (g_all f e A 400 b).2 wo_or
  · rw [s_d2 h2, tif_t h2, if_pos rfl, srds_app]
    rfl
  · rw [s_d1 h2, tif_f h2, if_pos rfl, srds_app]
    rfl
end EM
theorem sr_s280 (hd : 9 ≤ d) (hE : tR n K R M e) : ∀ (t : Nat) (pt c bg st : Int) (W : Int → Int) (L : List (Int × Int)) (Q : gm_Q), e - c < 2 * (t : Int) → 0 ≤ pt ∧ pt ≤ e → tx_g (M 231) e pt = c → 0 ≤ st ∧ st + 1 ≤ pt → RL L W0 st W → (∀ p2 bg2 st2 W2, RL (L ++ e_sm (M 231) e t c) W0 st2 W2 → (g_sm (M 231) e t c).1 = true → 0 ≤ p2 ∧ p2 ≤ e → tx_g (M 231) e p2 = (g_sm (M 231) e t c).2 → 0 ≤ st2 ∧ st2 - st ≤ p2 - pt ∧ pt ≤ p2 → Q (.inl (some (gm_vi 1))) n K R (rm M p2 bg2 dp st2 W2)) → (∀ p2 dp2 st2 W2, (∀ j, j < 1293 → W2 j = W0 j) → ¬ (g_sm (M 231) e t c).1 = true → Q (.inl (some (gm_vi 0))) n K R (rm M p2 (g_sm (M 231) e t c).2 dp2 st2 W2)) → gm_Wp X LX d bc bs 280 9 [some (gm_vr 226)] [] n K R (rm M pt bg dp st W) Q := by
  obtain ⟨-, he0, he4⟩ := tRe hE
  intro t
  induction t with
  | zero =>
    intro pt c bg st W L Q ht hp hg hst k0 h1 h0
    obtain ⟨hg1, hg2, -⟩ := tx_gb (f := M 231) hp.2
    rw [hg] at hg1 hg2
    exact absurd ht (by omega)
  | succ t ih =>
    intro pt c bg st W L Q ht hp hg hst k0 h1 h0
    obtain ⟨hg1, hg2, -⟩ := tx_gb (f := M 231) hp.2
    rw [hg] at hg1 hg2
    have hb : 0 ≤ c ∧ c ≤ e := ⟨by omega, hg2⟩
    obtain ⟨hn1, hn2, hn3⟩ := tx_nb (f := M 231) hb.2
    refine gm_sz (gm_p_load (pc := 9) (i := .aload_n 0) (sr := 2) (j := 0) (by decide +kernel) rfl rfl rfl) ?_
    refine gm_sz (gm_p_const (pc := 10) (i := .bipush 43) (v := gm_vi 43) (by decide +kernel) (by decide +kernel)) ?_
    refine gm_c_virt (k := 226) (ci := 11) (mj := 278) (ix := 248) (pc := 12) (as := [gm_vi 43]) (st := []) (d' := d - 1) (bc' := 0) (bs' := 0) (by decide +kernel) (by decide +kernel) (by decide +kernel) (by decide +kernel) (tR226 hE).1 (tR226 hE).2 (by decide) (by decide +kernel) (show 1 = gm_na 278 by decide +kernel) (fw_c1 fw_si) (show 2 ≤ gm_ml 278 by decide +kernel) (Nat.le_of_ble_eq_true rfl) (by omega) (Nat.zero_le _) (Nat.zero_le _) ?_
    refine tr_c278 (by omega) hE (by decide) hp hg (fun j1 => ?_) (fun j1 => ?_)
    · show gm_Wp X LX d _ _ 280 15 _ [gm_vi 1] n K R _ Q
      have j1 : tx_k (M 231) e c = 43 := j1
      have g2 : 0 ≤ tx_s (M 231) e c ∧ tx_s (M 231) e c ≤ e := by have := tx_sb (f := M 231) hb.2; have := hb.1; omega
      have g3 : 0 ≤ tx_n (M 231) e c ∧ tx_n (M 231) e c ≤ e := by have := tx_gb (f := M 231) g2.2; have := g2.1; unfold tx_n; omega
      have j1s := (tx_sb (f := M 231) hb.2).2.2 (tx_kne (f := M 231) (by omega))
      have j1p := (tx_gb (f := M 231) hp.2).1
      rw [hg] at j1p
      refine fw_iffd (cc := .eq) (pc := 15) (off := 22) (by decide +kernel) (by decide) ⟨by decide, by decide⟩ (by decide) ?_
      refine gm_sz (gm_p_load (pc := 18) (i := .aload_n 0) (sr := 2) (j := 0) (by decide +kernel) rfl rfl rfl) ?_
      refine gm_c_virt (k := 226) (ci := 11) (mj := 281) (ix := 245) (pc := 19) (as := []) (st := []) (d' := d - 1) (bc' := 0) (bs' := 0) (by decide +kernel) (by decide +kernel) (by decide +kernel) (by decide +kernel) (tR226 hE).1 (tR226 hE).2 (by decide) (by decide +kernel) (show 0 = gm_na 281 by decide +kernel) fw_c0 (show 1 ≤ gm_ml 281 by decide +kernel) (Nat.le_of_ble_eq_true rfl) (by omega) (Nat.zero_le _) (Nat.zero_le _) ?_
      refine sr_c281 hE _ _ _ _ _ _ _ _ _ _ (by omega) g2 rfl ⟨by omega, by omega⟩ k0 (fun p5 x6 s7 W8 kW8 j9 q10b q10 t12 => ?_) (fun p5 x14 s7 W8 fW8 j9 => ?_)
      · show gm_Wp X LX d _ _ 280 22 _ [gm_vi 1] n K R _ Q
        have j9 : (g_par (M 231) e (tx_n (M 231) e c)).1 = true := j9
        have q10 : tx_g (M 231) e p5 = (g_par (M 231) e (tx_n (M 231) e c)).2 := q10
        have g11 : 0 ≤ (g_par (M 231) e (tx_n (M 231) e c)).2 ∧ (g_par (M 231) e (tx_n (M 231) e c)).2 ≤ e := by have := g_par_in (f := M 231) (tx_n (M 231) e c) g3.1 g3.2; have := g3.1; omega
        have i13 := (g_par_in (f := M 231) (tx_n (M 231) e c) g3.1 g3.2)
        have i13 := i13.2.2 j9
        refine fw_iftd (cc := .ne) (pc := 22) (off := 5) (by decide +kernel) (by decide) ⟨by decide, by decide⟩ (by decide) ?_
        refine gm_sz (gm_p_load (pc := 27) (i := .aload_n 0) (sr := 2) (j := 0) (by decide +kernel) rfl rfl rfl) ?_
        refine gm_sz (gm_p_const (pc := 28) (i := .bipush 11) (v := gm_vi 11) (by decide +kernel) (by decide +kernel)) ?_
        refine gm_sz (gm_p_const (pc := 30) (i := .iconst 0) (v := gm_vi 0) (by decide +kernel) (by decide +kernel)) ?_
        refine gm_c_virt (k := 226) (ci := 11) (mj := 279) (ix := 227) (pc := 31) (as := [gm_vi 11, gm_vi 0]) (st := []) (d' := d - 1) (bc' := 0) (bs' := 0) (by decide +kernel) (by decide +kernel) (by decide +kernel) (by decide +kernel) (tR226 hE).1 (tR226 hE).2 (by decide) (by decide +kernel) (show 2 = gm_na 279 by decide +kernel) (fw_c2 fw_si fw_si) (show 3 ≤ gm_ml 279 by decide +kernel) (Nat.le_of_ble_eq_true rfl) (by omega) (Nat.zero_le _) (Nat.zero_le _) ?_
        refine sr_c279 hE ⟨by omega, by omega⟩ kW8 (fun W15 kW15 => ?_)
        show gm_Wp X LX d _ _ 280 34 _ [] n K R _ Q
        refine gm_sz (gm_p_goto (pc := 34) (off := (-25)) (by decide +kernel) (by decide)) ?_
        have yp : g_pt (M 231) e (tx_n (M 231) e c) := Classical.byContradiction (fun hh => by rw [g_p0 hh] at j9; cases j9)
        rw [g_sm2 j1 yp] at h1 h0
        rw [e_sm2 j1, List.append_cons, List.append_cons] at h1
        rw [g_p1 yp] at q10
        have hn4 := tx_nb (f := M 231) hn2
        have hn5 := hn4.2.2 (g_pk yp)
        refine ih _ _ _ _ _ _ _ (by omega) q10b q10 ⟨by omega, by omega⟩ kW15 (fun p2 bg2 st2 W2 r0 r1 r2 r3 r4 => h1 p2 bg2 st2 W2 r0 r1 r2 r3 ⟨by omega, by omega, by omega⟩) h0
      · show gm_Wp X LX d _ _ 280 22 _ [gm_vi 0] n K R _ Q
        have j9 : ¬ (g_par (M 231) e (tx_n (M 231) e c)).1 = true := j9
        have g11 : 0 ≤ (g_par (M 231) e (tx_n (M 231) e c)).2 ∧ (g_par (M 231) e (tx_n (M 231) e c)).2 ≤ e := by have := g_par_in (f := M 231) (tx_n (M 231) e c) g3.1 g3.2; have := g3.1; omega
        refine fw_iffd (cc := .ne) (pc := 22) (off := 5) (by decide +kernel) (by decide) ⟨by decide, by decide⟩ (by decide) ?_
        refine gm_sz (gm_p_const (pc := 25) (i := .iconst 0) (v := gm_vi 0) (by decide +kernel) (by decide +kernel)) ?_
        have np : ¬ g_pt (M 231) e (tx_n (M 231) e c) := fun hh => j9 (by rw [g_p1 hh])
        rw [g_sm1 j1 np] at h0
        rw [show g_par (M 231) e (tx_g (M 231) e (tx_s (M 231) e c)) = (false, tx_n (M 231) e c) from g_p0 np]
        exact gm_r_int (pc := 26) (by decide +kernel) (Or.inr ⟨(by decide +kernel), Or.inl rfl⟩) (h0 _ _ _ _ (fW8) (fun h => by cases h))
    · show gm_Wp X LX d _ _ 280 15 _ [gm_vi 0] n K R _ Q
      have j1 : ¬ tx_k (M 231) e c = 43 := j1
      have q4 : tx_g (M 231) e c = c := by rw [← hg]; exact tx_gi hp.2
      refine fw_iftd (cc := .eq) (pc := 15) (off := 22) (by decide +kernel) (by decide) ⟨by decide, by decide⟩ (by decide) ?_
      refine gm_sz (gm_p_const (pc := 37) (i := .iconst 1) (v := gm_vi 1) (by decide +kernel) (by decide +kernel)) ?_
      rw [g_sm0 j1, e_sm0 j1, List.append_nil] at h1
      exact gm_r_int (pc := 38) (by decide +kernel) (Or.inr ⟨(by decide +kernel), Or.inr rfl⟩) (h1 _ _ _ _ k0 rfl hb q4 ⟨by omega, by omega, by omega⟩)

theorem sr_c280 (hE : tR n K R M e) : cR2 X LX n K R M e dp W0 280 (g_sum (M 231) e 400) (fun b => rpt (s_sum (M 231) e 400 b)) 9 := by
  obtain ⟨-, he0, he4⟩ := tRe hE
  intro d bc bs pt b bg st W L Q hd hp hg hst k0 h1 h0
  have h1 : ∀ p2 bg2 st2 W2, RL (L ++ rpt (s_sum (M 231) e 400 b)) W0 st2 W2 → (g_sum (M 231) e 400 b).1 = true → 0 ≤ p2 ∧ p2 ≤ e → tx_g (M 231) e p2 = (g_sum (M 231) e 400 b).2 → 0 ≤ st2 ∧ st2 - st ≤ p2 - pt ∧ pt ≤ p2 → Q (.inl (some (gm_vi 1))) n K R (rm M p2 bg2 dp st2 W2) := h1
  obtain ⟨hg1, hg2, -⟩ := tx_gb (f := M 231) hp.2
  rw [hg] at hg1 hg2
  have hb : 0 ≤ b ∧ b ≤ e := ⟨by omega, hg2⟩
  refine gm_sz (gm_p_load (pc := 0) (i := .aload_n 0) (sr := 2) (j := 0) (by decide +kernel) rfl rfl rfl) ?_
  refine gm_c_virt (k := 226) (ci := 11) (mj := 281) (ix := 245) (pc := 1) (as := []) (st := []) (d' := d - 1) (bc' := 0) (bs' := 0) (by decide +kernel) (by decide +kernel) (by decide +kernel) (by decide +kernel) (tR226 hE).1 (tR226 hE).2 (by decide) (by decide +kernel) (show 0 = gm_na 281 by decide +kernel) fw_c0 (show 1 ≤ gm_ml 281 by decide +kernel) (Nat.le_of_ble_eq_true rfl) (by omega) (Nat.zero_le _) (Nat.zero_le _) ?_
  refine sr_c281 hE _ _ _ _ _ _ _ _ _ _ (by omega) hp hg ⟨by omega, by omega⟩ k0 (fun p1 x2 s3 W4 kW4 j5 q6b q6 t8 => ?_) (fun p1 x10 s3 W4 fW4 j5 => ?_)
  · show gm_Wp X LX d _ _ 280 4 _ [gm_vi 1] n K R _ Q
    have j5 : (g_par (M 231) e b).1 = true := j5
    have q6 : tx_g (M 231) e p1 = (g_par (M 231) e b).2 := q6
    have g7 : 0 ≤ (g_par (M 231) e b).2 ∧ (g_par (M 231) e b).2 ≤ e := by have := g_par_in (f := M 231) b hb.1 hb.2; have := hb.1; omega
    have i9 := (g_par_in (f := M 231) b hb.1 hb.2)
    have i9 := i9.2.2 j5
    refine fw_iftd (cc := .ne) (pc := 4) (off := 5) (by decide +kernel) (by decide) ⟨by decide, by decide⟩ (by decide) ?_
    have yp : g_pt (M 231) e b := Classical.byContradiction (fun hh => by rw [g_p0 hh] at j5; cases j5)
    rw [g_sme (t := 399) yp] at h1 h0
    rw [e_sme (t := 399), List.append_cons] at h1
    rw [g_p1 yp] at q6
    have hn4 := tx_nb (f := M 231) hb.2
    exact sr_s280 hd hE 399 _ _ _ _ _ _ _ (by omega) q6b q6 ⟨by omega, by omega⟩ kW4 (fun p2 bg2 st2 W2 r0 r1 r2 r3 r4 => h1 p2 bg2 st2 W2 r0 r1 r2 r3 ⟨by omega, by omega, by omega⟩) h0
  · show gm_Wp X LX d _ _ 280 4 _ [gm_vi 0] n K R _ Q
    have j5 : ¬ (g_par (M 231) e b).1 = true := j5
    have g7 : 0 ≤ (g_par (M 231) e b).2 ∧ (g_par (M 231) e b).2 ≤ e := by have := g_par_in (f := M 231) b hb.1 hb.2; have := hb.1; omega
    refine fw_iffd (cc := .ne) (pc := 4) (off := 5) (by decide +kernel) (by decide) ⟨by decide, by decide⟩ (by decide) ?_
    refine gm_sz (gm_p_const (pc := 7) (i := .iconst 0) (v := gm_vi 0) (by decide +kernel) (by decide +kernel)) ?_
    have np : ¬ g_pt (M 231) e b := fun hh => j5 (by rw [g_p1 hh])
    rw [g_sum0 (t := 399) np] at h0
    rw [g_p0 np]
    exact gm_r_int (pc := 8) (by decide +kernel) (Or.inr ⟨(by decide +kernel), Or.inl rfl⟩) (h0 _ _ _ _ (fW4) (fun h => by cases h))

theorem sr_c277 {A A2 : Int → Bool × Int} {SA SC : Int → List lst} {ok : Prop} {dA dC dn : Nat} (hE : tR n K R M e) (hdep : 0 ≤ dp ∧ dp ≤ 6) (hok6 : ok ↔ dp < 6) (hA : ok → cR2 X LX n K R M e (dp + 1) W0 277 A (fun b => srds (SA b)) dA) (hC : ok → cR2 X LX n K R M e (dp + 1) W0 275 A2 (fun b => srds (SC b)) dC) (iA : g_in e A) (iC : g_in e A2) (hd9 : 10 ≤ dn ∧ (ok → dA + 1 ≤ dn ∧ dC + 1 ≤ dn)) : cR2 X LX n K R M e dp W0 277 (g_atm (M 231) e A A2 ok) (fun b => srds (s_atm (M 231) e SA SC b)) dn := by
  obtain ⟨-, he0, he4⟩ := tRe hE
  intro d bc bs pt b bg st W L Q hd hp hg hst k0 h1 h0
  have h1 : ∀ p2 bg2 st2 W2, RL (L ++ srds (s_atm (M 231) e SA SC b)) W0 st2 W2 → (g_atm (M 231) e A A2 ok b).1 = true → 0 ≤ p2 ∧ p2 ≤ e → tx_g (M 231) e p2 = (g_atm (M 231) e A A2 ok b).2 → 0 ≤ st2 ∧ st2 - st ≤ p2 - pt ∧ pt ≤ p2 → Q (.inl (some (gm_vi 1))) n K R (rm M p2 bg2 dp st2 W2) := h1
  obtain ⟨hg1, hg2, -⟩ := tx_gb (f := M 231) hp.2
  rw [hg] at hg1 hg2
  have hb : 0 ≤ b ∧ b ≤ e := ⟨by omega, hg2⟩
  have hkb := tx_kc (f := M 231) (e := e) (b := b) (fun h => tRb hE hb.1 (by omega))
  have hsb := g_sum_in (f := M 231) 400 b hb.1 hb.2
  refine gm_sz (gm_p_load (pc := 0) (i := .aload_n 0) (sr := 2) (j := 0) (by decide +kernel) rfl rfl rfl) ?_
  refine gm_sz (gm_p_const (pc := 1) (i := .bipush 40) (v := gm_vi 40) (by decide +kernel) (by decide +kernel)) ?_
  refine gm_c_virt (k := 226) (ci := 11) (mj := 278) (ix := 248) (pc := 3) (as := [gm_vi 40]) (st := []) (d' := d - 1) (bc' := 0) (bs' := 0) (by decide +kernel) (by decide +kernel) (by decide +kernel) (by decide +kernel) (tR226 hE).1 (tR226 hE).2 (by decide) (by decide +kernel) (show 1 = gm_na 278 by decide +kernel) (fw_c1 fw_si) (show 2 ≤ gm_ml 278 by decide +kernel) (Nat.le_of_ble_eq_true rfl) (by omega) (Nat.zero_le _) (Nat.zero_le _) ?_
  refine tr_c278 (by omega) hE (by decide) hp hg (fun j1 => ?_) (fun j1 => ?_)
  · show gm_Wp X LX d _ _ 277 6 _ [gm_vi 1] n K R _ Q
    have j1 : tx_k (M 231) e b = 40 := j1
    have g2 : 0 ≤ tx_s (M 231) e b ∧ tx_s (M 231) e b ≤ e := by have := tx_sb (f := M 231) hb.2; have := hb.1; omega
    have g3 : 0 ≤ tx_n (M 231) e b ∧ tx_n (M 231) e b ≤ e := by have := tx_gb (f := M 231) g2.2; have := g2.1; unfold tx_n; omega
    have j1s := (tx_sb (f := M 231) hb.2).2.2 (tx_kne (f := M 231) (by omega))
    have j1p := (tx_gb (f := M 231) hp.2).1
    rw [hg] at j1p
    refine fw_iffd (cc := .eq) (pc := 6) (off := 50) (by decide +kernel) (by decide) ⟨by decide, by decide⟩ (by decide) ?_
    refine gm_sz (gm_p_load (pc := 9) (i := .aload_n 0) (sr := 2) (j := 0) (by decide +kernel) rfl rfl rfl) ?_
    refine gm_sz (fw_gi (pc := 10) (ix := 251) (ci := 11) (j := 12) (x := dp) (by decide +kernel) (tR226 hE) (by decide +kernel) (by decide +kernel) rfl) ?_
    refine gm_sz (gm_p_const (pc := 13) (i := .bipush 6) (v := gm_vi 6) (by decide +kernel) (by decide +kernel)) ?_
    refine fw_ic (cc := .ne) (pc := 15) (off := 5) (by decide +kernel) (by decide) ⟨by omega, by omega⟩ ⟨by decide, by decide⟩ (fun j5 => ?_) (fun j5 => ?_)
    · have j5 : ¬ dp = 6 := j5
      refine gm_sz (gm_p_load (pc := 20) (i := .aload_n 0) (sr := 2) (j := 0) (by decide +kernel) rfl rfl rfl) ?_
      refine gm_sz (gm_p_dup (pc := 21) (by decide +kernel) fw_sr) ?_
      refine gm_sz (fw_gi (pc := 22) (ix := 251) (ci := 11) (j := 12) (x := dp) (by decide +kernel) (tR226 hE) (by decide +kernel) (by decide +kernel) rfl) ?_
      refine gm_sz (gm_p_const (pc := 25) (i := .iconst 1) (v := gm_vi 1) (by decide +kernel) (by decide +kernel)) ?_
      refine gm_sz (gm_p_bin (pc := 26) (i := .iadd) (f := fun x y => x + y) (by decide +kernel) rfl) ?_
      refine gm_sz (fw_pi (pc := 27) (ix := 251) (ci := 11) (j := 12) (M' := rm M (tx_s (M 231) e b) b (dp + 1) st W) (by decide +kernel) (tR226 hE) (by decide +kernel) (by decide +kernel) (by decide +kernel) rm_dp) ?_
      refine gm_sz (gm_p_load (pc := 30) (i := .aload_n 0) (sr := 2) (j := 0) (by decide +kernel) rfl rfl rfl) ?_
      refine gm_c_virt (k := 226) (ci := 11) (mj := 275) (ix := 253) (pc := 31) (as := []) (st := []) (d' := d - 1) (bc' := 0) (bs' := 0) (by decide +kernel) (by decide +kernel) (by decide +kernel) (by decide +kernel) (tR226 hE).1 (tR226 hE).2 (by decide) (by decide +kernel) (show 0 = gm_na 275 by decide +kernel) fw_c0 (show 1 ≤ gm_ml 275 by decide +kernel) (Nat.le_of_ble_eq_true rfl) (by omega) (Nat.zero_le _) (Nat.zero_le _) ?_
      refine hC (hok6.mpr (by omega)) _ _ _ _ _ _ _ _ _ _ (by have := hd9.2 (hok6.mpr (by omega)); omega) g2 rfl ⟨by omega, by omega⟩ k0 (fun p6 x7 s8 W9 kW9 j10 q11b q11 t13 => ?_) (fun p6 x15 s8 W9 fW9 j10 => ?_)
      · show gm_Wp X LX d _ _ 277 34 _ [gm_vi 1] n K R _ Q
        have j10 : (A2 (tx_n (M 231) e b)).1 = true := j10
        have q11 : tx_g (M 231) e p6 = (A2 (tx_n (M 231) e b)).2 := q11
        have g12 : 0 ≤ (A2 (tx_n (M 231) e b)).2 ∧ (A2 (tx_n (M 231) e b)).2 ≤ e := by have := iC (tx_n (M 231) e b) g3.1 g3.2; have := g3.1; omega
        have i14 := (iC (tx_n (M 231) e b) g3.1 g3.2)
        have i14 := i14.2.2 j10
        refine fw_iftd (cc := .ne) (pc := 34) (off := 5) (by decide +kernel) (by decide) ⟨by decide, by decide⟩ (by decide) ?_
        refine gm_sz (gm_p_load (pc := 39) (i := .aload_n 0) (sr := 2) (j := 0) (by decide +kernel) rfl rfl rfl) ?_
        refine gm_sz (gm_p_dup (pc := 40) (by decide +kernel) fw_sr) ?_
        refine gm_sz (fw_gi (pc := 41) (ix := 251) (ci := 11) (j := 12) (x := dp + 1) (by decide +kernel) (tR226 hE) (by decide +kernel) (by decide +kernel) rfl) ?_
        refine gm_sz (gm_p_const (pc := 44) (i := .iconst 1) (v := gm_vi 1) (by decide +kernel) (by decide +kernel)) ?_
        refine gm_sz (gm_p_bin (pc := 45) (i := .isub) (f := fun x y => x - y) (by decide +kernel) rfl) ?_
        refine gm_sz (fw_pi (pc := 46) (ix := 251) (ci := 11) (j := 12) (M' := rm M p6 x7 dp s8 W9) (by decide +kernel) (tR226 hE) (by decide +kernel) (by decide +kernel) (by decide +kernel) (by rw [rm_dp, show dp + 1 - 1 = dp by omega])) ?_
        refine gm_sz (gm_p_load (pc := 49) (i := .aload_n 0) (sr := 2) (j := 0) (by decide +kernel) rfl rfl rfl) ?_
        refine gm_sz (gm_p_const (pc := 50) (i := .bipush 41) (v := gm_vi 41) (by decide +kernel) (by decide +kernel)) ?_
        refine gm_c_virt (k := 226) (ci := 11) (mj := 278) (ix := 248) (pc := 52) (as := [gm_vi 41]) (st := []) (d' := d - 1) (bc' := 0) (bs' := 0) (by decide +kernel) (by decide +kernel) (by decide +kernel) (by decide +kernel) (tR226 hE).1 (tR226 hE).2 (by decide) (by decide +kernel) (show 1 = gm_na 278 by decide +kernel) (fw_c1 fw_si) (show 2 ≤ gm_ml 278 by decide +kernel) (Nat.le_of_ble_eq_true rfl) (by omega) (Nat.zero_le _) (Nat.zero_le _) ?_
        refine tr_c278 (by omega) hE (by decide) q11b q11 (fun j16 => ?_) (fun j16 => ?_)
        · show gm_Wp X LX d _ _ 277 55 _ [gm_vi 1] n K R _ Q
          have j16 : tx_k (M 231) e ((A2 (tx_n (M 231) e b)).2) = 41 := j16
          have g17 : 0 ≤ tx_s (M 231) e ((A2 (tx_n (M 231) e b)).2) ∧ tx_s (M 231) e ((A2 (tx_n (M 231) e b)).2) ≤ e := by have := tx_sb (f := M 231) g12.2; have := g12.1; omega
          have g18 : 0 ≤ tx_n (M 231) e ((A2 (tx_n (M 231) e b)).2) ∧ tx_n (M 231) e ((A2 (tx_n (M 231) e b)).2) ≤ e := by have := tx_gb (f := M 231) g17.2; have := g17.1; have h9 : tx_n (M 231) e ((A2 (tx_n (M 231) e b)).2) = tx_g (M 231) e (tx_s (M 231) e ((A2 (tx_n (M 231) e b)).2)) := rfl; omega
          have j16s := (tx_sb (f := M 231) g12.2).2.2 (tx_kne (f := M 231) (by omega))
          have j16p := (tx_gb (f := M 231) q11b.2).1
          rw [q11] at j16p
          rw [g_a3 (fun h => by have := g_kis h; omega) j1 (hok6.mpr (by omega)) j10 j16] at h1
          rw [s_a3 (fun h => by have := g_kis h; omega) j1] at h1
          exact gm_r_int (pc := 55) (by decide +kernel) (Or.inr ⟨(by decide +kernel), Or.inr rfl⟩) (h1 _ _ _ _ kW9 rfl g17 rfl ⟨by omega, by omega, by omega⟩)
        · show gm_Wp X LX d _ _ 277 55 _ [gm_vi 0] n K R _ Q
          have j16 : ¬ tx_k (M 231) e ((A2 (tx_n (M 231) e b)).2) = 41 := j16
          have q19 : tx_g (M 231) e ((A2 (tx_n (M 231) e b)).2) = (A2 (tx_n (M 231) e b)).2 := by rw [← q11]; exact tx_gi q11b.2
          rw [g_a4 (fun h => by have := g_kis h; omega) j1 (hok6.mpr (by omega)) j10 j16] at h0
          exact gm_r_int (pc := 55) (by decide +kernel) (Or.inr ⟨(by decide +kernel), Or.inl rfl⟩) (h0 _ _ _ _ (kW9.2.1) (fun h => by cases h))
      · show gm_Wp X LX d _ _ 277 34 _ [gm_vi 0] n K R _ Q
        have j10 : ¬ (A2 (tx_n (M 231) e b)).1 = true := j10
        have g12 : 0 ≤ (A2 (tx_n (M 231) e b)).2 ∧ (A2 (tx_n (M 231) e b)).2 ≤ e := by have := iC (tx_n (M 231) e b) g3.1 g3.2; have := g3.1; omega
        refine fw_iffd (cc := .ne) (pc := 34) (off := 5) (by decide +kernel) (by decide) ⟨by decide, by decide⟩ (by decide) ?_
        refine gm_sz (gm_p_const (pc := 37) (i := .iconst 0) (v := gm_vi 0) (by decide +kernel) (by decide +kernel)) ?_
        rw [g_a2 (fun h => by have := g_kis h; omega) j1 (hok6.mpr (by omega)) j10] at h0
        exact gm_r_int (pc := 38) (by decide +kernel) (Or.inr ⟨(by decide +kernel), Or.inl rfl⟩) (h0 _ _ _ _ (fW9) j10)
    · have j5 : dp = 6 := Classical.not_not.mp j5
      refine gm_sz (gm_p_const (pc := 18) (i := .iconst 0) (v := gm_vi 0) (by decide +kernel) (by decide +kernel)) ?_
      rw [g_a0 (Or.inr j1) (fun h => by have := hok6.mp h; omega)] at h0
      exact gm_r_int (pc := 19) (by decide +kernel) (Or.inr ⟨(by decide +kernel), Or.inl rfl⟩) (h0 _ _ _ _ (k0.2.1) (fun h => by cases h))
  · show gm_Wp X LX d _ _ 277 6 _ [gm_vi 0] n K R _ Q
    have j1 : ¬ tx_k (M 231) e b = 40 := j1
    have q4 : tx_g (M 231) e b = b := by rw [← hg]; exact tx_gi hp.2
    refine fw_iftd (cc := .eq) (pc := 6) (off := 50) (by decide +kernel) (by decide) ⟨by decide, by decide⟩ (by decide) ?_
    refine gm_sz (gm_p_load (pc := 56) (i := .aload_n 0) (sr := 2) (j := 0) (by decide +kernel) rfl rfl rfl) ?_
    refine gm_sz (gm_p_ldcs (pc := 57) (i := .ldc_w 256) (ix := 256) (id := 63) (by decide +kernel) (Or.inr rfl) (by decide +kernel)) ?_
    refine gm_c_virt (k := 226) (ci := 11) (mj := 269) (ix := 170) (pc := 60) (as := [gm_vo 63]) (st := []) (d' := d - 1) (bc' := 0) (bs' := 0) (by decide +kernel) (by decide +kernel) (by decide +kernel) (by decide +kernel) (tR226 hE).1 (tR226 hE).2 (by decide) (by decide +kernel) (show 1 = gm_na 269 by decide +kernel) (fw_c1 fw_so) (show 2 ≤ gm_ml 269 by decide +kernel) (Nat.le_of_ble_eq_true rfl) (by omega) (Nat.zero_le _) (Nat.zero_le _) ?_
    refine tr_c269 (by omega) hE (by decide) (show tx_o 63 = wo_not by decide +kernel) (by decide) hb q4 (fun j20 => ?_) (fun j20 => ?_)
    · show gm_Wp X LX d _ _ 277 63 _ [gm_vi 1] n K R _ Q
      have j20 : tx_is (M 231) e b wo_not := j20
      have g21 : 0 ≤ tx_s (M 231) e b ∧ tx_s (M 231) e b ≤ e := by have := tx_sb (f := M 231) hb.2; have := hb.1; omega
      have g22 : 0 ≤ tx_n (M 231) e b ∧ tx_n (M 231) e b ≤ e := by have := tx_gb (f := M 231) g21.2; have := g21.1; unfold tx_n; omega
      have j20s := (tx_sb (f := M 231) hb.2).2.2 (g_isb j20)
      have j20p := (tx_gb (f := M 231) hb.2).1
      rw [q4] at j20p
      refine fw_iffd (cc := .eq) (pc := 63) (off := 52) (by decide +kernel) (by decide) ⟨by decide, by decide⟩ (by decide) ?_
      refine gm_sz (gm_p_load (pc := 66) (i := .aload_n 0) (sr := 2) (j := 0) (by decide +kernel) rfl rfl rfl) ?_
      refine gm_sz (fw_gi (pc := 67) (ix := 251) (ci := 11) (j := 12) (x := dp) (by decide +kernel) (tR226 hE) (by decide +kernel) (by decide +kernel) rfl) ?_
      refine gm_sz (gm_p_const (pc := 70) (i := .bipush 6) (v := gm_vi 6) (by decide +kernel) (by decide +kernel)) ?_
      refine fw_ic (cc := .ne) (pc := 72) (off := 5) (by decide +kernel) (by decide) ⟨by omega, by omega⟩ ⟨by decide, by decide⟩ (fun j24 => ?_) (fun j24 => ?_)
      · have j24 : ¬ dp = 6 := j24
        refine gm_sz (gm_p_load (pc := 77) (i := .aload_n 0) (sr := 2) (j := 0) (by decide +kernel) rfl rfl rfl) ?_
        refine gm_sz (gm_p_dup (pc := 78) (by decide +kernel) fw_sr) ?_
        refine gm_sz (fw_gi (pc := 79) (ix := 251) (ci := 11) (j := 12) (x := dp) (by decide +kernel) (tR226 hE) (by decide +kernel) (by decide +kernel) rfl) ?_
        refine gm_sz (gm_p_const (pc := 82) (i := .iconst 1) (v := gm_vi 1) (by decide +kernel) (by decide +kernel)) ?_
        refine gm_sz (gm_p_bin (pc := 83) (i := .iadd) (f := fun x y => x + y) (by decide +kernel) rfl) ?_
        refine gm_sz (fw_pi (pc := 84) (ix := 251) (ci := 11) (j := 12) (M' := rm M (tx_s (M 231) e b) b (dp + 1) st W) (by decide +kernel) (tR226 hE) (by decide +kernel) (by decide +kernel) (by decide +kernel) rm_dp) ?_
        refine gm_sz (gm_p_load (pc := 87) (i := .aload_n 0) (sr := 2) (j := 0) (by decide +kernel) rfl rfl rfl) ?_
        refine gm_c_virt (k := 226) (ci := 11) (mj := 277) (ix := 258) (pc := 88) (as := []) (st := []) (d' := d - 1) (bc' := 0) (bs' := 0) (by decide +kernel) (by decide +kernel) (by decide +kernel) (by decide +kernel) (tR226 hE).1 (tR226 hE).2 (by decide) (by decide +kernel) (show 0 = gm_na 277 by decide +kernel) fw_c0 (show 1 ≤ gm_ml 277 by decide +kernel) (Nat.le_of_ble_eq_true rfl) (by omega) (Nat.zero_le _) (Nat.zero_le _) ?_
        refine hA (hok6.mpr (by omega)) _ _ _ _ _ _ _ _ _ _ (by have := hd9.2 (hok6.mpr (by omega)); omega) g21 rfl ⟨by omega, by omega⟩ k0 (fun p25 x26 s27 W28 kW28 j29 q30b q30 t32 => ?_) (fun p25 x34 s27 W28 fW28 j29 => ?_)
        · show gm_Wp X LX d _ _ 277 91 _ [gm_vi 1] n K R _ Q
          have j29 : (A (tx_n (M 231) e b)).1 = true := j29
          have q30 : tx_g (M 231) e p25 = (A (tx_n (M 231) e b)).2 := q30
          have g31 : 0 ≤ (A (tx_n (M 231) e b)).2 ∧ (A (tx_n (M 231) e b)).2 ≤ e := by have := iA (tx_n (M 231) e b) g22.1 g22.2; have := g22.1; omega
          have i33 := (iA (tx_n (M 231) e b) g22.1 g22.2)
          have i33 := i33.2.2 j29
          refine fw_iftd (cc := .ne) (pc := 91) (off := 5) (by decide +kernel) (by decide) ⟨by decide, by decide⟩ (by decide) ?_
          refine gm_sz (gm_p_load (pc := 96) (i := .aload_n 0) (sr := 2) (j := 0) (by decide +kernel) rfl rfl rfl) ?_
          refine gm_sz (gm_p_dup (pc := 97) (by decide +kernel) fw_sr) ?_
          refine gm_sz (fw_gi (pc := 98) (ix := 251) (ci := 11) (j := 12) (x := dp + 1) (by decide +kernel) (tR226 hE) (by decide +kernel) (by decide +kernel) rfl) ?_
          refine gm_sz (gm_p_const (pc := 101) (i := .iconst 1) (v := gm_vi 1) (by decide +kernel) (by decide +kernel)) ?_
          refine gm_sz (gm_p_bin (pc := 102) (i := .isub) (f := fun x y => x - y) (by decide +kernel) rfl) ?_
          refine gm_sz (fw_pi (pc := 103) (ix := 251) (ci := 11) (j := 12) (M' := rm M p25 x26 dp s27 W28) (by decide +kernel) (tR226 hE) (by decide +kernel) (by decide +kernel) (by decide +kernel) (by rw [rm_dp, show dp + 1 - 1 = dp by omega])) ?_
          refine gm_sz (gm_p_load (pc := 106) (i := .aload_n 0) (sr := 2) (j := 0) (by decide +kernel) rfl rfl rfl) ?_
          refine gm_sz (gm_p_const (pc := 107) (i := .bipush 14) (v := gm_vi 14) (by decide +kernel) (by decide +kernel)) ?_
          refine gm_sz (gm_p_const (pc := 109) (i := .iconst 0) (v := gm_vi 0) (by decide +kernel) (by decide +kernel)) ?_
          refine gm_c_virt (k := 226) (ci := 11) (mj := 279) (ix := 227) (pc := 110) (as := [gm_vi 14, gm_vi 0]) (st := []) (d' := d - 1) (bc' := 0) (bs' := 0) (by decide +kernel) (by decide +kernel) (by decide +kernel) (by decide +kernel) (tR226 hE).1 (tR226 hE).2 (by decide) (by decide +kernel) (show 2 = gm_na 279 by decide +kernel) (fw_c2 fw_si fw_si) (show 3 ≤ gm_ml 279 by decide +kernel) (Nat.le_of_ble_eq_true rfl) (by omega) (Nat.zero_le _) (Nat.zero_le _) ?_
          refine sr_c279 hE ⟨by omega, by omega⟩ kW28 (fun W35 kW35 => ?_)
          show gm_Wp X LX d _ _ 277 113 _ [] n K R _ Q
          refine gm_sz (gm_p_const (pc := 113) (i := .iconst 1) (v := gm_vi 1) (by decide +kernel) (by decide +kernel)) ?_
          rw [g_a1 j20 (hok6.mpr (by omega))] at h1
          rw [s_a1 j20, srds_app, srds_1 (Or.inl rfl), ← List.append_assoc] at h1
          exact gm_r_int (pc := 114) (by decide +kernel) (Or.inr ⟨(by decide +kernel), Or.inr rfl⟩) (h1 _ _ _ _ kW35 j29 q30b q30 ⟨by omega, by omega, by omega⟩)
        · show gm_Wp X LX d _ _ 277 91 _ [gm_vi 0] n K R _ Q
          have j29 : ¬ (A (tx_n (M 231) e b)).1 = true := j29
          have g31 : 0 ≤ (A (tx_n (M 231) e b)).2 ∧ (A (tx_n (M 231) e b)).2 ≤ e := by have := iA (tx_n (M 231) e b) g22.1 g22.2; have := g22.1; omega
          refine fw_iffd (cc := .ne) (pc := 91) (off := 5) (by decide +kernel) (by decide) ⟨by decide, by decide⟩ (by decide) ?_
          refine gm_sz (gm_p_const (pc := 94) (i := .iconst 0) (v := gm_vi 0) (by decide +kernel) (by decide +kernel)) ?_
          rw [g_a1 j20 (hok6.mpr (by omega))] at h0
          exact gm_r_int (pc := 95) (by decide +kernel) (Or.inr ⟨(by decide +kernel), Or.inl rfl⟩) (h0 _ _ _ _ (fW28) j29)
      · have j24 : dp = 6 := Classical.not_not.mp j24
        refine gm_sz (gm_p_const (pc := 75) (i := .iconst 0) (v := gm_vi 0) (by decide +kernel) (by decide +kernel)) ?_
        rw [g_a0 (Or.inl j20) (fun h => by have := hok6.mp h; omega)] at h0
        exact gm_r_int (pc := 76) (by decide +kernel) (Or.inr ⟨(by decide +kernel), Or.inl rfl⟩) (h0 _ _ _ _ (k0.2.1) (fun h => by cases h))
    · show gm_Wp X LX d _ _ 277 63 _ [gm_vi 0] n K R _ Q
      have j20 : ¬ tx_is (M 231) e b wo_not := j20
      have q23 : tx_g (M 231) e b = b := by rw [← q4]; exact tx_gi hb.2
      refine fw_iftd (cc := .eq) (pc := 63) (off := 52) (by decide +kernel) (by decide) ⟨by decide, by decide⟩ (by decide) ?_
      refine gm_sz (gm_p_load (pc := 115) (i := .aload_n 0) (sr := 2) (j := 0) (by decide +kernel) rfl rfl rfl) ?_
      refine gm_sz (gm_p_ldcs (pc := 116) (i := .ldc_w 261) (ix := 261) (id := 64) (by decide +kernel) (Or.inr rfl) (by decide +kernel)) ?_
      refine gm_c_virt (k := 226) (ci := 11) (mj := 269) (ix := 170) (pc := 119) (as := [gm_vo 64]) (st := []) (d' := d - 1) (bc' := 0) (bs' := 0) (by decide +kernel) (by decide +kernel) (by decide +kernel) (by decide +kernel) (tR226 hE).1 (tR226 hE).2 (by decide) (by decide +kernel) (show 1 = gm_na 269 by decide +kernel) (fw_c1 fw_so) (show 2 ≤ gm_ml 269 by decide +kernel) (Nat.le_of_ble_eq_true rfl) (by omega) (Nat.zero_le _) (Nat.zero_le _) ?_
      refine tr_c269 (by omega) hE (by decide) (show tx_o 64 = wo_side by decide +kernel) (by decide) hb q23 (fun j36 => ?_) (fun j36 => ?_)
      · show gm_Wp X LX d _ _ 277 122 _ [gm_vi 1] n K R _ Q
        have j36 : tx_is (M 231) e b wo_side := j36
        have g37 : 0 ≤ tx_s (M 231) e b ∧ tx_s (M 231) e b ≤ e := by have := tx_sb (f := M 231) hb.2; have := hb.1; omega
        have g38 : 0 ≤ tx_n (M 231) e b ∧ tx_n (M 231) e b ≤ e := by have := tx_gb (f := M 231) g37.2; have := g37.1; unfold tx_n; omega
        have j36s := (tx_sb (f := M 231) hb.2).2.2 (g_isb j36)
        have j36p := (tx_gb (f := M 231) hb.2).1
        rw [q23] at j36p
        refine gm_sz (gm_p_stor (pc := 122) (i := .istore_n 1) (sr := 0) (j := 1) (by decide +kernel) rfl (show 2 ≤ _ from Nat.le_of_ble_eq_true rfl) rfl) ?_
        refine gm_sz (gm_p_load (pc := 123) (i := .iload_n 1) (sr := 0) (j := 1) (by decide +kernel) rfl rfl rfl) ?_
        refine fw_iftd (cc := .ne) (pc := 124) (off := 13) (by decide +kernel) (by decide) ⟨by decide, by decide⟩ (by decide) ?_
        refine gm_sz (gm_p_load (pc := 137) (i := .aload_n 0) (sr := 2) (j := 0) (by decide +kernel) rfl rfl rfl) ?_
        refine gm_sz (gm_p_load (pc := 138) (i := .iload_n 1) (sr := 0) (j := 1) (by decide +kernel) rfl rfl rfl) ?_
        refine fw_iffd (cc := .eq) (pc := 139) (off := 8) (by decide +kernel) (by decide) ⟨by decide, by decide⟩ (by decide) ?_
        refine gm_sz (gm_p_const (pc := 142) (i := .bipush 8) (v := gm_vi 8) (by decide +kernel) (by decide +kernel)) ?_
        refine gm_sz (gm_p_goto (pc := 144) (off := 5) (by decide +kernel) (by decide)) ?_
        refine gm_sz (gm_p_const (pc := 149) (i := .iconst 0) (v := gm_vi 0) (by decide +kernel) (by decide +kernel)) ?_
        refine gm_c_virt (k := 226) (ci := 11) (mj := 279) (ix := 227) (pc := 150) (as := [gm_vi 8, gm_vi 0]) (st := []) (d' := d - 1) (bc' := 0) (bs' := 0) (by decide +kernel) (by decide +kernel) (by decide +kernel) (by decide +kernel) (tR226 hE).1 (tR226 hE).2 (by decide) (by decide +kernel) (show 2 = gm_na 279 by decide +kernel) (fw_c2 fw_si fw_si) (show 3 ≤ gm_ml 279 by decide +kernel) (Nat.le_of_ble_eq_true rfl) (by omega) (Nat.zero_le _) (Nat.zero_le _) ?_
        refine sr_c279 hE ⟨by omega, by omega⟩ k0 (fun W40 kW40 => ?_)
        show gm_Wp X LX d _ _ 277 153 _ [] n K R _ Q
        refine gm_sz (gm_p_const (pc := 153) (i := .iconst 1) (v := gm_vi 1) (by decide +kernel) (by decide +kernel)) ?_
        rw [g_a5 j20 j1 (Or.inl j36)] at h1
        rw [s_a5 j20 j1 j36, srds_1 (Or.inr (Or.inr (Or.inr (Or.inl rfl))))] at h1
        exact gm_r_int (pc := 154) (by decide +kernel) (Or.inr ⟨(by decide +kernel), Or.inr rfl⟩) (h1 _ _ _ _ kW40 rfl g37 rfl ⟨by omega, by omega, by omega⟩)
      · show gm_Wp X LX d _ _ 277 122 _ [gm_vi 0] n K R _ Q
        have j36 : ¬ tx_is (M 231) e b wo_side := j36
        have q39 : tx_g (M 231) e b = b := by rw [← q23]; exact tx_gi hb.2
        refine gm_sz (gm_p_stor (pc := 122) (i := .istore_n 1) (sr := 0) (j := 1) (by decide +kernel) rfl (show 2 ≤ _ from Nat.le_of_ble_eq_true rfl) rfl) ?_
        refine gm_sz (gm_p_load (pc := 123) (i := .iload_n 1) (sr := 0) (j := 1) (by decide +kernel) rfl rfl rfl) ?_
        refine fw_iffd (cc := .ne) (pc := 124) (off := 13) (by decide +kernel) (by decide) ⟨by decide, by decide⟩ (by decide) ?_
        refine gm_sz (gm_p_load (pc := 127) (i := .aload_n 0) (sr := 2) (j := 0) (by decide +kernel) rfl rfl rfl) ?_
        refine gm_sz (gm_p_ldcs (pc := 128) (i := .ldc_w 263) (ix := 263) (id := 65) (by decide +kernel) (Or.inr rfl) (by decide +kernel)) ?_
        refine gm_c_virt (k := 226) (ci := 11) (mj := 269) (ix := 170) (pc := 131) (as := [gm_vo 65]) (st := []) (d' := d - 1) (bc' := 0) (bs' := 0) (by decide +kernel) (by decide +kernel) (by decide +kernel) (by decide +kernel) (tR226 hE).1 (tR226 hE).2 (by decide) (by decide +kernel) (show 1 = gm_na 269 by decide +kernel) (fw_c1 fw_so) (show 2 ≤ gm_ml 269 by decide +kernel) (Nat.le_of_ble_eq_true rfl) (by omega) (Nat.zero_le _) (Nat.zero_le _) ?_
        refine tr_c269 (by omega) hE (by decide) (show tx_o 65 = wo_first by decide +kernel) (by decide) hb q39 (fun j41 => ?_) (fun j41 => ?_)
        · show gm_Wp X LX d _ _ 277 134 _ [gm_vi 1] n K R _ Q
          have j41 : tx_is (M 231) e b wo_first := j41
          have g42 : 0 ≤ tx_s (M 231) e b ∧ tx_s (M 231) e b ≤ e := by have := tx_sb (f := M 231) hb.2; have := hb.1; omega
          have g43 : 0 ≤ tx_n (M 231) e b ∧ tx_n (M 231) e b ≤ e := by have := tx_gb (f := M 231) g42.2; have := g42.1; unfold tx_n; omega
          have j41s := (tx_sb (f := M 231) hb.2).2.2 (g_isb j41)
          have j41p := (tx_gb (f := M 231) hb.2).1
          rw [q39] at j41p
          refine fw_iffd (cc := .eq) (pc := 134) (off := 21) (by decide +kernel) (by decide) ⟨by decide, by decide⟩ (by decide) ?_
          refine gm_sz (gm_p_load (pc := 137) (i := .aload_n 0) (sr := 2) (j := 0) (by decide +kernel) rfl rfl rfl) ?_
          refine gm_sz (gm_p_load (pc := 138) (i := .iload_n 1) (sr := 0) (j := 1) (by decide +kernel) rfl rfl rfl) ?_
          refine fw_iftd (cc := .eq) (pc := 139) (off := 8) (by decide +kernel) (by decide) ⟨by decide, by decide⟩ (by decide) ?_
          refine gm_sz (gm_p_const (pc := 147) (i := .bipush 9) (v := gm_vi 9) (by decide +kernel) (by decide +kernel)) ?_
          refine gm_sz (gm_p_const (pc := 149) (i := .iconst 0) (v := gm_vi 0) (by decide +kernel) (by decide +kernel)) ?_
          refine gm_c_virt (k := 226) (ci := 11) (mj := 279) (ix := 227) (pc := 150) (as := [gm_vi 9, gm_vi 0]) (st := []) (d' := d - 1) (bc' := 0) (bs' := 0) (by decide +kernel) (by decide +kernel) (by decide +kernel) (by decide +kernel) (tR226 hE).1 (tR226 hE).2 (by decide) (by decide +kernel) (show 2 = gm_na 279 by decide +kernel) (fw_c2 fw_si fw_si) (show 3 ≤ gm_ml 279 by decide +kernel) (Nat.le_of_ble_eq_true rfl) (by omega) (Nat.zero_le _) (Nat.zero_le _) ?_
          refine sr_c279 hE ⟨by omega, by omega⟩ k0 (fun W45 kW45 => ?_)
          show gm_Wp X LX d _ _ 277 153 _ [] n K R _ Q
          refine gm_sz (gm_p_const (pc := 153) (i := .iconst 1) (v := gm_vi 1) (by decide +kernel) (by decide +kernel)) ?_
          rw [g_a5 j20 j1 (Or.inr j41)] at h1
          rw [s_a6 j20 j1 j36 j41, srds_1 (Or.inr (Or.inr (Or.inr (Or.inr rfl))))] at h1
          exact gm_r_int (pc := 154) (by decide +kernel) (Or.inr ⟨(by decide +kernel), Or.inr rfl⟩) (h1 _ _ _ _ kW45 rfl g42 rfl ⟨by omega, by omega, by omega⟩)
        · show gm_Wp X LX d _ _ 277 134 _ [gm_vi 0] n K R _ Q
          have j41 : ¬ tx_is (M 231) e b wo_first := j41
          have q44 : tx_g (M 231) e b = b := by rw [← q39]; exact tx_gi hb.2
          refine fw_iftd (cc := .eq) (pc := 134) (off := 21) (by decide +kernel) (by decide) ⟨by decide, by decide⟩ (by decide) ?_
          refine gm_sz (gm_p_load (pc := 155) (i := .aload_n 0) (sr := 2) (j := 0) (by decide +kernel) rfl rfl rfl) ?_
          refine gm_c_virt (k := 226) (ci := 11) (mj := 280) (ix := 265) (pc := 156) (as := []) (st := []) (d' := d - 1) (bc' := 0) (bs' := 0) (by decide +kernel) (by decide +kernel) (by decide +kernel) (by decide +kernel) (tR226 hE).1 (tR226 hE).2 (by decide) (by decide +kernel) (show 0 = gm_na 280 by decide +kernel) fw_c0 (show 1 ≤ gm_ml 280 by decide +kernel) (Nat.le_of_ble_eq_true rfl) (by omega) (Nat.zero_le _) (Nat.zero_le _) ?_
          refine sr_c280 hE _ _ _ _ _ _ _ _ _ _ (by omega) hb q44 ⟨by omega, by omega⟩ k0 (fun p46 x47 s48 W49 kW49 j50 q51b q51 t53 => ?_) (fun p46 x55 s48 W49 fW49 j50 => ?_)
          · show gm_Wp X LX d _ _ 277 159 _ [gm_vi 1] n K R _ Q
            have j50 : (g_sum (M 231) e 400 b).1 = true := j50
            have q51 : tx_g (M 231) e p46 = (g_sum (M 231) e 400 b).2 := q51
            have g52 : 0 ≤ (g_sum (M 231) e 400 b).2 ∧ (g_sum (M 231) e 400 b).2 ≤ e := by have := g_sum_in (f := M 231) 400 b hb.1 hb.2; have := hb.1; omega
            have i54 := (g_sum_in (f := M 231) 400 b hb.1 hb.2)
            have i54 := i54.2.2 j50
            refine fw_iftd (cc := .ne) (pc := 159) (off := 5) (by decide +kernel) (by decide) ⟨by decide, by decide⟩ (by decide) ?_
            refine gm_sz (gm_p_load (pc := 164) (i := .aload_n 0) (sr := 2) (j := 0) (by decide +kernel) rfl rfl rfl) ?_
            refine gm_sz (gm_p_const (pc := 165) (i := .bipush 60) (v := gm_vi 60) (by decide +kernel) (by decide +kernel)) ?_
            refine gm_c_virt (k := 226) (ci := 11) (mj := 278) (ix := 248) (pc := 167) (as := [gm_vi 60]) (st := []) (d' := d - 1) (bc' := 0) (bs' := 0) (by decide +kernel) (by decide +kernel) (by decide +kernel) (by decide +kernel) (tR226 hE).1 (tR226 hE).2 (by decide) (by decide +kernel) (show 1 = gm_na 278 by decide +kernel) (fw_c1 fw_si) (show 2 ≤ gm_ml 278 by decide +kernel) (Nat.le_of_ble_eq_true rfl) (by omega) (Nat.zero_le _) (Nat.zero_le _) ?_
            refine tr_c278 (by omega) hE (by decide) q51b q51 (fun j56 => ?_) (fun j56 => ?_)
            · show gm_Wp X LX d _ _ 277 170 _ [gm_vi 1] n K R _ Q
              have j56 : tx_k (M 231) e ((g_sum (M 231) e 400 b).2) = 60 := j56
              have g57 : 0 ≤ tx_s (M 231) e ((g_sum (M 231) e 400 b).2) ∧ tx_s (M 231) e ((g_sum (M 231) e 400 b).2) ≤ e := by have := tx_sb (f := M 231) g52.2; have := g52.1; omega
              have g58 : 0 ≤ tx_n (M 231) e ((g_sum (M 231) e 400 b).2) ∧ tx_n (M 231) e ((g_sum (M 231) e 400 b).2) ≤ e := by have := tx_gb (f := M 231) g57.2; have := g57.1; have h9 : tx_n (M 231) e ((g_sum (M 231) e 400 b).2) = tx_g (M 231) e (tx_s (M 231) e ((g_sum (M 231) e 400 b).2)) := rfl; omega
              have j56s := (tx_sb (f := M 231) g52.2).2.2 (tx_kne (f := M 231) (by omega))
              have j56p := (tx_gb (f := M 231) q51b.2).1
              rw [q51] at j56p
              refine gm_sz (gm_p_stor (pc := 170) (i := .istore_n 2) (sr := 0) (j := 2) (by decide +kernel) rfl (show 3 ≤ _ from Nat.le_of_ble_eq_true rfl) rfl) ?_
              refine gm_sz (gm_p_load (pc := 171) (i := .iload_n 2) (sr := 0) (j := 2) (by decide +kernel) rfl rfl rfl) ?_
              refine fw_iftd (cc := .ne) (pc := 172) (off := 12) (by decide +kernel) (by decide) ⟨by decide, by decide⟩ (by decide) ?_
              refine gm_sz (gm_p_load (pc := 184) (i := .aload_n 0) (sr := 2) (j := 0) (by decide +kernel) rfl rfl rfl) ?_
              refine gm_c_virt (k := 226) (ci := 11) (mj := 280) (ix := 265) (pc := 185) (as := []) (st := []) (d' := d - 1) (bc' := 0) (bs' := 0) (by decide +kernel) (by decide +kernel) (by decide +kernel) (by decide +kernel) (tR226 hE).1 (tR226 hE).2 (by decide) (by decide +kernel) (show 0 = gm_na 280 by decide +kernel) fw_c0 (show 1 ≤ gm_ml 280 by decide +kernel) (Nat.le_of_ble_eq_true rfl) (by omega) (Nat.zero_le _) (Nat.zero_le _) ?_
              refine sr_c280 hE _ _ _ _ _ _ _ _ _ _ (by omega) g57 rfl ⟨by omega, by omega⟩ kW49 (fun p60 x61 s62 W63 kW63 j64 q65b q65 t67 => ?_) (fun p60 x69 s62 W63 fW63 j64 => ?_)
              · show gm_Wp X LX d _ _ 277 188 _ [gm_vi 1] n K R _ Q
                have j64 : (g_sum (M 231) e 400 (tx_n (M 231) e ((g_sum (M 231) e 400 b).2))).1 = true := j64
                have q65 : tx_g (M 231) e p60 = (g_sum (M 231) e 400 (tx_n (M 231) e ((g_sum (M 231) e 400 b).2))).2 := q65
                have g66 : 0 ≤ (g_sum (M 231) e 400 (tx_n (M 231) e ((g_sum (M 231) e 400 b).2))).2 ∧ (g_sum (M 231) e 400 (tx_n (M 231) e ((g_sum (M 231) e 400 b).2))).2 ≤ e := by have := g_sum_in (f := M 231) 400 (tx_n (M 231) e ((g_sum (M 231) e 400 b).2)) g58.1 g58.2; have := g58.1; omega
                have i68 := (g_sum_in (f := M 231) 400 (tx_n (M 231) e ((g_sum (M 231) e 400 b).2)) g58.1 g58.2)
                have i68 := i68.2.2 j64
                refine fw_iftd (cc := .ne) (pc := 188) (off := 5) (by decide +kernel) (by decide) ⟨by decide, by decide⟩ (by decide) ?_
                refine gm_sz (gm_p_load (pc := 193) (i := .aload_n 0) (sr := 2) (j := 0) (by decide +kernel) rfl rfl rfl) ?_
                refine gm_sz (gm_p_load (pc := 194) (i := .iload_n 2) (sr := 0) (j := 2) (by decide +kernel) rfl rfl rfl) ?_
                refine fw_iffd (cc := .eq) (pc := 195) (off := 8) (by decide +kernel) (by decide) ⟨by decide, by decide⟩ (by decide) ?_
                refine gm_sz (gm_p_const (pc := 198) (i := .bipush 12) (v := gm_vi 12) (by decide +kernel) (by decide +kernel)) ?_
                refine gm_sz (gm_p_goto (pc := 200) (off := 5) (by decide +kernel) (by decide)) ?_
                refine gm_sz (gm_p_const (pc := 205) (i := .iconst 0) (v := gm_vi 0) (by decide +kernel) (by decide +kernel)) ?_
                refine gm_c_virt (k := 226) (ci := 11) (mj := 279) (ix := 227) (pc := 206) (as := [gm_vi 12, gm_vi 0]) (st := []) (d' := d - 1) (bc' := 0) (bs' := 0) (by decide +kernel) (by decide +kernel) (by decide +kernel) (by decide +kernel) (tR226 hE).1 (tR226 hE).2 (by decide) (by decide +kernel) (show 2 = gm_na 279 by decide +kernel) (fw_c2 fw_si fw_si) (show 3 ≤ gm_ml 279 by decide +kernel) (Nat.le_of_ble_eq_true rfl) (by omega) (Nat.zero_le _) (Nat.zero_le _) ?_
                refine sr_c279 hE ⟨by omega, by omega⟩ kW63 (fun W70 kW70 => ?_)
                show gm_Wp X LX d _ _ 277 209 _ [] n K R _ Q
                refine gm_sz (gm_p_const (pc := 209) (i := .iconst 1) (v := gm_vi 1) (by decide +kernel) (by decide +kernel)) ?_
                rw [g_a8 j20 j1 j36 j41 j50 (by omega)] at h1
                rw [s_a8 (g := false) j20 j1 j36 j41 (decide_eq_false (by omega)), srds_c, ← List.append_assoc, ← List.append_assoc] at h1
                exact gm_r_int (pc := 210) (by decide +kernel) (Or.inr ⟨(by decide +kernel), Or.inr rfl⟩) (h1 _ _ _ _ kW70 j64 q65b q65 ⟨by omega, by omega, by omega⟩)
              · show gm_Wp X LX d _ _ 277 188 _ [gm_vi 0] n K R _ Q
                have j64 : ¬ (g_sum (M 231) e 400 (tx_n (M 231) e ((g_sum (M 231) e 400 b).2))).1 = true := j64
                have g66 : 0 ≤ (g_sum (M 231) e 400 (tx_n (M 231) e ((g_sum (M 231) e 400 b).2))).2 ∧ (g_sum (M 231) e 400 (tx_n (M 231) e ((g_sum (M 231) e 400 b).2))).2 ≤ e := by have := g_sum_in (f := M 231) 400 (tx_n (M 231) e ((g_sum (M 231) e 400 b).2)) g58.1 g58.2; have := g58.1; omega
                refine fw_iffd (cc := .ne) (pc := 188) (off := 5) (by decide +kernel) (by decide) ⟨by decide, by decide⟩ (by decide) ?_
                refine gm_sz (gm_p_const (pc := 191) (i := .iconst 0) (v := gm_vi 0) (by decide +kernel) (by decide +kernel)) ?_
                rw [g_a8 j20 j1 j36 j41 j50 (by omega)] at h0
                exact gm_r_int (pc := 192) (by decide +kernel) (Or.inr ⟨(by decide +kernel), Or.inl rfl⟩) (h0 _ _ _ _ (fW63) j64)
            · show gm_Wp X LX d _ _ 277 170 _ [gm_vi 0] n K R _ Q
              have j56 : ¬ tx_k (M 231) e ((g_sum (M 231) e 400 b).2) = 60 := j56
              have q59 : tx_g (M 231) e ((g_sum (M 231) e 400 b).2) = (g_sum (M 231) e 400 b).2 := by rw [← q51]; exact tx_gi q51b.2
              have j59p := (tx_gb (f := M 231) q51b.2).1
              rw [q51] at j59p
              refine gm_sz (gm_p_stor (pc := 170) (i := .istore_n 2) (sr := 0) (j := 2) (by decide +kernel) rfl (show 3 ≤ _ from Nat.le_of_ble_eq_true rfl) rfl) ?_
              refine gm_sz (gm_p_load (pc := 171) (i := .iload_n 2) (sr := 0) (j := 2) (by decide +kernel) rfl rfl rfl) ?_
              refine fw_iffd (cc := .ne) (pc := 172) (off := 12) (by decide +kernel) (by decide) ⟨by decide, by decide⟩ (by decide) ?_
              refine gm_sz (gm_p_load (pc := 175) (i := .aload_n 0) (sr := 2) (j := 0) (by decide +kernel) rfl rfl rfl) ?_
              refine gm_sz (gm_p_const (pc := 176) (i := .bipush 62) (v := gm_vi 62) (by decide +kernel) (by decide +kernel)) ?_
              refine gm_c_virt (k := 226) (ci := 11) (mj := 278) (ix := 248) (pc := 178) (as := [gm_vi 62]) (st := []) (d' := d - 1) (bc' := 0) (bs' := 0) (by decide +kernel) (by decide +kernel) (by decide +kernel) (by decide +kernel) (tR226 hE).1 (tR226 hE).2 (by decide) (by decide +kernel) (show 1 = gm_na 278 by decide +kernel) (fw_c1 fw_si) (show 2 ≤ gm_ml 278 by decide +kernel) (Nat.le_of_ble_eq_true rfl) (by omega) (Nat.zero_le _) (Nat.zero_le _) ?_
              refine tr_c278 (by omega) hE (by decide) g52 q59 (fun j71 => ?_) (fun j71 => ?_)
              · show gm_Wp X LX d _ _ 277 181 _ [gm_vi 1] n K R _ Q
                have j71 : tx_k (M 231) e ((g_sum (M 231) e 400 b).2) = 62 := j71
                have g72 : 0 ≤ tx_s (M 231) e ((g_sum (M 231) e 400 b).2) ∧ tx_s (M 231) e ((g_sum (M 231) e 400 b).2) ≤ e := by have := tx_sb (f := M 231) g52.2; have := g52.1; omega
                have g73 : 0 ≤ tx_n (M 231) e ((g_sum (M 231) e 400 b).2) ∧ tx_n (M 231) e ((g_sum (M 231) e 400 b).2) ≤ e := by have := tx_gb (f := M 231) g72.2; have := g72.1; have h9 : tx_n (M 231) e ((g_sum (M 231) e 400 b).2) = tx_g (M 231) e (tx_s (M 231) e ((g_sum (M 231) e 400 b).2)) := rfl; omega
                have j71s := (tx_sb (f := M 231) g52.2).2.2 (tx_kne (f := M 231) (by omega))
                have j71p := (tx_gb (f := M 231) g52.2).1
                rw [q59] at j71p
                refine fw_iffd (cc := .eq) (pc := 181) (off := 10) (by decide +kernel) (by decide) ⟨by decide, by decide⟩ (by decide) ?_
                refine gm_sz (gm_p_load (pc := 184) (i := .aload_n 0) (sr := 2) (j := 0) (by decide +kernel) rfl rfl rfl) ?_
                refine gm_c_virt (k := 226) (ci := 11) (mj := 280) (ix := 265) (pc := 185) (as := []) (st := []) (d' := d - 1) (bc' := 0) (bs' := 0) (by decide +kernel) (by decide +kernel) (by decide +kernel) (by decide +kernel) (tR226 hE).1 (tR226 hE).2 (by decide) (by decide +kernel) (show 0 = gm_na 280 by decide +kernel) fw_c0 (show 1 ≤ gm_ml 280 by decide +kernel) (Nat.le_of_ble_eq_true rfl) (by omega) (Nat.zero_le _) (Nat.zero_le _) ?_
                refine sr_c280 hE _ _ _ _ _ _ _ _ _ _ (by omega) g72 rfl ⟨by omega, by omega⟩ kW49 (fun p75 x76 s77 W78 kW78 j79 q80b q80 t82 => ?_) (fun p75 x84 s77 W78 fW78 j79 => ?_)
                · show gm_Wp X LX d _ _ 277 188 _ [gm_vi 1] n K R _ Q
                  have j79 : (g_sum (M 231) e 400 (tx_n (M 231) e ((g_sum (M 231) e 400 b).2))).1 = true := j79
                  have q80 : tx_g (M 231) e p75 = (g_sum (M 231) e 400 (tx_n (M 231) e ((g_sum (M 231) e 400 b).2))).2 := q80
                  have g81 : 0 ≤ (g_sum (M 231) e 400 (tx_n (M 231) e ((g_sum (M 231) e 400 b).2))).2 ∧ (g_sum (M 231) e 400 (tx_n (M 231) e ((g_sum (M 231) e 400 b).2))).2 ≤ e := by have := g_sum_in (f := M 231) 400 (tx_n (M 231) e ((g_sum (M 231) e 400 b).2)) g73.1 g73.2; have := g73.1; omega
                  have i83 := (g_sum_in (f := M 231) 400 (tx_n (M 231) e ((g_sum (M 231) e 400 b).2)) g73.1 g73.2)
                  have i83 := i83.2.2 j79
                  refine fw_iftd (cc := .ne) (pc := 188) (off := 5) (by decide +kernel) (by decide) ⟨by decide, by decide⟩ (by decide) ?_
                  refine gm_sz (gm_p_load (pc := 193) (i := .aload_n 0) (sr := 2) (j := 0) (by decide +kernel) rfl rfl rfl) ?_
                  refine gm_sz (gm_p_load (pc := 194) (i := .iload_n 2) (sr := 0) (j := 2) (by decide +kernel) rfl rfl rfl) ?_
                  refine fw_iftd (cc := .eq) (pc := 195) (off := 8) (by decide +kernel) (by decide) ⟨by decide, by decide⟩ (by decide) ?_
                  refine gm_sz (gm_p_const (pc := 203) (i := .bipush 13) (v := gm_vi 13) (by decide +kernel) (by decide +kernel)) ?_
                  refine gm_sz (gm_p_const (pc := 205) (i := .iconst 0) (v := gm_vi 0) (by decide +kernel) (by decide +kernel)) ?_
                  refine gm_c_virt (k := 226) (ci := 11) (mj := 279) (ix := 227) (pc := 206) (as := [gm_vi 13, gm_vi 0]) (st := []) (d' := d - 1) (bc' := 0) (bs' := 0) (by decide +kernel) (by decide +kernel) (by decide +kernel) (by decide +kernel) (tR226 hE).1 (tR226 hE).2 (by decide) (by decide +kernel) (show 2 = gm_na 279 by decide +kernel) (fw_c2 fw_si fw_si) (show 3 ≤ gm_ml 279 by decide +kernel) (Nat.le_of_ble_eq_true rfl) (by omega) (Nat.zero_le _) (Nat.zero_le _) ?_
                  refine sr_c279 hE ⟨by omega, by omega⟩ kW78 (fun W85 kW85 => ?_)
                  show gm_Wp X LX d _ _ 277 209 _ [] n K R _ Q
                  refine gm_sz (gm_p_const (pc := 209) (i := .iconst 1) (v := gm_vi 1) (by decide +kernel) (by decide +kernel)) ?_
                  rw [g_a8 j20 j1 j36 j41 j50 (by omega)] at h1
                  rw [s_a8 (g := true) j20 j1 j36 j41 (decide_eq_true (by omega)), srds_c, ← List.append_assoc, ← List.append_assoc] at h1
                  exact gm_r_int (pc := 210) (by decide +kernel) (Or.inr ⟨(by decide +kernel), Or.inr rfl⟩) (h1 _ _ _ _ kW85 j79 q80b q80 ⟨by omega, by omega, by omega⟩)
                · show gm_Wp X LX d _ _ 277 188 _ [gm_vi 0] n K R _ Q
                  have j79 : ¬ (g_sum (M 231) e 400 (tx_n (M 231) e ((g_sum (M 231) e 400 b).2))).1 = true := j79
                  have g81 : 0 ≤ (g_sum (M 231) e 400 (tx_n (M 231) e ((g_sum (M 231) e 400 b).2))).2 ∧ (g_sum (M 231) e 400 (tx_n (M 231) e ((g_sum (M 231) e 400 b).2))).2 ≤ e := by have := g_sum_in (f := M 231) 400 (tx_n (M 231) e ((g_sum (M 231) e 400 b).2)) g73.1 g73.2; have := g73.1; omega
                  refine fw_iffd (cc := .ne) (pc := 188) (off := 5) (by decide +kernel) (by decide) ⟨by decide, by decide⟩ (by decide) ?_
                  refine gm_sz (gm_p_const (pc := 191) (i := .iconst 0) (v := gm_vi 0) (by decide +kernel) (by decide +kernel)) ?_
                  rw [g_a8 j20 j1 j36 j41 j50 (by omega)] at h0
                  exact gm_r_int (pc := 192) (by decide +kernel) (Or.inr ⟨(by decide +kernel), Or.inl rfl⟩) (h0 _ _ _ _ (fW78) j79)
              · show gm_Wp X LX d _ _ 277 181 _ [gm_vi 0] n K R _ Q
                have j71 : ¬ tx_k (M 231) e ((g_sum (M 231) e 400 b).2) = 62 := j71
                have q74 : tx_g (M 231) e ((g_sum (M 231) e 400 b).2) = (g_sum (M 231) e 400 b).2 := by rw [← q59]; exact tx_gi g52.2
                refine fw_iftd (cc := .eq) (pc := 181) (off := 10) (by decide +kernel) (by decide) ⟨by decide, by decide⟩ (by decide) ?_
                refine gm_sz (gm_p_const (pc := 191) (i := .iconst 0) (v := gm_vi 0) (by decide +kernel) (by decide +kernel)) ?_
                rw [g_a7 j20 j1 j36 j41 j50 (by omega)] at h0
                exact gm_r_int (pc := 192) (by decide +kernel) (Or.inr ⟨(by decide +kernel), Or.inl rfl⟩) (h0 _ _ _ _ (kW49.2.1) (fun h => by cases h))
          · show gm_Wp X LX d _ _ 277 159 _ [gm_vi 0] n K R _ Q
            have j50 : ¬ (g_sum (M 231) e 400 b).1 = true := j50
            have g52 : 0 ≤ (g_sum (M 231) e 400 b).2 ∧ (g_sum (M 231) e 400 b).2 ≤ e := by have := g_sum_in (f := M 231) 400 b hb.1 hb.2; have := hb.1; omega
            refine fw_iffd (cc := .ne) (pc := 159) (off := 5) (by decide +kernel) (by decide) ⟨by decide, by decide⟩ (by decide) ?_
            refine gm_sz (gm_p_const (pc := 162) (i := .iconst 0) (v := gm_vi 0) (by decide +kernel) (by decide +kernel)) ?_
            rw [g_a6 j20 j1 j36 j41 j50] at h0
            exact gm_r_int (pc := 163) (by decide +kernel) (Or.inr ⟨(by decide +kernel), Or.inl rfl⟩) (h0 _ _ _ _ (fW49) j50)

theorem sr_s276 {A : Int → Bool × Int} {SA : Int → List lst} {dA : Nat} (hA : cR2 X LX n K R M e dp W0 277 A (fun b => srds (SA b)) dA) (iA : g_in e A) (hd : 7 ≤ d ∧ dA + 1 ≤ d) (hE : tR n K R M e) : ∀ (t : Nat) (pt c bg st : Int) (W : Int → Int) (L : List (Int × Int)) (Q : gm_Q), e - c < 2 * (t : Int) → 0 ≤ pt ∧ pt ≤ e → tx_g (M 231) e pt = c → 0 ≤ st ∧ st + 1 ≤ pt → RL L W0 st W → (∀ p2 bg2 st2 W2, RL (L ++ e_am (M 231) e A SA t c) W0 st2 W2 → (g_am (M 231) e A t c).1 = true → 0 ≤ p2 ∧ p2 ≤ e → tx_g (M 231) e p2 = (g_am (M 231) e A t c).2 → 0 ≤ st2 ∧ st2 - st ≤ p2 - pt ∧ pt ≤ p2 → Q (.inl (some (gm_vi 1))) n K R (rm M p2 bg2 dp st2 W2)) → (∀ p2 dp2 st2 W2, (∀ j, j < 1293 → W2 j = W0 j) → ¬ (g_am (M 231) e A t c).1 = true → Q (.inl (some (gm_vi 0))) n K R (rm M p2 (g_am (M 231) e A t c).2 dp2 st2 W2)) → gm_Wp X LX d bc bs 276 9 [some (gm_vr 226)] [] n K R (rm M pt bg dp st W) Q := by
  obtain ⟨-, he0, he4⟩ := tRe hE
  intro t
  induction t with
  | zero =>
    intro pt c bg st W L Q ht hp hg hst k0 h1 h0
    obtain ⟨hg1, hg2, -⟩ := tx_gb (f := M 231) hp.2
    rw [hg] at hg1 hg2
    exact absurd ht (by omega)
  | succ t ih =>
    intro pt c bg st W L Q ht hp hg hst k0 h1 h0
    obtain ⟨hg1, hg2, -⟩ := tx_gb (f := M 231) hp.2
    rw [hg] at hg1 hg2
    have hb : 0 ≤ c ∧ c ≤ e := ⟨by omega, hg2⟩
    obtain ⟨hn1, hn2, hn3⟩ := tx_nb (f := M 231) hb.2
    refine gm_sz (gm_p_load (pc := 9) (i := .aload_n 0) (sr := 2) (j := 0) (by decide +kernel) rfl rfl rfl) ?_
    refine gm_sz (gm_p_ldcs (pc := 10) (i := .ldc_w 268) (ix := 268) (id := 73) (by decide +kernel) (Or.inr rfl) (by decide +kernel)) ?_
    refine gm_c_virt (k := 226) (ci := 11) (mj := 269) (ix := 170) (pc := 13) (as := [gm_vo 73]) (st := []) (d' := d - 1) (bc' := 0) (bs' := 0) (by decide +kernel) (by decide +kernel) (by decide +kernel) (by decide +kernel) (tR226 hE).1 (tR226 hE).2 (by decide) (by decide +kernel) (show 1 = gm_na 269 by decide +kernel) (fw_c1 fw_so) (show 2 ≤ gm_ml 269 by decide +kernel) (Nat.le_of_ble_eq_true rfl) (by omega) (Nat.zero_le _) (Nat.zero_le _) ?_
    refine tr_c269 (by omega) hE (by decide) (show tx_o 73 = wo_and by decide +kernel) (by decide) hp hg (fun j1 => ?_) (fun j1 => ?_)
    · show gm_Wp X LX d _ _ 276 16 _ [gm_vi 1] n K R _ Q
      have j1 : tx_is (M 231) e c wo_and := j1
      have g2 : 0 ≤ tx_s (M 231) e c ∧ tx_s (M 231) e c ≤ e := by have := tx_sb (f := M 231) hb.2; have := hb.1; omega
      have g3 : 0 ≤ tx_n (M 231) e c ∧ tx_n (M 231) e c ≤ e := by have := tx_gb (f := M 231) g2.2; have := g2.1; unfold tx_n; omega
      have j1s := (tx_sb (f := M 231) hb.2).2.2 (g_isb j1)
      have j1p := (tx_gb (f := M 231) hp.2).1
      rw [hg] at j1p
      refine fw_iffd (cc := .eq) (pc := 16) (off := 22) (by decide +kernel) (by decide) ⟨by decide, by decide⟩ (by decide) ?_
      refine gm_sz (gm_p_load (pc := 19) (i := .aload_n 0) (sr := 2) (j := 0) (by decide +kernel) rfl rfl rfl) ?_
      refine gm_c_virt (k := 226) (ci := 11) (mj := 277) (ix := 258) (pc := 20) (as := []) (st := []) (d' := d - 1) (bc' := 0) (bs' := 0) (by decide +kernel) (by decide +kernel) (by decide +kernel) (by decide +kernel) (tR226 hE).1 (tR226 hE).2 (by decide) (by decide +kernel) (show 0 = gm_na 277 by decide +kernel) fw_c0 (show 1 ≤ gm_ml 277 by decide +kernel) (Nat.le_of_ble_eq_true rfl) (by omega) (Nat.zero_le _) (Nat.zero_le _) ?_
      refine hA _ _ _ _ _ _ _ _ _ _ (by omega) g2 rfl ⟨by omega, by omega⟩ k0 (fun p5 x6 s7 W8 kW8 j9 q10b q10 t12 => ?_) (fun p5 x14 s7 W8 fW8 j9 => ?_)
      · show gm_Wp X LX d _ _ 276 23 _ [gm_vi 1] n K R _ Q
        have j9 : (A (tx_n (M 231) e c)).1 = true := j9
        have q10 : tx_g (M 231) e p5 = (A (tx_n (M 231) e c)).2 := q10
        have g11 : 0 ≤ (A (tx_n (M 231) e c)).2 ∧ (A (tx_n (M 231) e c)).2 ≤ e := by have := iA (tx_n (M 231) e c) g3.1 g3.2; have := g3.1; omega
        have i13 := (iA (tx_n (M 231) e c) g3.1 g3.2)
        have i13 := i13.2.2 j9
        refine fw_iftd (cc := .ne) (pc := 23) (off := 5) (by decide +kernel) (by decide) ⟨by decide, by decide⟩ (by decide) ?_
        refine gm_sz (gm_p_load (pc := 28) (i := .aload_n 0) (sr := 2) (j := 0) (by decide +kernel) rfl rfl rfl) ?_
        refine gm_sz (gm_p_const (pc := 29) (i := .bipush 15) (v := gm_vi 15) (by decide +kernel) (by decide +kernel)) ?_
        refine gm_sz (gm_p_const (pc := 31) (i := .iconst 0) (v := gm_vi 0) (by decide +kernel) (by decide +kernel)) ?_
        refine gm_c_virt (k := 226) (ci := 11) (mj := 279) (ix := 227) (pc := 32) (as := [gm_vi 15, gm_vi 0]) (st := []) (d' := d - 1) (bc' := 0) (bs' := 0) (by decide +kernel) (by decide +kernel) (by decide +kernel) (by decide +kernel) (tR226 hE).1 (tR226 hE).2 (by decide) (by decide +kernel) (show 2 = gm_na 279 by decide +kernel) (fw_c2 fw_si fw_si) (show 3 ≤ gm_ml 279 by decide +kernel) (Nat.le_of_ble_eq_true rfl) (by omega) (Nat.zero_le _) (Nat.zero_le _) ?_
        refine sr_c279 hE ⟨by omega, by omega⟩ kW8 (fun W15 kW15 => ?_)
        show gm_Wp X LX d _ _ 276 35 _ [] n K R _ Q
        refine gm_sz (gm_p_goto (pc := 35) (off := (-26)) (by decide +kernel) (by decide)) ?_
        rw [g_am2 j1 j9] at h1 h0
        rw [e_am2 j1, ← List.append_assoc, List.append_cons] at h1
        refine ih _ _ _ _ _ _ _ (by omega) q10b q10 ⟨by omega, by omega⟩ kW15 (fun p2 bg2 st2 W2 r0 r1 r2 r3 r4 => h1 p2 bg2 st2 W2 r0 r1 r2 r3 ⟨by omega, by omega, by omega⟩) h0
      · show gm_Wp X LX d _ _ 276 23 _ [gm_vi 0] n K R _ Q
        have j9 : ¬ (A (tx_n (M 231) e c)).1 = true := j9
        have g11 : 0 ≤ (A (tx_n (M 231) e c)).2 ∧ (A (tx_n (M 231) e c)).2 ≤ e := by have := iA (tx_n (M 231) e c) g3.1 g3.2; have := g3.1; omega
        refine fw_iffd (cc := .ne) (pc := 23) (off := 5) (by decide +kernel) (by decide) ⟨by decide, by decide⟩ (by decide) ?_
        refine gm_sz (gm_p_const (pc := 26) (i := .iconst 0) (v := gm_vi 0) (by decide +kernel) (by decide +kernel)) ?_
        rw [g_am1 j1 j9] at h0
        exact gm_r_int (pc := 27) (by decide +kernel) (Or.inr ⟨(by decide +kernel), Or.inl rfl⟩) (h0 _ _ _ _ (fW8) j9)
    · show gm_Wp X LX d _ _ 276 16 _ [gm_vi 0] n K R _ Q
      have j1 : ¬ tx_is (M 231) e c wo_and := j1
      have q4 : tx_g (M 231) e c = c := by rw [← hg]; exact tx_gi hp.2
      refine fw_iftd (cc := .eq) (pc := 16) (off := 22) (by decide +kernel) (by decide) ⟨by decide, by decide⟩ (by decide) ?_
      refine gm_sz (gm_p_const (pc := 38) (i := .iconst 1) (v := gm_vi 1) (by decide +kernel) (by decide +kernel)) ?_
      rw [g_am0 j1, e_am0 j1, List.append_nil] at h1
      exact gm_r_int (pc := 39) (by decide +kernel) (Or.inr ⟨(by decide +kernel), Or.inr rfl⟩) (h1 _ _ _ _ k0 rfl hb q4 ⟨by omega, by omega, by omega⟩)

theorem sr_c276 {A : Int → Bool × Int} {SA : Int → List lst} {dA dn : Nat} (hA : cR2 X LX n K R M e dp W0 277 A (fun b => srds (SA b)) dA) (iA : g_in e A) (hd9 : 7 ≤ dn ∧ dA + 1 ≤ dn) (hE : tR n K R M e) : cR2 X LX n K R M e dp W0 276 (g_all (M 231) e A 400) (fun b => srds (s_all (M 231) e A SA 400 true b)) dn := by
  obtain ⟨-, he0, he4⟩ := tRe hE
  intro d bc bs pt b bg st W L Q hd hp hg hst k0 h1 h0
  have h1 : ∀ p2 bg2 st2 W2, RL (L ++ srds (s_all (M 231) e A SA 400 true b)) W0 st2 W2 → (g_all (M 231) e A 400 b).1 = true → 0 ≤ p2 ∧ p2 ≤ e → tx_g (M 231) e p2 = (g_all (M 231) e A 400 b).2 → 0 ≤ st2 ∧ st2 - st ≤ p2 - pt ∧ pt ≤ p2 → Q (.inl (some (gm_vi 1))) n K R (rm M p2 bg2 dp st2 W2) := h1
  obtain ⟨hg1, hg2, -⟩ := tx_gb (f := M 231) hp.2
  rw [hg] at hg1 hg2
  have hb : 0 ≤ b ∧ b ≤ e := ⟨by omega, hg2⟩
  refine gm_sz (gm_p_load (pc := 0) (i := .aload_n 0) (sr := 2) (j := 0) (by decide +kernel) rfl rfl rfl) ?_
  refine gm_c_virt (k := 226) (ci := 11) (mj := 277) (ix := 258) (pc := 1) (as := []) (st := []) (d' := d - 1) (bc' := 0) (bs' := 0) (by decide +kernel) (by decide +kernel) (by decide +kernel) (by decide +kernel) (tR226 hE).1 (tR226 hE).2 (by decide) (by decide +kernel) (show 0 = gm_na 277 by decide +kernel) fw_c0 (show 1 ≤ gm_ml 277 by decide +kernel) (Nat.le_of_ble_eq_true rfl) (by omega) (Nat.zero_le _) (Nat.zero_le _) ?_
  refine hA _ _ _ _ _ _ _ _ _ _ (by omega) hp hg ⟨by omega, by omega⟩ k0 (fun p1 x2 s3 W4 kW4 j5 q6b q6 t8 => ?_) (fun p1 x10 s3 W4 fW4 j5 => ?_)
  · show gm_Wp X LX d _ _ 276 4 _ [gm_vi 1] n K R _ Q
    have j5 : (A b).1 = true := j5
    have q6 : tx_g (M 231) e p1 = (A b).2 := q6
    have g7 : 0 ≤ (A b).2 ∧ (A b).2 ≤ e := by have := iA b hb.1 hb.2; have := hb.1; omega
    have i9 := (iA b hb.1 hb.2)
    have i9 := i9.2.2 j5
    refine fw_iftd (cc := .ne) (pc := 4) (off := 5) (by decide +kernel) (by decide) ⟨by decide, by decide⟩ (by decide) ?_
    rw [g_ame (t := 399) j5] at h1 h0
    rw [e_ame (t := 399), ← List.append_assoc] at h1
    exact sr_s276 hA iA ⟨by omega, by omega⟩ hE 399 _ _ _ _ _ _ _ (by omega) q6b q6 ⟨by omega, by omega⟩ kW4 (fun p2 bg2 st2 W2 r0 r1 r2 r3 r4 => h1 p2 bg2 st2 W2 r0 r1 r2 r3 ⟨by omega, by omega, by omega⟩) h0
  · show gm_Wp X LX d _ _ 276 4 _ [gm_vi 0] n K R _ Q
    have j5 : ¬ (A b).1 = true := j5
    have g7 : 0 ≤ (A b).2 ∧ (A b).2 ≤ e := by have := iA b hb.1 hb.2; have := hb.1; omega
    refine fw_iffd (cc := .ne) (pc := 4) (off := 5) (by decide +kernel) (by decide) ⟨by decide, by decide⟩ (by decide) ?_
    refine gm_sz (gm_p_const (pc := 7) (i := .iconst 0) (v := gm_vi 0) (by decide +kernel) (by decide +kernel)) ?_
    rw [g_l0 (t := 399) j5] at h0
    exact gm_r_int (pc := 8) (by decide +kernel) (Or.inr ⟨(by decide +kernel), Or.inl rfl⟩) (h0 _ _ _ _ (fW4) j5)

theorem h_all4 {A : Int → Bool × Int} (iA : g_in e A) : g_in e (g_all (M 231) e A 400) := fun b h0 h1 => by
  obtain ⟨a, b2, c⟩ := g_all_in (f := M 231) iA 400 b h0 h1
  exact ⟨a, b2, c (by decide)⟩

theorem sr_s275 {A : Int → Bool × Int} {SA : Int → List lst} {dA : Nat} (hA : cR2 X LX n K R M e dp W0 276 (g_all (M 231) e A 400) (fun b => srds (s_all (M 231) e A SA 400 true b)) dA) (iA : g_in e A) (hd : 7 ≤ d ∧ dA + 1 ≤ d) (hE : tR n K R M e) : ∀ (t : Nat) (pt c bg st : Int) (W : Int → Int) (L : List (Int × Int)) (Q : gm_Q), e - c < 2 * (t : Int) → 0 ≤ pt ∧ pt ≤ e → tx_g (M 231) e pt = c → 0 ≤ st ∧ st + 1 ≤ pt → RL L W0 st W → (∀ p2 bg2 st2 W2, RL (L ++ e_cm (M 231) e A SA t c) W0 st2 W2 → (g_cm (M 231) e A t c).1 = true → 0 ≤ p2 ∧ p2 ≤ e → tx_g (M 231) e p2 = (g_cm (M 231) e A t c).2 → 0 ≤ st2 ∧ st2 - st ≤ p2 - pt ∧ pt ≤ p2 → Q (.inl (some (gm_vi 1))) n K R (rm M p2 bg2 dp st2 W2)) → (∀ p2 dp2 st2 W2, (∀ j, j < 1293 → W2 j = W0 j) → ¬ (g_cm (M 231) e A t c).1 = true → Q (.inl (some (gm_vi 0))) n K R (rm M p2 (g_cm (M 231) e A t c).2 dp2 st2 W2)) → gm_Wp X LX d bc bs 275 9 [some (gm_vr 226)] [] n K R (rm M pt bg dp st W) Q := by
  obtain ⟨-, he0, he4⟩ := tRe hE
  intro t
  induction t with
  | zero =>
    intro pt c bg st W L Q ht hp hg hst k0 h1 h0
    obtain ⟨hg1, hg2, -⟩ := tx_gb (f := M 231) hp.2
    rw [hg] at hg1 hg2
    exact absurd ht (by omega)
  | succ t ih =>
    intro pt c bg st W L Q ht hp hg hst k0 h1 h0
    obtain ⟨hg1, hg2, -⟩ := tx_gb (f := M 231) hp.2
    rw [hg] at hg1 hg2
    have hb : 0 ≤ c ∧ c ≤ e := ⟨by omega, hg2⟩
    obtain ⟨hn1, hn2, hn3⟩ := tx_nb (f := M 231) hb.2
    refine gm_sz (gm_p_load (pc := 9) (i := .aload_n 0) (sr := 2) (j := 0) (by decide +kernel) rfl rfl rfl) ?_
    refine gm_sz (gm_p_ldcs (pc := 10) (i := .ldc_w 273) (ix := 273) (id := 74) (by decide +kernel) (Or.inr rfl) (by decide +kernel)) ?_
    refine gm_c_virt (k := 226) (ci := 11) (mj := 269) (ix := 170) (pc := 13) (as := [gm_vo 74]) (st := []) (d' := d - 1) (bc' := 0) (bs' := 0) (by decide +kernel) (by decide +kernel) (by decide +kernel) (by decide +kernel) (tR226 hE).1 (tR226 hE).2 (by decide) (by decide +kernel) (show 1 = gm_na 269 by decide +kernel) (fw_c1 fw_so) (show 2 ≤ gm_ml 269 by decide +kernel) (Nat.le_of_ble_eq_true rfl) (by omega) (Nat.zero_le _) (Nat.zero_le _) ?_
    refine tr_c269 (by omega) hE (by decide) (show tx_o 74 = wo_or by decide +kernel) (by decide) hp hg (fun j1 => ?_) (fun j1 => ?_)
    · show gm_Wp X LX d _ _ 275 16 _ [gm_vi 1] n K R _ Q
      have j1 : tx_is (M 231) e c wo_or := j1
      have g2 : 0 ≤ tx_s (M 231) e c ∧ tx_s (M 231) e c ≤ e := by have := tx_sb (f := M 231) hb.2; have := hb.1; omega
      have g3 : 0 ≤ tx_n (M 231) e c ∧ tx_n (M 231) e c ≤ e := by have := tx_gb (f := M 231) g2.2; have := g2.1; unfold tx_n; omega
      have j1s := (tx_sb (f := M 231) hb.2).2.2 (g_isb j1)
      have j1p := (tx_gb (f := M 231) hp.2).1
      rw [hg] at j1p
      refine fw_iffd (cc := .eq) (pc := 16) (off := 22) (by decide +kernel) (by decide) ⟨by decide, by decide⟩ (by decide) ?_
      refine gm_sz (gm_p_load (pc := 19) (i := .aload_n 0) (sr := 2) (j := 0) (by decide +kernel) rfl rfl rfl) ?_
      refine gm_c_virt (k := 226) (ci := 11) (mj := 276) (ix := 270) (pc := 20) (as := []) (st := []) (d' := d - 1) (bc' := 0) (bs' := 0) (by decide +kernel) (by decide +kernel) (by decide +kernel) (by decide +kernel) (tR226 hE).1 (tR226 hE).2 (by decide) (by decide +kernel) (show 0 = gm_na 276 by decide +kernel) fw_c0 (show 1 ≤ gm_ml 276 by decide +kernel) (Nat.le_of_ble_eq_true rfl) (by omega) (Nat.zero_le _) (Nat.zero_le _) ?_
      refine hA _ _ _ _ _ _ _ _ _ _ (by omega) g2 rfl ⟨by omega, by omega⟩ k0 (fun p5 x6 s7 W8 kW8 j9 q10b q10 t12 => ?_) (fun p5 x14 s7 W8 fW8 j9 => ?_)
      · show gm_Wp X LX d _ _ 275 23 _ [gm_vi 1] n K R _ Q
        have j9 : (g_all (M 231) e A 400 (tx_n (M 231) e c)).1 = true := j9
        have q10 : tx_g (M 231) e p5 = (g_all (M 231) e A 400 (tx_n (M 231) e c)).2 := q10
        have g11 : 0 ≤ (g_all (M 231) e A 400 (tx_n (M 231) e c)).2 ∧ (g_all (M 231) e A 400 (tx_n (M 231) e c)).2 ≤ e := by have := h_all4 (M := M) iA (tx_n (M 231) e c) g3.1 g3.2; have := g3.1; omega
        have i13 := (h_all4 (M := M) iA (tx_n (M 231) e c) g3.1 g3.2)
        have i13 := i13.2.2 j9
        refine fw_iftd (cc := .ne) (pc := 23) (off := 5) (by decide +kernel) (by decide) ⟨by decide, by decide⟩ (by decide) ?_
        refine gm_sz (gm_p_load (pc := 28) (i := .aload_n 0) (sr := 2) (j := 0) (by decide +kernel) rfl rfl rfl) ?_
        refine gm_sz (gm_p_const (pc := 29) (i := .bipush 16) (v := gm_vi 16) (by decide +kernel) (by decide +kernel)) ?_
        refine gm_sz (gm_p_const (pc := 31) (i := .iconst 0) (v := gm_vi 0) (by decide +kernel) (by decide +kernel)) ?_
        refine gm_c_virt (k := 226) (ci := 11) (mj := 279) (ix := 227) (pc := 32) (as := [gm_vi 16, gm_vi 0]) (st := []) (d' := d - 1) (bc' := 0) (bs' := 0) (by decide +kernel) (by decide +kernel) (by decide +kernel) (by decide +kernel) (tR226 hE).1 (tR226 hE).2 (by decide) (by decide +kernel) (show 2 = gm_na 279 by decide +kernel) (fw_c2 fw_si fw_si) (show 3 ≤ gm_ml 279 by decide +kernel) (Nat.le_of_ble_eq_true rfl) (by omega) (Nat.zero_le _) (Nat.zero_le _) ?_
        refine sr_c279 hE ⟨by omega, by omega⟩ kW8 (fun W15 kW15 => ?_)
        show gm_Wp X LX d _ _ 275 35 _ [] n K R _ Q
        refine gm_sz (gm_p_goto (pc := 35) (off := (-26)) (by decide +kernel) (by decide)) ?_
        rw [g_cm2 j1 j9] at h1 h0
        rw [e_cm2 j1, ← List.append_assoc, List.append_cons] at h1
        refine ih _ _ _ _ _ _ _ (by omega) q10b q10 ⟨by omega, by omega⟩ kW15 (fun p2 bg2 st2 W2 r0 r1 r2 r3 r4 => h1 p2 bg2 st2 W2 r0 r1 r2 r3 ⟨by omega, by omega, by omega⟩) h0
      · show gm_Wp X LX d _ _ 275 23 _ [gm_vi 0] n K R _ Q
        have j9 : ¬ (g_all (M 231) e A 400 (tx_n (M 231) e c)).1 = true := j9
        have g11 : 0 ≤ (g_all (M 231) e A 400 (tx_n (M 231) e c)).2 ∧ (g_all (M 231) e A 400 (tx_n (M 231) e c)).2 ≤ e := by have := h_all4 (M := M) iA (tx_n (M 231) e c) g3.1 g3.2; have := g3.1; omega
        refine fw_iffd (cc := .ne) (pc := 23) (off := 5) (by decide +kernel) (by decide) ⟨by decide, by decide⟩ (by decide) ?_
        refine gm_sz (gm_p_const (pc := 26) (i := .iconst 0) (v := gm_vi 0) (by decide +kernel) (by decide +kernel)) ?_
        rw [g_cm1 j1 j9] at h0
        exact gm_r_int (pc := 27) (by decide +kernel) (Or.inr ⟨(by decide +kernel), Or.inl rfl⟩) (h0 _ _ _ _ (fW8) j9)
    · show gm_Wp X LX d _ _ 275 16 _ [gm_vi 0] n K R _ Q
      have j1 : ¬ tx_is (M 231) e c wo_or := j1
      have q4 : tx_g (M 231) e c = c := by rw [← hg]; exact tx_gi hp.2
      refine fw_iftd (cc := .eq) (pc := 16) (off := 22) (by decide +kernel) (by decide) ⟨by decide, by decide⟩ (by decide) ?_
      refine gm_sz (gm_p_const (pc := 38) (i := .iconst 1) (v := gm_vi 1) (by decide +kernel) (by decide +kernel)) ?_
      rw [g_cm0 j1, e_cm0 j1, List.append_nil] at h1
      exact gm_r_int (pc := 39) (by decide +kernel) (Or.inr ⟨(by decide +kernel), Or.inr rfl⟩) (h1 _ _ _ _ k0 rfl hb q4 ⟨by omega, by omega, by omega⟩)

theorem sr_c275 {A : Int → Bool × Int} {SA : Int → List lst} {dA dn : Nat} (hA : cR2 X LX n K R M e dp W0 276 (g_all (M 231) e A 400) (fun b => srds (s_all (M 231) e A SA 400 true b)) dA) (iA : g_in e A) (hd9 : 7 ≤ dn ∧ dA + 1 ≤ dn) (hE : tR n K R M e) : cR2 X LX n K R M e dp W0 275 (g_cnd (M 231) e A 400) (fun b => srds (s_cnd (M 231) e A SA 400 true b)) dn := by
  obtain ⟨-, he0, he4⟩ := tRe hE
  intro d bc bs pt b bg st W L Q hd hp hg hst k0 h1 h0
  have h1 : ∀ p2 bg2 st2 W2, RL (L ++ srds (s_cnd (M 231) e A SA 400 true b)) W0 st2 W2 → (g_cnd (M 231) e A 400 b).1 = true → 0 ≤ p2 ∧ p2 ≤ e → tx_g (M 231) e p2 = (g_cnd (M 231) e A 400 b).2 → 0 ≤ st2 ∧ st2 - st ≤ p2 - pt ∧ pt ≤ p2 → Q (.inl (some (gm_vi 1))) n K R (rm M p2 bg2 dp st2 W2) := h1
  obtain ⟨hg1, hg2, -⟩ := tx_gb (f := M 231) hp.2
  rw [hg] at hg1 hg2
  have hb : 0 ≤ b ∧ b ≤ e := ⟨by omega, hg2⟩
  refine gm_sz (gm_p_load (pc := 0) (i := .aload_n 0) (sr := 2) (j := 0) (by decide +kernel) rfl rfl rfl) ?_
  refine gm_c_virt (k := 226) (ci := 11) (mj := 276) (ix := 270) (pc := 1) (as := []) (st := []) (d' := d - 1) (bc' := 0) (bs' := 0) (by decide +kernel) (by decide +kernel) (by decide +kernel) (by decide +kernel) (tR226 hE).1 (tR226 hE).2 (by decide) (by decide +kernel) (show 0 = gm_na 276 by decide +kernel) fw_c0 (show 1 ≤ gm_ml 276 by decide +kernel) (Nat.le_of_ble_eq_true rfl) (by omega) (Nat.zero_le _) (Nat.zero_le _) ?_
  refine hA _ _ _ _ _ _ _ _ _ _ (by omega) hp hg ⟨by omega, by omega⟩ k0 (fun p1 x2 s3 W4 kW4 j5 q6b q6 t8 => ?_) (fun p1 x10 s3 W4 fW4 j5 => ?_)
  · show gm_Wp X LX d _ _ 275 4 _ [gm_vi 1] n K R _ Q
    have j5 : (g_all (M 231) e A 400 b).1 = true := j5
    have q6 : tx_g (M 231) e p1 = (g_all (M 231) e A 400 b).2 := q6
    have g7 : 0 ≤ (g_all (M 231) e A 400 b).2 ∧ (g_all (M 231) e A 400 b).2 ≤ e := by have := h_all4 (M := M) iA b hb.1 hb.2; have := hb.1; omega
    have i9 := (h_all4 (M := M) iA b hb.1 hb.2)
    have i9 := i9.2.2 j5
    refine fw_iftd (cc := .ne) (pc := 4) (off := 5) (by decide +kernel) (by decide) ⟨by decide, by decide⟩ (by decide) ?_
    rw [g_cme (t := 399) j5] at h1 h0
    rw [e_cme (t := 399), ← List.append_assoc] at h1
    exact sr_s275 hA iA ⟨by omega, by omega⟩ hE 399 _ _ _ _ _ _ _ (by omega) q6b q6 ⟨by omega, by omega⟩ kW4 (fun p2 bg2 st2 W2 r0 r1 r2 r3 r4 => h1 p2 bg2 st2 W2 r0 r1 r2 r3 ⟨by omega, by omega, by omega⟩) h0
  · show gm_Wp X LX d _ _ 275 4 _ [gm_vi 0] n K R _ Q
    have j5 : ¬ (g_all (M 231) e A 400 b).1 = true := j5
    have g7 : 0 ≤ (g_all (M 231) e A 400 b).2 ∧ (g_all (M 231) e A 400 b).2 ≤ e := by have := h_all4 (M := M) iA b hb.1 hb.2; have := hb.1; omega
    refine fw_iffd (cc := .ne) (pc := 4) (off := 5) (by decide +kernel) (by decide) ⟨by decide, by decide⟩ (by decide) ?_
    refine gm_sz (gm_p_const (pc := 7) (i := .iconst 0) (v := gm_vi 0) (by decide +kernel) (by decide +kernel)) ?_
    rw [g_d0 (t := 399) j5] at h0
    exact gm_r_int (pc := 8) (by decide +kernel) (Or.inr ⟨(by decide +kernel), Or.inl rfl⟩) (h0 _ _ _ _ (fW4) j5)

/-- readAtom and readCond, k deep still -/
theorem sr_at (hE : tR n K R M e) : ∀ k : Nat, k ≤ 6 → cR2 X LX n K R M e (6 - (k : Int)) W0 277 (g_at (M 231) e k) (fun b => srds (s_at (M 231) e k b)) (10 + 3 * k) := by
  intro k
  induction k with
  | zero => exact fun _ => sr_c277 (SA := fun _ => []) (SC := fun _ => []) hE ⟨by decide, by decide⟩ (Iff.intro (fun h => h.elim) (fun h => by omega)) (dA := 0) (dC := 0) (fun h => h.elim) (fun h => h.elim) g_no_in g_no_in ⟨by omega, fun h => h.elim⟩
  | succ k ih =>
    intro hk
    have e1 : (6 : Int) - ((k + 1 : Nat) : Int) + 1 = 6 - (k : Int) := by omega
    refine sr_c277 (SA := s_at (M 231) e k) (SC := fun b => s_cnd (M 231) e (g_at (M 231) e k) (s_at (M 231) e k) 400 true b) (dA := 10 + 3 * k) (dC := 12 + 3 * k) hE ⟨by omega, by omega⟩ (Iff.intro (fun _ => by omega) (fun _ => trivial)) (fun _ => ?_) (fun _ => ?_) (g_at_in k) (g_cnd_in (g_at_in k) 400) ⟨by omega, fun _ => by omega⟩
    · rw [e1]
      exact ih (by omega)
    · rw [e1]
      exact sr_c275 (dA := 11 + 3 * k) (sr_c276 (ih (by omega)) (g_at_in k) (by omega) hE) (g_at_in k) (by omega) hE
theorem sr_cd (hE : tR n K R M e) : cR2 X LX n K R M e 0 W0 275 (g_cd (M 231) e 6) (fun b => srds (s_cd (M 231) e 6 b)) 30 := sr_c275 (dA := 29) (sr_c276 (sr_at hE 6 (by decide)) (g_at_in 6) (by decide) hE) (g_at_in 6) (by decide) hE
end KR
end
