/-! WHERE A TRAVELLER STARTS: a letter's place, a person's; or -1 thrice, where there is none. -/
section SL28
variable {X : Int → Int} {LX d bc bs n : Nat} {K : gm_K} {R : gm_R} {M : gm_M} {Q : gm_Q} {lane row year speed l p y x z : Int} {N h : Int → Int} {sp : Int → Int → Int}
theorem ln_rock (hd : 1 ≤ d) (hE : E0 n K R) (hT : TI N h sp M) (hN : NR N) (h1 : N 4 ≤ l ∧ l < 100) (q0 : Q (.inl (some (gm_vi 1))) n K R (M)) : gm_Wp X LX d bc bs 28 0 (gm_ent 28 [gm_vr 3, gm_vi l]) [] n K R M Q := by
  obtain ⟨⟨⟨a0, b0⟩, ⟨a1, b1⟩, ⟨a10, b10⟩, ⟨a11, b11⟩, ⟨a12, b12⟩, a9, b9⟩, ⟨⟨a2, b2⟩, ⟨a5, b5⟩, ⟨a3, b3⟩, ⟨a4, b4⟩, ⟨a6, b6⟩, ⟨a14, b14⟩, ⟨a7, b7⟩, a13, b13⟩, rF, rP, rL⟩ := id hN
  refine gm_sz (gm_p_load (pc := 0) (i := .aload_n 0) (sr := 2) (j := 0) (by decide +kernel) rfl rfl rfl) ?_
  refine gm_sz (fw_gr (pc := 1) (ix := 55) (ci := 1) (j := 12) (r := 10) (by decide +kernel) (e0k hE (k := 3) (c := 1) (by decide +kernel)) (by decide +kernel) (by decide +kernel) (e0r hE (k := 3) (j := 12) (r := 10) (by decide +kernel))) ?_
  refine gm_sz (gm_p_load (pc := 4) (i := .iload_n 1) (sr := 0) (j := 1) (by decide +kernel) rfl rfl rfl) ?_
  refine gm_sz (gm_p_const (pc := 5) (i := .iconst 0) (v := gm_vi 0) (by decide +kernel) (by decide +kernel)) ?_
  refine gm_c_virt (k := 10) (ci := 2) (mj := 10) (ix := 72) (pc := 6) (as := [gm_vi l, gm_vi 0]) (st := []) (d' := d - 1) (bc' := 0) (bs' := 0) (by decide +kernel) (by decide +kernel) (by decide +kernel) (by decide +kernel) (e0k hE (k := 10) (c := 2) (by decide +kernel)).1 (e0k hE (k := 10) (c := 2) (by decide +kernel)).2 (by decide) (by decide +kernel) (show 2 = gm_na 10 by decide +kernel) (fw_c2 fw_si fw_si) (show 3 ≤ gm_ml 10 by decide +kernel) (Nat.le_of_ble_eq_true rfl) (by omega) (Nat.zero_le _) (Nat.zero_le _) ?_
  refine rw_none (s := N 4) (e0k hE (k := 10) (c := 2) (by decide +kernel)) (ti_let hT) (by omega) ⟨⟨by omega, by omega⟩, ⟨by omega, by omega⟩⟩ ?_
  show gm_Wp X LX d _ _ 28 9 _ [gm_vi (-1)] n K _ _ Q
  refine gm_sz (gm_p_const (pc := 9) (i := .iconst (-1)) (v := gm_vi (-1)) (by decide +kernel) (by decide +kernel)) ?_
  refine fw_icfd (cc := .ne) (pc := 10) (off := 7) (by decide +kernel) (by decide) ⟨by decide, by decide⟩ ⟨by decide, by decide⟩ (by decide) ?_
  refine gm_sz (gm_p_const (pc := 13) (i := .iconst 1) (v := gm_vi 1) (by decide +kernel) (by decide +kernel)) ?_
  refine gm_sz (gm_p_goto (pc := 14) (off := 4) (by decide +kernel) (by decide)) ?_
  exact gm_r_int (pc := 18) (by decide +kernel) (Or.inr ⟨(by decide +kernel), Or.inr rfl⟩) q0
noncomputable def ln_l206 (M : gm_M) : gm_M := gm_uM (gm_uM (gm_uM (gm_uM (gm_uM (gm_uM (gm_uM M 206 2 (-1)) 206 5 (-1)) 206 7 (-1)) 206 3 1) 206 4 (-1)) 206 6 0) 206 8 0
theorem ln_let206 (hd : 2 ≤ d) (hE : E0 n K R) (hT : TI N h sp M) (hN : NR N) (h1 : N 4 ≤ l ∧ l < 100) (q0 : Q (.inl (none)) n K R (ln_l206 M)) : gm_Wp X LX d bc bs 27 0 (gm_ent 27 [gm_vr 206, gm_vi l]) [] n K R M Q := by
  obtain ⟨⟨⟨a0, b0⟩, ⟨a1, b1⟩, ⟨a10, b10⟩, ⟨a11, b11⟩, ⟨a12, b12⟩, a9, b9⟩, ⟨⟨a2, b2⟩, ⟨a5, b5⟩, ⟨a3, b3⟩, ⟨a4, b4⟩, ⟨a6, b6⟩, ⟨a14, b14⟩, ⟨a7, b7⟩, a13, b13⟩, rF, rP, rL⟩ := id hN
  refine gm_sz (gm_p_load (pc := 0) (i := .aload_n 0) (sr := 2) (j := 0) (by decide +kernel) rfl rfl rfl) ?_
  refine gm_sz (fw_gr (pc := 1) (ix := 34) (ci := 5) (j := 0) (r := 3) (by decide +kernel) (e0k hE (k := 206) (c := 5) (by decide +kernel)) (by decide +kernel) (by decide +kernel) (e0r hE (k := 206) (j := 0) (r := 3) (by decide +kernel))) ?_
  refine gm_sz (fw_gr (pc := 4) (ix := 42) (ci := 1) (j := 12) (r := 10) (by decide +kernel) (e0k hE (k := 3) (c := 1) (by decide +kernel)) (by decide +kernel) (by decide +kernel) (e0r hE (k := 3) (j := 12) (r := 10) (by decide +kernel))) ?_
  refine gm_sz (gm_p_stor (pc := 7) (i := .astore_n 2) (sr := 2) (j := 2) (by decide +kernel) rfl (show 3 ≤ _ from Nat.le_of_ble_eq_true rfl) rfl) ?_
  refine gm_sz (gm_p_load (pc := 8) (i := .aload_n 0) (sr := 2) (j := 0) (by decide +kernel) rfl rfl rfl) ?_
  refine gm_sz (gm_p_load (pc := 9) (i := .aload_n 2) (sr := 2) (j := 2) (by decide +kernel) rfl rfl rfl) ?_
  refine gm_sz (gm_p_load (pc := 10) (i := .iload_n 1) (sr := 0) (j := 1) (by decide +kernel) rfl rfl rfl) ?_
  refine gm_sz (gm_p_const (pc := 11) (i := .iconst 2) (v := gm_vi 2) (by decide +kernel) (by decide +kernel)) ?_
  refine gm_c_virt (k := 10) (ci := 2) (mj := 10) (ix := 48) (pc := 12) (as := [gm_vi l, gm_vi 2]) (st := [gm_vr 206]) (d' := d - 1) (bc' := 0) (bs' := 0) (by decide +kernel) (by decide +kernel) (by decide +kernel) (by decide +kernel) (e0k hE (k := 10) (c := 2) (by decide +kernel)).1 (e0k hE (k := 10) (c := 2) (by decide +kernel)).2 (by decide) (by decide +kernel) (show 2 = gm_na 10 by decide +kernel) (fw_c2 fw_si fw_si) (show 3 ≤ gm_ml 10 by decide +kernel) (Nat.le_of_ble_eq_true rfl) (by omega) (Nat.zero_le _) (Nat.zero_le _) ?_
  refine rw_none (s := N 4) (e0k hE (k := 10) (c := 2) (by decide +kernel)) (ti_let hT) (by omega) ⟨⟨by omega, by omega⟩, ⟨by omega, by omega⟩⟩ ?_
  show gm_Wp X LX d _ _ 27 15 _ [gm_vi (-1), gm_vr 206] n K _ _ Q
  refine gm_sz (gm_p_load (pc := 15) (i := .aload_n 2) (sr := 2) (j := 2) (by decide +kernel) rfl rfl rfl) ?_
  refine gm_sz (gm_p_load (pc := 16) (i := .iload_n 1) (sr := 0) (j := 1) (by decide +kernel) rfl rfl rfl) ?_
  refine gm_sz (gm_p_const (pc := 17) (i := .iconst 4) (v := gm_vi 4) (by decide +kernel) (by decide +kernel)) ?_
  refine gm_c_virt (k := 10) (ci := 2) (mj := 10) (ix := 48) (pc := 18) (as := [gm_vi l, gm_vi 4]) (st := [gm_vi (-1), gm_vr 206]) (d' := d - 1) (bc' := 0) (bs' := 0) (by decide +kernel) (by decide +kernel) (by decide +kernel) (by decide +kernel) (e0k hE (k := 10) (c := 2) (by decide +kernel)).1 (e0k hE (k := 10) (c := 2) (by decide +kernel)).2 (by decide) (by decide +kernel) (show 2 = gm_na 10 by decide +kernel) (fw_c2 fw_si fw_si) (show 3 ≤ gm_ml 10 by decide +kernel) (Nat.le_of_ble_eq_true rfl) (by omega) (Nat.zero_le _) (Nat.zero_le _) ?_
  refine rw_none (s := N 4) (e0k hE (k := 10) (c := 2) (by decide +kernel)) (ti_let hT) (by omega) ⟨⟨by omega, by omega⟩, ⟨by omega, by omega⟩⟩ ?_
  show gm_Wp X LX d _ _ 27 21 _ [gm_vi (-1), gm_vi (-1), gm_vr 206] n K _ _ Q
  refine gm_sz (gm_p_load (pc := 21) (i := .aload_n 2) (sr := 2) (j := 2) (by decide +kernel) rfl rfl rfl) ?_
  refine gm_sz (gm_p_load (pc := 22) (i := .iload_n 1) (sr := 0) (j := 1) (by decide +kernel) rfl rfl rfl) ?_
  refine gm_sz (gm_p_const (pc := 23) (i := .iconst 3) (v := gm_vi 3) (by decide +kernel) (by decide +kernel)) ?_
  refine gm_c_virt (k := 10) (ci := 2) (mj := 10) (ix := 48) (pc := 24) (as := [gm_vi l, gm_vi 3]) (st := [gm_vi (-1), gm_vi (-1), gm_vr 206]) (d' := d - 1) (bc' := 0) (bs' := 0) (by decide +kernel) (by decide +kernel) (by decide +kernel) (by decide +kernel) (e0k hE (k := 10) (c := 2) (by decide +kernel)).1 (e0k hE (k := 10) (c := 2) (by decide +kernel)).2 (by decide) (by decide +kernel) (show 2 = gm_na 10 by decide +kernel) (fw_c2 fw_si fw_si) (show 3 ≤ gm_ml 10 by decide +kernel) (Nat.le_of_ble_eq_true rfl) (by omega) (Nat.zero_le _) (Nat.zero_le _) ?_
  refine rw_none (s := N 4) (e0k hE (k := 10) (c := 2) (by decide +kernel)) (ti_let hT) (by omega) ⟨⟨by omega, by omega⟩, ⟨by omega, by omega⟩⟩ ?_
  show gm_Wp X LX d _ _ 27 27 _ [gm_vi (-1), gm_vi (-1), gm_vi (-1), gm_vr 206] n K _ _ Q
  refine gm_sz (gm_p_load (pc := 27) (i := .aload_n 0) (sr := 2) (j := 0) (by decide +kernel) rfl rfl rfl) ?_
  refine gm_sz (fw_gr (pc := 28) (ix := 34) (ci := 5) (j := 0) (r := 3) (by decide +kernel) (e0k hE (k := 206) (c := 5) (by decide +kernel)) (by decide +kernel) (by decide +kernel) (e0r hE (k := 206) (j := 0) (r := 3) (by decide +kernel))) ?_
  refine gm_sz (gm_p_load (pc := 31) (i := .iload_n 1) (sr := 0) (j := 1) (by decide +kernel) rfl rfl rfl) ?_
  refine gm_c_virt (k := 3) (ci := 1) (mj := 28) (ix := 54) (pc := 32) (as := [gm_vi l]) (st := [gm_vi (-1), gm_vi (-1), gm_vi (-1), gm_vr 206]) (d' := d - 1) (bc' := 0) (bs' := 0) (by decide +kernel) (by decide +kernel) (by decide +kernel) (by decide +kernel) (e0k hE (k := 3) (c := 1) (by decide +kernel)).1 (e0k hE (k := 3) (c := 1) (by decide +kernel)).2 (by decide) (by decide +kernel) (show 1 = gm_na 28 by decide +kernel) (fw_c1 fw_si) (show 2 ≤ gm_ml 28 by decide +kernel) (Nat.le_of_ble_eq_true rfl) (by omega) (Nat.zero_le _) (Nat.zero_le _) ?_
  refine ln_rock (by omega) hE hT hN ⟨by omega, by omega⟩ ?_
  show gm_Wp X LX d _ _ 27 35 _ [gm_vi 1, gm_vi (-1), gm_vi (-1), gm_vi (-1), gm_vr 206] n K _ _ Q
  refine gm_c_virt (k := 206) (ci := 5) (mj := 29) (ix := 58) (pc := 35) (as := [gm_vi (-1), gm_vi (-1), gm_vi (-1), gm_vi 1]) (st := []) (d' := d - 1) (bc' := 0) (bs' := 0) (by decide +kernel) (by decide +kernel) (by decide +kernel) (by decide +kernel) (e0k hE (k := 206) (c := 5) (by decide +kernel)).1 (e0k hE (k := 206) (c := 5) (by decide +kernel)).2 (by decide) (by decide +kernel) (show 4 = gm_na 29 by decide +kernel) (fw_c4 fw_si fw_si fw_si fw_si) (show 5 ≤ gm_ml 29 by decide +kernel) (Nat.le_of_ble_eq_true rfl) (by omega) (Nat.zero_le _) (Nat.zero_le _) ?_
  refine wy_st206 hE hT hN ⟨by decide, by decide⟩ ?_
  show gm_Wp X LX d _ _ 27 38 _ [] n K _ _ Q
  exact gm_r_void (pc := 38) (by decide +kernel) (by decide +kernel) q0
noncomputable def ln_l207 (M : gm_M) : gm_M := gm_uM (gm_uM (gm_uM (gm_uM (gm_uM (gm_uM (gm_uM M 207 2 (-1)) 207 5 (-1)) 207 7 (-1)) 207 3 1) 207 4 (-1)) 207 6 0) 207 8 0
theorem ln_let207 (hd : 2 ≤ d) (hE : E0 n K R) (hT : TI N h sp M) (hN : NR N) (h1 : N 4 ≤ l ∧ l < 100) (q0 : Q (.inl (none)) n K R (ln_l207 M)) : gm_Wp X LX d bc bs 27 0 (gm_ent 27 [gm_vr 207, gm_vi l]) [] n K R M Q := by
  obtain ⟨⟨⟨a0, b0⟩, ⟨a1, b1⟩, ⟨a10, b10⟩, ⟨a11, b11⟩, ⟨a12, b12⟩, a9, b9⟩, ⟨⟨a2, b2⟩, ⟨a5, b5⟩, ⟨a3, b3⟩, ⟨a4, b4⟩, ⟨a6, b6⟩, ⟨a14, b14⟩, ⟨a7, b7⟩, a13, b13⟩, rF, rP, rL⟩ := id hN
  refine gm_sz (gm_p_load (pc := 0) (i := .aload_n 0) (sr := 2) (j := 0) (by decide +kernel) rfl rfl rfl) ?_
  refine gm_sz (fw_gr (pc := 1) (ix := 34) (ci := 5) (j := 0) (r := 3) (by decide +kernel) (e0k hE (k := 207) (c := 5) (by decide +kernel)) (by decide +kernel) (by decide +kernel) (e0r hE (k := 207) (j := 0) (r := 3) (by decide +kernel))) ?_
  refine gm_sz (fw_gr (pc := 4) (ix := 42) (ci := 1) (j := 12) (r := 10) (by decide +kernel) (e0k hE (k := 3) (c := 1) (by decide +kernel)) (by decide +kernel) (by decide +kernel) (e0r hE (k := 3) (j := 12) (r := 10) (by decide +kernel))) ?_
  refine gm_sz (gm_p_stor (pc := 7) (i := .astore_n 2) (sr := 2) (j := 2) (by decide +kernel) rfl (show 3 ≤ _ from Nat.le_of_ble_eq_true rfl) rfl) ?_
  refine gm_sz (gm_p_load (pc := 8) (i := .aload_n 0) (sr := 2) (j := 0) (by decide +kernel) rfl rfl rfl) ?_
  refine gm_sz (gm_p_load (pc := 9) (i := .aload_n 2) (sr := 2) (j := 2) (by decide +kernel) rfl rfl rfl) ?_
  refine gm_sz (gm_p_load (pc := 10) (i := .iload_n 1) (sr := 0) (j := 1) (by decide +kernel) rfl rfl rfl) ?_
  refine gm_sz (gm_p_const (pc := 11) (i := .iconst 2) (v := gm_vi 2) (by decide +kernel) (by decide +kernel)) ?_
  refine gm_c_virt (k := 10) (ci := 2) (mj := 10) (ix := 48) (pc := 12) (as := [gm_vi l, gm_vi 2]) (st := [gm_vr 207]) (d' := d - 1) (bc' := 0) (bs' := 0) (by decide +kernel) (by decide +kernel) (by decide +kernel) (by decide +kernel) (e0k hE (k := 10) (c := 2) (by decide +kernel)).1 (e0k hE (k := 10) (c := 2) (by decide +kernel)).2 (by decide) (by decide +kernel) (show 2 = gm_na 10 by decide +kernel) (fw_c2 fw_si fw_si) (show 3 ≤ gm_ml 10 by decide +kernel) (Nat.le_of_ble_eq_true rfl) (by omega) (Nat.zero_le _) (Nat.zero_le _) ?_
  refine rw_none (s := N 4) (e0k hE (k := 10) (c := 2) (by decide +kernel)) (ti_let hT) (by omega) ⟨⟨by omega, by omega⟩, ⟨by omega, by omega⟩⟩ ?_
  show gm_Wp X LX d _ _ 27 15 _ [gm_vi (-1), gm_vr 207] n K _ _ Q
  refine gm_sz (gm_p_load (pc := 15) (i := .aload_n 2) (sr := 2) (j := 2) (by decide +kernel) rfl rfl rfl) ?_
  refine gm_sz (gm_p_load (pc := 16) (i := .iload_n 1) (sr := 0) (j := 1) (by decide +kernel) rfl rfl rfl) ?_
  refine gm_sz (gm_p_const (pc := 17) (i := .iconst 4) (v := gm_vi 4) (by decide +kernel) (by decide +kernel)) ?_
  refine gm_c_virt (k := 10) (ci := 2) (mj := 10) (ix := 48) (pc := 18) (as := [gm_vi l, gm_vi 4]) (st := [gm_vi (-1), gm_vr 207]) (d' := d - 1) (bc' := 0) (bs' := 0) (by decide +kernel) (by decide +kernel) (by decide +kernel) (by decide +kernel) (e0k hE (k := 10) (c := 2) (by decide +kernel)).1 (e0k hE (k := 10) (c := 2) (by decide +kernel)).2 (by decide) (by decide +kernel) (show 2 = gm_na 10 by decide +kernel) (fw_c2 fw_si fw_si) (show 3 ≤ gm_ml 10 by decide +kernel) (Nat.le_of_ble_eq_true rfl) (by omega) (Nat.zero_le _) (Nat.zero_le _) ?_
  refine rw_none (s := N 4) (e0k hE (k := 10) (c := 2) (by decide +kernel)) (ti_let hT) (by omega) ⟨⟨by omega, by omega⟩, ⟨by omega, by omega⟩⟩ ?_
  show gm_Wp X LX d _ _ 27 21 _ [gm_vi (-1), gm_vi (-1), gm_vr 207] n K _ _ Q
  refine gm_sz (gm_p_load (pc := 21) (i := .aload_n 2) (sr := 2) (j := 2) (by decide +kernel) rfl rfl rfl) ?_
  refine gm_sz (gm_p_load (pc := 22) (i := .iload_n 1) (sr := 0) (j := 1) (by decide +kernel) rfl rfl rfl) ?_
  refine gm_sz (gm_p_const (pc := 23) (i := .iconst 3) (v := gm_vi 3) (by decide +kernel) (by decide +kernel)) ?_
  refine gm_c_virt (k := 10) (ci := 2) (mj := 10) (ix := 48) (pc := 24) (as := [gm_vi l, gm_vi 3]) (st := [gm_vi (-1), gm_vi (-1), gm_vr 207]) (d' := d - 1) (bc' := 0) (bs' := 0) (by decide +kernel) (by decide +kernel) (by decide +kernel) (by decide +kernel) (e0k hE (k := 10) (c := 2) (by decide +kernel)).1 (e0k hE (k := 10) (c := 2) (by decide +kernel)).2 (by decide) (by decide +kernel) (show 2 = gm_na 10 by decide +kernel) (fw_c2 fw_si fw_si) (show 3 ≤ gm_ml 10 by decide +kernel) (Nat.le_of_ble_eq_true rfl) (by omega) (Nat.zero_le _) (Nat.zero_le _) ?_
  refine rw_none (s := N 4) (e0k hE (k := 10) (c := 2) (by decide +kernel)) (ti_let hT) (by omega) ⟨⟨by omega, by omega⟩, ⟨by omega, by omega⟩⟩ ?_
  show gm_Wp X LX d _ _ 27 27 _ [gm_vi (-1), gm_vi (-1), gm_vi (-1), gm_vr 207] n K _ _ Q
  refine gm_sz (gm_p_load (pc := 27) (i := .aload_n 0) (sr := 2) (j := 0) (by decide +kernel) rfl rfl rfl) ?_
  refine gm_sz (fw_gr (pc := 28) (ix := 34) (ci := 5) (j := 0) (r := 3) (by decide +kernel) (e0k hE (k := 207) (c := 5) (by decide +kernel)) (by decide +kernel) (by decide +kernel) (e0r hE (k := 207) (j := 0) (r := 3) (by decide +kernel))) ?_
  refine gm_sz (gm_p_load (pc := 31) (i := .iload_n 1) (sr := 0) (j := 1) (by decide +kernel) rfl rfl rfl) ?_
  refine gm_c_virt (k := 3) (ci := 1) (mj := 28) (ix := 54) (pc := 32) (as := [gm_vi l]) (st := [gm_vi (-1), gm_vi (-1), gm_vi (-1), gm_vr 207]) (d' := d - 1) (bc' := 0) (bs' := 0) (by decide +kernel) (by decide +kernel) (by decide +kernel) (by decide +kernel) (e0k hE (k := 3) (c := 1) (by decide +kernel)).1 (e0k hE (k := 3) (c := 1) (by decide +kernel)).2 (by decide) (by decide +kernel) (show 1 = gm_na 28 by decide +kernel) (fw_c1 fw_si) (show 2 ≤ gm_ml 28 by decide +kernel) (Nat.le_of_ble_eq_true rfl) (by omega) (Nat.zero_le _) (Nat.zero_le _) ?_
  refine ln_rock (by omega) hE hT hN ⟨by omega, by omega⟩ ?_
  show gm_Wp X LX d _ _ 27 35 _ [gm_vi 1, gm_vi (-1), gm_vi (-1), gm_vi (-1), gm_vr 207] n K _ _ Q
  refine gm_c_virt (k := 207) (ci := 5) (mj := 29) (ix := 58) (pc := 35) (as := [gm_vi (-1), gm_vi (-1), gm_vi (-1), gm_vi 1]) (st := []) (d' := d - 1) (bc' := 0) (bs' := 0) (by decide +kernel) (by decide +kernel) (by decide +kernel) (by decide +kernel) (e0k hE (k := 207) (c := 5) (by decide +kernel)).1 (e0k hE (k := 207) (c := 5) (by decide +kernel)).2 (by decide) (by decide +kernel) (show 4 = gm_na 29 by decide +kernel) (fw_c4 fw_si fw_si fw_si fw_si) (show 5 ≤ gm_ml 29 by decide +kernel) (Nat.le_of_ble_eq_true rfl) (by omega) (Nat.zero_le _) (Nat.zero_le _) ?_
  refine wy_st207 hE hT hN ⟨by decide, by decide⟩ ?_
  show gm_Wp X LX d _ _ 27 38 _ [] n K _ _ Q
  exact gm_r_void (pc := 38) (by decide +kernel) (by decide +kernel) q0
noncomputable def ln_h206 (M : gm_M) (year : Int) : gm_M := gm_uM (gm_uM (gm_uM (gm_uM (gm_uM (gm_uM (gm_uM M 206 2 (-1)) 206 5 (-1)) 206 7 year) 206 3 0) 206 4 (-1)) 206 6 0) 206 8 0
theorem ln_hut206 (hd : 2 ≤ d) (hE : E0 n K R) (hT : TI N h sp M) (hN : NR N) (h1 : N 3 ≤ p ∧ p < 100) (q0 : Q (.inl (none)) n K R (ln_h206 M year)) : gm_Wp X LX d bc bs 170 0 (gm_ent 170 [gm_vr 206, gm_vi p, gm_vi year]) [] n K R M Q := by
  obtain ⟨⟨⟨a0, b0⟩, ⟨a1, b1⟩, ⟨a10, b10⟩, ⟨a11, b11⟩, ⟨a12, b12⟩, a9, b9⟩, ⟨⟨a2, b2⟩, ⟨a5, b5⟩, ⟨a3, b3⟩, ⟨a4, b4⟩, ⟨a6, b6⟩, ⟨a14, b14⟩, ⟨a7, b7⟩, a13, b13⟩, rF, rP, rL⟩ := id hN
  refine gm_sz (gm_p_load (pc := 0) (i := .aload_n 0) (sr := 2) (j := 0) (by decide +kernel) rfl rfl rfl) ?_
  refine gm_sz (gm_p_load (pc := 1) (i := .aload_n 0) (sr := 2) (j := 0) (by decide +kernel) rfl rfl rfl) ?_
  refine gm_sz (fw_gr (pc := 2) (ix := 34) (ci := 5) (j := 0) (r := 3) (by decide +kernel) (e0k hE (k := 206) (c := 5) (by decide +kernel)) (by decide +kernel) (by decide +kernel) (e0r hE (k := 206) (j := 0) (r := 3) (by decide +kernel))) ?_
  refine gm_sz (fw_gr (pc := 5) (ix := 62) (ci := 1) (j := 11) (r := 8) (by decide +kernel) (e0k hE (k := 3) (c := 1) (by decide +kernel)) (by decide +kernel) (by decide +kernel) (e0r hE (k := 3) (j := 11) (r := 8) (by decide +kernel))) ?_
  refine gm_sz (gm_p_load (pc := 8) (i := .iload_n 1) (sr := 0) (j := 1) (by decide +kernel) rfl rfl rfl) ?_
  refine gm_sz (gm_p_const (pc := 9) (i := .iconst 0) (v := gm_vi 0) (by decide +kernel) (by decide +kernel)) ?_
  refine gm_c_virt (k := 8) (ci := 2) (mj := 10) (ix := 48) (pc := 10) (as := [gm_vi p, gm_vi 0]) (st := [gm_vr 206]) (d' := d - 1) (bc' := 0) (bs' := 0) (by decide +kernel) (by decide +kernel) (by decide +kernel) (by decide +kernel) (e0k hE (k := 8) (c := 2) (by decide +kernel)).1 (e0k hE (k := 8) (c := 2) (by decide +kernel)).2 (by decide) (by decide +kernel) (show 2 = gm_na 10 by decide +kernel) (fw_c2 fw_si fw_si) (show 3 ≤ gm_ml 10 by decide +kernel) (Nat.le_of_ble_eq_true rfl) (by omega) (Nat.zero_le _) (Nat.zero_le _) ?_
  refine rw_none (s := N 3) (e0k hE (k := 8) (c := 2) (by decide +kernel)) (ti_peo hT) (by omega) ⟨⟨by omega, by omega⟩, ⟨by omega, by omega⟩⟩ ?_
  show gm_Wp X LX d _ _ 170 13 _ [gm_vi (-1), gm_vr 206] n K _ _ Q
  refine gm_sz (gm_p_load (pc := 13) (i := .aload_n 0) (sr := 2) (j := 0) (by decide +kernel) rfl rfl rfl) ?_
  refine gm_sz (fw_gr (pc := 14) (ix := 34) (ci := 5) (j := 0) (r := 3) (by decide +kernel) (e0k hE (k := 206) (c := 5) (by decide +kernel)) (by decide +kernel) (by decide +kernel) (e0r hE (k := 206) (j := 0) (r := 3) (by decide +kernel))) ?_
  refine gm_sz (fw_gr (pc := 17) (ix := 62) (ci := 1) (j := 11) (r := 8) (by decide +kernel) (e0k hE (k := 3) (c := 1) (by decide +kernel)) (by decide +kernel) (by decide +kernel) (e0r hE (k := 3) (j := 11) (r := 8) (by decide +kernel))) ?_
  refine gm_sz (gm_p_load (pc := 20) (i := .iload_n 1) (sr := 0) (j := 1) (by decide +kernel) rfl rfl rfl) ?_
  refine gm_sz (gm_p_const (pc := 21) (i := .iconst 1) (v := gm_vi 1) (by decide +kernel) (by decide +kernel)) ?_
  refine gm_c_virt (k := 8) (ci := 2) (mj := 10) (ix := 48) (pc := 22) (as := [gm_vi p, gm_vi 1]) (st := [gm_vi (-1), gm_vr 206]) (d' := d - 1) (bc' := 0) (bs' := 0) (by decide +kernel) (by decide +kernel) (by decide +kernel) (by decide +kernel) (e0k hE (k := 8) (c := 2) (by decide +kernel)).1 (e0k hE (k := 8) (c := 2) (by decide +kernel)).2 (by decide) (by decide +kernel) (show 2 = gm_na 10 by decide +kernel) (fw_c2 fw_si fw_si) (show 3 ≤ gm_ml 10 by decide +kernel) (Nat.le_of_ble_eq_true rfl) (by omega) (Nat.zero_le _) (Nat.zero_le _) ?_
  refine rw_none (s := N 3) (e0k hE (k := 8) (c := 2) (by decide +kernel)) (ti_peo hT) (by omega) ⟨⟨by omega, by omega⟩, ⟨by omega, by omega⟩⟩ ?_
  show gm_Wp X LX d _ _ 170 25 _ [gm_vi (-1), gm_vi (-1), gm_vr 206] n K _ _ Q
  refine gm_sz (gm_p_load (pc := 25) (i := .iload_n 2) (sr := 0) (j := 2) (by decide +kernel) rfl rfl rfl) ?_
  refine gm_sz (gm_p_const (pc := 26) (i := .iconst 0) (v := gm_vi 0) (by decide +kernel) (by decide +kernel)) ?_
  refine gm_c_virt (k := 206) (ci := 5) (mj := 29) (ix := 58) (pc := 27) (as := [gm_vi (-1), gm_vi (-1), gm_vi year, gm_vi 0]) (st := []) (d' := d - 1) (bc' := 0) (bs' := 0) (by decide +kernel) (by decide +kernel) (by decide +kernel) (by decide +kernel) (e0k hE (k := 206) (c := 5) (by decide +kernel)).1 (e0k hE (k := 206) (c := 5) (by decide +kernel)).2 (by decide) (by decide +kernel) (show 4 = gm_na 29 by decide +kernel) (fw_c4 fw_si fw_si fw_si fw_si) (show 5 ≤ gm_ml 29 by decide +kernel) (Nat.le_of_ble_eq_true rfl) (by omega) (Nat.zero_le _) (Nat.zero_le _) ?_
  refine wy_st206 hE hT hN ⟨by decide, by decide⟩ ?_
  show gm_Wp X LX d _ _ 170 30 _ [] n K _ _ Q
  exact gm_r_void (pc := 30) (by decide +kernel) (by decide +kernel) q0
noncomputable def q27_206p : ck_Sum := ((2, 0, 0), 249, [.inr (.inr (.inl 206)), .inl (0, 23, [])], ([], [], []), ([(206, 2, 8)], []), [(.inr none, 249, ([], [], [(206, 8, 8, ck_one 0), (206, 6, 6, ck_one 0), (206, 4, 4, ck_one (-1)), (206, 7, 7, ((-1), 299, [])), (206, 5, 5, ((-1), 299, [])), (206, 2, 2, ((-1), 299, []))]))])
noncomputable def q27_206 : ck_Sum := ((2, 0, 0), 249, [.inr (.inr (.inl 206)), .inl (0, 23, [])], ([], [], []), ([(206, 2, 8)], []), [(.inr none, 249, ([], [], [(206, 8, 8, ck_one 0), (206, 6, 6, ck_one 0), (206, 4, 4, ck_one (-1)), (206, 7, 7, (0, 299, [])), (206, 5, 5, (0, 98, [])), (206, 2, 2, (0, 6, []))])), (.inr none, 249, ([], [], [(206, 8, 8, ck_one 0), (206, 6, 6, ck_one 0), (206, 4, 4, ck_one (-1)), (206, 7, 7, ((-1), (-1), [])), (206, 5, 5, ((-1), (-1), [])), (206, 2, 2, ((-1), (-1), []))]))])
theorem q27_206_s (hS : ck_Ok p2_OL X LX 27 q27_206p) : ck_Ok qL_O X LX 27 q27_206 := by
  intro d σ vs n K R M hd hn hvs hσ hF hf
  obtain ⟨v0, w0, rfl, g0, v1, w1, rfl, ⟨x0, rfl, r0, l0, u0, -⟩, g9⟩ := hvs
  have g9 : w1 = [] := g9
  subst g9
  have g0 : v0 = gm_vr 206 := g0
  subst g0
  have l0 : (0 : Int) ≤ x0 := l0
  have u0 : x0 ≤ (23 : Int) := u0
  have hn : n = 249 := hn
  subst hn
  have hd : 2 ≤ d := hd
  have F0 := pl_o (qL_p hF)
  have hrow := hS d σ [gm_vr 206, gm_vi x0] 249 K R M (show 2 ≤ d by omega) rfl ⟨_, _, rfl, rfl, _, _, rfl, ⟨x0, rfl, r0, l0, u0, fun _ h => nomatch h⟩, rfl⟩ (fun q hq => hσ q (List.mem_append_left _ hq)) (qL_p hF) ⟨(fun _ h => nomatch h), (fun _ h => nomatch h), (fun _ h => nomatch h)⟩
  have hq : ∃ N ls, qC (some ls) N M := by
    obtain ⟨hJ, N, ls, hq, -⟩ := hF.2.2.2.2
    exact ⟨N, ls, hq⟩
  obtain ⟨N, ls, hq⟩ := hq
  have hT := ti_x (cstF F0) hq.2.1
  have hN := hq.1.1.1
  have hE := e0F F0
  have hfun : gm_Wp X LX d 0 0 27 0 (gm_ent 27 [gm_vr 206, gm_vi x0]) [] 249 K R M (fun o n1 K1 R1 M1 => K1 = K ∧ (((0 ≤ M1 206 2 ∧ M1 206 2 ≤ 6) ∧ (0 ≤ M1 206 5 ∧ M1 206 5 ≤ 98) ∧ (0 ≤ M1 206 7 ∧ M1 206 7 ≤ 299)) ∨ (M1 206 2 = -1 ∧ M1 206 5 = -1 ∧ M1 206 7 = -1))) := by
    by_cases h4 : x0 < N 4
    · refine wy_let206 (by omega) hE hT hN ⟨l0, h4⟩ ⟨rfl, Or.inl ?_⟩
      have hB := hN.2.2.2.2 x0 l0 h4
      have b0 := hN.1.1
      have b1 := hN.1.2.1
      have b9 := hN.1.2.2.2.2.2
      have z2 : wy_l206 M N x0 206 2 = N (119 + (x0 * 7 + 2)) := by simp [wy_l206, gm_uM]
      have z5 : wy_l206 M N x0 206 5 = N (119 + (x0 * 7 + 4)) := by simp [wy_l206, gm_uM]
      have z7 : wy_l206 M N x0 206 7 = N (119 + (x0 * 7 + 3)) := by simp [wy_l206, gm_uM]
      rw [z2, z5, z7]
      obtain ⟨-, -, c2, c3, c4, -⟩ := hB
      exact ⟨⟨c2.1, by omega⟩, ⟨c4.1, by omega⟩, ⟨c3.1, by omega⟩⟩
    · refine ln_let206 (by omega) hE hT hN ⟨by omega, by omega⟩ ⟨rfl, Or.inr ?_⟩
      have z2 : ln_l206 M 206 2 = -1 := by simp [ln_l206, gm_uM]
      have z5 : ln_l206 M 206 5 = -1 := by simp [ln_l206, gm_uM]
      have z7 : ln_l206 M 206 7 = -1 := by simp [ln_l206, gm_uM]
      exact ⟨z2, z5, z7⟩
  refine gm_Wp_mono (fun o n2 K2 R2 M2 hh => ?_) (gm_Wp_and hrow hfun)
  obtain ⟨⟨hF2, hfr, oc, hoc, ho, hn2, hf2⟩, o3, n3, K3, R3, M3, ⟨rfl, hI⟩, -, hdt⟩ := hh
  have hKK : ∀ k, 1 ≤ k → k ≤ 249 → K3 k = K2 k := fun k _ hk => (hfr.2.1 k hk).symm
  have e1 : ∀ k j, k ≤ 249 → ¬ k = 206 → M2 k j = M k j := fun k j hk h => hfr.2.2.1 k j hk (fun w hw hh => by
    have := of_decide_eq_true (List.all_eq_true.mp (show q27_206p.2.2.2.2.1.1.all (fun w => decide (w.1 = 206)) = true by decide) w hw)
    omega)
  have e2 : M2 206 2 = gm_w (M3 206 2) := dw_f (dt_sym hdt) (by decide) hKK (pl_o hF2) (show tyF 206 5 2 = true by decide +kernel)
  rw [dw_i ⟨by omega, by omega⟩] at e2
  have e5 : M2 206 5 = gm_w (M3 206 5) := dw_f (dt_sym hdt) (by decide) hKK (pl_o hF2) (show tyF 206 5 5 = true by decide +kernel)
  rw [dw_i ⟨by omega, by omega⟩] at e5
  have e7 : M2 206 7 = gm_w (M3 206 7) := dw_f (dt_sym hdt) (by decide) hKK (pl_o hF2) (show tyF 206 5 7 = true by decide +kernel)
  rw [dw_i ⟨by omega, by omega⟩] at e7
  have ho2 := List.mem_singleton.mp hoc
  subst ho2
  have hF9 : gm_Fx qL_O n2 K2 R2 M2 := qL_b hF (by decide) hF2 hfr (fun N2 ls2 hq2 hk2 hw2 hlr2 => ⟨by
    rw [e1 1 15 (by decide) (by decide)]
    exact hq2.2.2.imp_right fun hh => ⟨hh.1, ends_x hh.2 (fun k j hk => e1 k j (by omega) (by omega))⟩, kfl_b hk2 ⟨by have := hq2.1.1.1.1.1; omega, by have := hq2.1.1.1.1.2.1; omega⟩ (e1 200 6 (by decide) (by decide)) (fun j _ _ => e1 205 j (by decide) (by decide))⟩)
  have hcn : 206 ≤ n2 := by have := hfr.1; omega
  have k8 := hf2.2.2 (206, 8, 8, ck_one 0) List.mem_cons_self
  have k6 := hf2.2.2 (206, 6, 6, ck_one 0) (List.mem_cons_of_mem _ List.mem_cons_self)
  have k4 := hf2.2.2 (206, 4, 4, ck_one (-1)) (List.mem_cons_of_mem _ (List.mem_cons_of_mem _ List.mem_cons_self))
  rcases hI with ⟨i2, i5, i7⟩ | ⟨i2, i5, i7⟩
  · refine ⟨hF9, hfr, _, List.mem_cons_self, ho, hn2, (fun _ h => nomatch h), (fun _ h => nomatch h), fun q hq9 => ?_⟩
    simp only [List.mem_cons, List.not_mem_nil, or_false] at hq9
    rcases hq9 with rfl | rfl | rfl | rfl | rfl | rfl
    · exact k8
    · exact k6
    · exact k4
    · refine ⟨hcn, fun j j1 j2 => ?_⟩
      have ej : j = 7 := Int.le_antisymm j2 j1
      subst ej
      exact ⟨(show gm_ir (M2 206 7) from ⟨by omega, by omega⟩), (show 0 ≤ M2 206 7 by omega), (show M2 206 7 ≤ 299 by omega), fun _ h => nomatch h⟩
    · refine ⟨hcn, fun j j1 j2 => ?_⟩
      have ej : j = 5 := Int.le_antisymm j2 j1
      subst ej
      exact ⟨(show gm_ir (M2 206 5) from ⟨by omega, by omega⟩), (show 0 ≤ M2 206 5 by omega), (show M2 206 5 ≤ 98 by omega), fun _ h => nomatch h⟩
    · refine ⟨hcn, fun j j1 j2 => ?_⟩
      have ej : j = 2 := Int.le_antisymm j2 j1
      subst ej
      exact ⟨(show gm_ir (M2 206 2) from ⟨by omega, by omega⟩), (show 0 ≤ M2 206 2 by omega), (show M2 206 2 ≤ 6 by omega), fun _ h => nomatch h⟩
  · refine ⟨hF9, hfr, _, (List.mem_cons_of_mem _ List.mem_cons_self), ho, hn2, (fun _ h => nomatch h), (fun _ h => nomatch h), fun q hq9 => ?_⟩
    simp only [List.mem_cons, List.not_mem_nil, or_false] at hq9
    rcases hq9 with rfl | rfl | rfl | rfl | rfl | rfl
    · exact k8
    · exact k6
    · exact k4
    · refine ⟨hcn, fun j j1 j2 => ?_⟩
      have ej : j = 7 := Int.le_antisymm j2 j1
      subst ej
      exact ⟨(show gm_ir (M2 206 7) from ⟨by omega, by omega⟩), (show -1 ≤ M2 206 7 by omega), (show M2 206 7 ≤ -1 by omega), fun _ h => nomatch h⟩
    · refine ⟨hcn, fun j j1 j2 => ?_⟩
      have ej : j = 5 := Int.le_antisymm j2 j1
      subst ej
      exact ⟨(show gm_ir (M2 206 5) from ⟨by omega, by omega⟩), (show -1 ≤ M2 206 5 by omega), (show M2 206 5 ≤ -1 by omega), fun _ h => nomatch h⟩
    · refine ⟨hcn, fun j j1 j2 => ?_⟩
      have ej : j = 2 := Int.le_antisymm j2 j1
      subst ej
      exact ⟨(show gm_ir (M2 206 2) from ⟨by omega, by omega⟩), (show -1 ≤ M2 206 2 by omega), (show M2 206 2 ≤ -1 by omega), fun _ h => nomatch h⟩
noncomputable def q27_207p : ck_Sum := ((2, 0, 0), 249, [.inr (.inr (.inl 207)), .inl (0, 23, [])], ([], [], []), ([(207, 2, 8)], []), [(.inr none, 249, ([], [], [(207, 8, 8, ck_one 0), (207, 6, 6, ck_one 0), (207, 7, 7, ((-1), 299, [])), (207, 5, 5, ((-1), 299, []))]))])
noncomputable def q27_207 : ck_Sum := ((2, 0, 0), 249, [.inr (.inr (.inl 207)), .inl (0, 23, [])], ([], [], []), ([(207, 2, 8)], []), [(.inr none, 249, ([], [], [(207, 8, 8, ck_one 0), (207, 6, 6, ck_one 0), (207, 7, 7, (0, 299, [])), (207, 5, 5, (0, 98, [])), (207, 2, 2, (0, 6, []))])), (.inr none, 249, ([], [], [(207, 8, 8, ck_one 0), (207, 6, 6, ck_one 0), (207, 7, 7, ((-1), (-1), [])), (207, 5, 5, ((-1), (-1), [])), (207, 2, 2, ((-1), (-1), []))]))])
theorem q27_207_s (hS : ck_Ok p2_OL X LX 27 q27_207p) : ck_Ok qL_O X LX 27 q27_207 := by
  intro d σ vs n K R M hd hn hvs hσ hF hf
  obtain ⟨v0, w0, rfl, g0, v1, w1, rfl, ⟨x0, rfl, r0, l0, u0, -⟩, g9⟩ := hvs
  have g9 : w1 = [] := g9
  subst g9
  have g0 : v0 = gm_vr 207 := g0
  subst g0
  have l0 : (0 : Int) ≤ x0 := l0
  have u0 : x0 ≤ (23 : Int) := u0
  have hn : n = 249 := hn
  subst hn
  have hd : 2 ≤ d := hd
  have F0 := pl_o (qL_p hF)
  have hrow := hS d σ [gm_vr 207, gm_vi x0] 249 K R M (show 2 ≤ d by omega) rfl ⟨_, _, rfl, rfl, _, _, rfl, ⟨x0, rfl, r0, l0, u0, fun _ h => nomatch h⟩, rfl⟩ (fun q hq => hσ q (List.mem_append_left _ hq)) (qL_p hF) ⟨(fun _ h => nomatch h), (fun _ h => nomatch h), (fun _ h => nomatch h)⟩
  have hq : ∃ N ls, qC (some ls) N M := by
    obtain ⟨hJ, N, ls, hq, -⟩ := hF.2.2.2.2
    exact ⟨N, ls, hq⟩
  obtain ⟨N, ls, hq⟩ := hq
  have hT := ti_x (cstF F0) hq.2.1
  have hN := hq.1.1.1
  have hE := e0F F0
  have hfun : gm_Wp X LX d 0 0 27 0 (gm_ent 27 [gm_vr 207, gm_vi x0]) [] 249 K R M (fun o n1 K1 R1 M1 => K1 = K ∧ (((0 ≤ M1 207 2 ∧ M1 207 2 ≤ 6) ∧ (0 ≤ M1 207 5 ∧ M1 207 5 ≤ 98) ∧ (0 ≤ M1 207 7 ∧ M1 207 7 ≤ 299)) ∨ (M1 207 2 = -1 ∧ M1 207 5 = -1 ∧ M1 207 7 = -1))) := by
    by_cases h4 : x0 < N 4
    · refine wy_let207 (by omega) hE hT hN ⟨l0, h4⟩ ⟨rfl, Or.inl ?_⟩
      have hB := hN.2.2.2.2 x0 l0 h4
      have b0 := hN.1.1
      have b1 := hN.1.2.1
      have b9 := hN.1.2.2.2.2.2
      have z2 : wy_l207 M N x0 207 2 = N (119 + (x0 * 7 + 2)) := by simp [wy_l207, gm_uM]
      have z5 : wy_l207 M N x0 207 5 = N (119 + (x0 * 7 + 4)) := by simp [wy_l207, gm_uM]
      have z7 : wy_l207 M N x0 207 7 = N (119 + (x0 * 7 + 3)) := by simp [wy_l207, gm_uM]
      rw [z2, z5, z7]
      obtain ⟨-, -, c2, c3, c4, -⟩ := hB
      exact ⟨⟨c2.1, by omega⟩, ⟨c4.1, by omega⟩, ⟨c3.1, by omega⟩⟩
    · refine ln_let207 (by omega) hE hT hN ⟨by omega, by omega⟩ ⟨rfl, Or.inr ?_⟩
      have z2 : ln_l207 M 207 2 = -1 := by simp [ln_l207, gm_uM]
      have z5 : ln_l207 M 207 5 = -1 := by simp [ln_l207, gm_uM]
      have z7 : ln_l207 M 207 7 = -1 := by simp [ln_l207, gm_uM]
      exact ⟨z2, z5, z7⟩
  refine gm_Wp_mono (fun o n2 K2 R2 M2 hh => ?_) (gm_Wp_and hrow hfun)
  obtain ⟨⟨hF2, hfr, oc, hoc, ho, hn2, hf2⟩, o3, n3, K3, R3, M3, ⟨rfl, hI⟩, -, hdt⟩ := hh
  have hKK : ∀ k, 1 ≤ k → k ≤ 249 → K3 k = K2 k := fun k _ hk => (hfr.2.1 k hk).symm
  have e1 : ∀ k j, k ≤ 249 → ¬ k = 207 → M2 k j = M k j := fun k j hk h => hfr.2.2.1 k j hk (fun w hw hh => by
    have := of_decide_eq_true (List.all_eq_true.mp (show q27_207p.2.2.2.2.1.1.all (fun w => decide (w.1 = 207)) = true by decide) w hw)
    omega)
  have e2 : M2 207 2 = gm_w (M3 207 2) := dw_f (dt_sym hdt) (by decide) hKK (pl_o hF2) (show tyF 207 5 2 = true by decide +kernel)
  rw [dw_i ⟨by omega, by omega⟩] at e2
  have e5 : M2 207 5 = gm_w (M3 207 5) := dw_f (dt_sym hdt) (by decide) hKK (pl_o hF2) (show tyF 207 5 5 = true by decide +kernel)
  rw [dw_i ⟨by omega, by omega⟩] at e5
  have e7 : M2 207 7 = gm_w (M3 207 7) := dw_f (dt_sym hdt) (by decide) hKK (pl_o hF2) (show tyF 207 5 7 = true by decide +kernel)
  rw [dw_i ⟨by omega, by omega⟩] at e7
  have ho2 := List.mem_singleton.mp hoc
  subst ho2
  have hF9 : gm_Fx qL_O n2 K2 R2 M2 := qL_b hF (by decide) hF2 hfr (fun N2 ls2 hq2 hk2 hw2 hlr2 => ⟨by
    rw [e1 1 15 (by decide) (by decide)]
    exact hq2.2.2.imp_right fun hh => ⟨hh.1, ends_x hh.2 (fun k j hk => e1 k j (by omega) (by omega))⟩, kfl_b hk2 ⟨by have := hq2.1.1.1.1.1; omega, by have := hq2.1.1.1.1.2.1; omega⟩ (e1 200 6 (by decide) (by decide)) (fun j _ _ => e1 205 j (by decide) (by decide))⟩)
  have hcn : 207 ≤ n2 := by have := hfr.1; omega
  have k8 := hf2.2.2 (207, 8, 8, ck_one 0) List.mem_cons_self
  have k6 := hf2.2.2 (207, 6, 6, ck_one 0) (List.mem_cons_of_mem _ List.mem_cons_self)
  rcases hI with ⟨i2, i5, i7⟩ | ⟨i2, i5, i7⟩
  · refine ⟨hF9, hfr, _, List.mem_cons_self, ho, hn2, (fun _ h => nomatch h), (fun _ h => nomatch h), fun q hq9 => ?_⟩
    simp only [List.mem_cons, List.not_mem_nil, or_false] at hq9
    rcases hq9 with rfl | rfl | rfl | rfl | rfl
    · exact k8
    · exact k6
    · refine ⟨hcn, fun j j1 j2 => ?_⟩
      have ej : j = 7 := Int.le_antisymm j2 j1
      subst ej
      exact ⟨(show gm_ir (M2 207 7) from ⟨by omega, by omega⟩), (show 0 ≤ M2 207 7 by omega), (show M2 207 7 ≤ 299 by omega), fun _ h => nomatch h⟩
    · refine ⟨hcn, fun j j1 j2 => ?_⟩
      have ej : j = 5 := Int.le_antisymm j2 j1
      subst ej
      exact ⟨(show gm_ir (M2 207 5) from ⟨by omega, by omega⟩), (show 0 ≤ M2 207 5 by omega), (show M2 207 5 ≤ 98 by omega), fun _ h => nomatch h⟩
    · refine ⟨hcn, fun j j1 j2 => ?_⟩
      have ej : j = 2 := Int.le_antisymm j2 j1
      subst ej
      exact ⟨(show gm_ir (M2 207 2) from ⟨by omega, by omega⟩), (show 0 ≤ M2 207 2 by omega), (show M2 207 2 ≤ 6 by omega), fun _ h => nomatch h⟩
  · refine ⟨hF9, hfr, _, (List.mem_cons_of_mem _ List.mem_cons_self), ho, hn2, (fun _ h => nomatch h), (fun _ h => nomatch h), fun q hq9 => ?_⟩
    simp only [List.mem_cons, List.not_mem_nil, or_false] at hq9
    rcases hq9 with rfl | rfl | rfl | rfl | rfl
    · exact k8
    · exact k6
    · refine ⟨hcn, fun j j1 j2 => ?_⟩
      have ej : j = 7 := Int.le_antisymm j2 j1
      subst ej
      exact ⟨(show gm_ir (M2 207 7) from ⟨by omega, by omega⟩), (show -1 ≤ M2 207 7 by omega), (show M2 207 7 ≤ -1 by omega), fun _ h => nomatch h⟩
    · refine ⟨hcn, fun j j1 j2 => ?_⟩
      have ej : j = 5 := Int.le_antisymm j2 j1
      subst ej
      exact ⟨(show gm_ir (M2 207 5) from ⟨by omega, by omega⟩), (show -1 ≤ M2 207 5 by omega), (show M2 207 5 ≤ -1 by omega), fun _ h => nomatch h⟩
    · refine ⟨hcn, fun j j1 j2 => ?_⟩
      have ej : j = 2 := Int.le_antisymm j2 j1
      subst ej
      exact ⟨(show gm_ir (M2 207 2) from ⟨by omega, by omega⟩), (show -1 ≤ M2 207 2 by omega), (show M2 207 2 ≤ -1 by omega), fun _ h => nomatch h⟩
noncomputable def q170p : ck_Sum := ((1, 0, 0), 249, [.inr (.inr (.inl 206)), .inl (0, 7, []), .inl (0, 299, [])], ([], [], []), ([(206, 2, 8)], []), [(.inr none, 249, ([], [], [(206, 8, 8, ck_one 0), (206, 6, 6, ck_one 0), (206, 4, 4, ck_one (-1)), (206, 7, 7, (0, 299, []))]))])
noncomputable def q170 : ck_Sum := ((2, 0, 0), 249, [.inr (.inr (.inl 206)), .inl (0, 7, []), .inl (0, 299, [])], ([], [], []), ([(206, 2, 8)], []), [(.inr none, 249, ([], [], [(206, 8, 8, ck_one 0), (206, 6, 6, ck_one 0), (206, 4, 4, ck_one (-1)), (206, 7, 7, (0, 299, [])), (206, 5, 5, (0, 98, [])), (206, 2, 2, (0, 6, []))])), (.inr none, 249, ([], [], [(206, 8, 8, ck_one 0), (206, 6, 6, ck_one 0), (206, 4, 4, ck_one (-1)), (206, 7, 7, (0, 299, [])), (206, 5, 5, ((-1), (-1), [])), (206, 2, 2, ((-1), (-1), []))]))])
theorem q170_s (hS : ck_Ok p2_OL X LX 170 q170p) : ck_Ok qL_O X LX 170 q170 := by
  intro d σ vs n K R M hd hn hvs hσ hF hf
  obtain ⟨v0, w0, rfl, g0, v1, w1, rfl, ⟨x0, rfl, r0, l0, u0, -⟩, v2, w2, rfl, ⟨x1, rfl, r1, l1, u1, -⟩, g9⟩ := hvs
  have g9 : w2 = [] := g9
  subst g9
  have g0 : v0 = gm_vr 206 := g0
  subst g0
  have l0 : (0 : Int) ≤ x0 := l0
  have u0 : x0 ≤ (7 : Int) := u0
  have l1 : (0 : Int) ≤ x1 := l1
  have u1 : x1 ≤ (299 : Int) := u1
  have hn : n = 249 := hn
  subst hn
  have hd : 2 ≤ d := hd
  have F0 := pl_o (qL_p hF)
  have hrow := hS d σ [gm_vr 206, gm_vi x0, gm_vi x1] 249 K R M (show 1 ≤ d by omega) rfl ⟨_, _, rfl, rfl, _, _, rfl, ⟨x0, rfl, r0, l0, u0, fun _ h => nomatch h⟩, _, _, rfl, ⟨x1, rfl, r1, l1, u1, fun _ h => nomatch h⟩, rfl⟩ (fun q hq => hσ q (List.mem_append_left _ hq)) (qL_p hF) ⟨(fun _ h => nomatch h), (fun _ h => nomatch h), (fun _ h => nomatch h)⟩
  have hq : ∃ N ls, qC (some ls) N M := by
    obtain ⟨hJ, N, ls, hq, -⟩ := hF.2.2.2.2
    exact ⟨N, ls, hq⟩
  obtain ⟨N, ls, hq⟩ := hq
  have hT := ti_x (cstF F0) hq.2.1
  have hN := hq.1.1.1
  have hE := e0F F0
  have hfun : gm_Wp X LX d 0 0 170 0 (gm_ent 170 [gm_vr 206, gm_vi x0, gm_vi x1]) [] 249 K R M (fun o n1 K1 R1 M1 => K1 = K ∧ (((0 ≤ M1 206 2 ∧ M1 206 2 ≤ 6) ∧ (0 ≤ M1 206 5 ∧ M1 206 5 ≤ 98) ∧ (0 ≤ M1 206 7 ∧ M1 206 7 ≤ 299)) ∨ (M1 206 2 = -1 ∧ M1 206 5 = -1 ∧ (0 ≤ M1 206 7 ∧ M1 206 7 ≤ 299)))) := by
    by_cases h4 : x0 < N 3
    · refine wy_hut206 (by omega) hE hT hN ⟨l0, h4⟩ ⟨rfl, Or.inl ?_⟩
      have hB := hN.2.2.2.1 x0 l0 h4
      have b0 := hN.1.1
      have b1 := hN.1.2.1
      have z2 : wy_h206 M N x0 x1 206 2 = N (95 + (x0 * 3 + 0)) := by simp [wy_h206, gm_uM]
      have z5 : wy_h206 M N x0 x1 206 5 = N (95 + (x0 * 3 + 1)) := by simp [wy_h206, gm_uM]
      have z7 : wy_h206 M N x0 x1 206 7 = x1 := by simp [wy_h206, gm_uM]
      rw [z2, z5, z7]
      obtain ⟨c2, c3, -⟩ := hB
      exact ⟨⟨c2.1, by omega⟩, ⟨c3.1, by omega⟩, ⟨l1, u1⟩⟩
    · refine ln_hut206 (by omega) hE hT hN ⟨by omega, by omega⟩ ⟨rfl, Or.inr ?_⟩
      have z2 : ln_h206 M x1 206 2 = -1 := by simp [ln_h206, gm_uM]
      have z5 : ln_h206 M x1 206 5 = -1 := by simp [ln_h206, gm_uM]
      have z7 : ln_h206 M x1 206 7 = x1 := by simp [ln_h206, gm_uM]
      exact ⟨z2, z5, by rw [z7]; exact ⟨l1, u1⟩⟩
  refine gm_Wp_mono (fun o n2 K2 R2 M2 hh => ?_) (gm_Wp_and hrow hfun)
  obtain ⟨⟨hF2, hfr, oc, hoc, ho, hn2, hf2⟩, o3, n3, K3, R3, M3, ⟨rfl, hI⟩, -, hdt⟩ := hh
  have hKK : ∀ k, 1 ≤ k → k ≤ 249 → K3 k = K2 k := fun k _ hk => (hfr.2.1 k hk).symm
  have e1 : ∀ k j, k ≤ 249 → ¬ k = 206 → M2 k j = M k j := fun k j hk h => hfr.2.2.1 k j hk (fun w hw hh => by
    have := of_decide_eq_true (List.all_eq_true.mp (show q170p.2.2.2.2.1.1.all (fun w => decide (w.1 = 206)) = true by decide) w hw)
    omega)
  have e2 : M2 206 2 = gm_w (M3 206 2) := dw_f (dt_sym hdt) (by decide) hKK (pl_o hF2) (show tyF 206 5 2 = true by decide +kernel)
  rw [dw_i ⟨by omega, by omega⟩] at e2
  have e5 : M2 206 5 = gm_w (M3 206 5) := dw_f (dt_sym hdt) (by decide) hKK (pl_o hF2) (show tyF 206 5 5 = true by decide +kernel)
  rw [dw_i ⟨by omega, by omega⟩] at e5
  have e7 : M2 206 7 = gm_w (M3 206 7) := dw_f (dt_sym hdt) (by decide) hKK (pl_o hF2) (show tyF 206 5 7 = true by decide +kernel)
  rw [dw_i ⟨by omega, by omega⟩] at e7
  have ho2 := List.mem_singleton.mp hoc
  subst ho2
  have hF9 : gm_Fx qL_O n2 K2 R2 M2 := qL_b hF (by decide) hF2 hfr (fun N2 ls2 hq2 hk2 hw2 hlr2 => ⟨by
    rw [e1 1 15 (by decide) (by decide)]
    exact hq2.2.2.imp_right fun hh => ⟨hh.1, ends_x hh.2 (fun k j hk => e1 k j (by omega) (by omega))⟩, kfl_b hk2 ⟨by have := hq2.1.1.1.1.1; omega, by have := hq2.1.1.1.1.2.1; omega⟩ (e1 200 6 (by decide) (by decide)) (fun j _ _ => e1 205 j (by decide) (by decide))⟩)
  have hcn : 206 ≤ n2 := by have := hfr.1; omega
  have k8 := hf2.2.2 (206, 8, 8, ck_one 0) List.mem_cons_self
  have k6 := hf2.2.2 (206, 6, 6, ck_one 0) (List.mem_cons_of_mem _ List.mem_cons_self)
  have k4 := hf2.2.2 (206, 4, 4, ck_one (-1)) (List.mem_cons_of_mem _ (List.mem_cons_of_mem _ List.mem_cons_self))
  rcases hI with ⟨i2, i5, i7⟩ | ⟨i2, i5, i7⟩
  · refine ⟨hF9, hfr, _, List.mem_cons_self, ho, hn2, (fun _ h => nomatch h), (fun _ h => nomatch h), fun q hq9 => ?_⟩
    simp only [List.mem_cons, List.not_mem_nil, or_false] at hq9
    rcases hq9 with rfl | rfl | rfl | rfl | rfl | rfl
    · exact k8
    · exact k6
    · exact k4
    · refine ⟨hcn, fun j j1 j2 => ?_⟩
      have ej : j = 7 := Int.le_antisymm j2 j1
      subst ej
      exact ⟨(show gm_ir (M2 206 7) from ⟨by omega, by omega⟩), (show 0 ≤ M2 206 7 by omega), (show M2 206 7 ≤ 299 by omega), fun _ h => nomatch h⟩
    · refine ⟨hcn, fun j j1 j2 => ?_⟩
      have ej : j = 5 := Int.le_antisymm j2 j1
      subst ej
      exact ⟨(show gm_ir (M2 206 5) from ⟨by omega, by omega⟩), (show 0 ≤ M2 206 5 by omega), (show M2 206 5 ≤ 98 by omega), fun _ h => nomatch h⟩
    · refine ⟨hcn, fun j j1 j2 => ?_⟩
      have ej : j = 2 := Int.le_antisymm j2 j1
      subst ej
      exact ⟨(show gm_ir (M2 206 2) from ⟨by omega, by omega⟩), (show 0 ≤ M2 206 2 by omega), (show M2 206 2 ≤ 6 by omega), fun _ h => nomatch h⟩
  · refine ⟨hF9, hfr, _, (List.mem_cons_of_mem _ List.mem_cons_self), ho, hn2, (fun _ h => nomatch h), (fun _ h => nomatch h), fun q hq9 => ?_⟩
    simp only [List.mem_cons, List.not_mem_nil, or_false] at hq9
    rcases hq9 with rfl | rfl | rfl | rfl | rfl | rfl
    · exact k8
    · exact k6
    · exact k4
    · refine ⟨hcn, fun j j1 j2 => ?_⟩
      have ej : j = 7 := Int.le_antisymm j2 j1
      subst ej
      exact ⟨(show gm_ir (M2 206 7) from ⟨by omega, by omega⟩), (show 0 ≤ M2 206 7 by omega), (show M2 206 7 ≤ 299 by omega), fun _ h => nomatch h⟩
    · refine ⟨hcn, fun j j1 j2 => ?_⟩
      have ej : j = 5 := Int.le_antisymm j2 j1
      subst ej
      exact ⟨(show gm_ir (M2 206 5) from ⟨by omega, by omega⟩), (show -1 ≤ M2 206 5 by omega), (show M2 206 5 ≤ -1 by omega), fun _ h => nomatch h⟩
    · refine ⟨hcn, fun j j1 j2 => ?_⟩
      have ej : j = 2 := Int.le_antisymm j2 j1
      subst ej
      exact ⟨(show gm_ir (M2 206 2) from ⟨by omega, by omega⟩), (show -1 ≤ M2 206 2 by omega), (show M2 206 2 ≤ -1 by omega), fun _ h => nomatch h⟩
noncomputable def q29 : ck_Sum := ((0, 0, 0), 249, [.inr (.inr (.inl 206)), .inl (0, 6, []), .inl (0, 98, []), .inl (0, 299, []), .inl (0, 1, [])], ([], [], []), ([(206, 2, 8)], []), [(.inr none, 249, ([], [], [(206, 8, 8, ck_one 0), (206, 6, 6, ck_one 0), (206, 4, 4, ck_one (-1)), (206, 7, 7, (0, 299, [])), (206, 5, 5, (0, 98, [])), (206, 2, 2, (0, 6, []))]))])
theorem q29_s : ck_Ok qL_O X LX 29 q29 := ck_ok_s (O := qL_O) (X := X) (LX := LX) (E := []) (mi := 29) (cuts := []) (f := 100) (S := q29) (lx := none) (XF := []) ⟨qL_nmu, ck_E0⟩ ck_X0 ck_l0 (by decide +kernel)
end SL28
