/-! 7c25.ln -/
section
/-! LANE -1, which there isn't: FLOW asked of it keeps nothing. -/
section LN
variable {X : Int → Int} {LX d bc bs n NC : Nat} {K : gm_K} {R : gm_R} {M M2 : gm_M} {Q : gm_Q} {N h C Ln : Int → Int} {sp : Int → Int → Int} {m lane row year speed cell f : Int} {φ : Int → Int → Int → Int}
theorem ln_spd (hE : E0 n K R) (hT : TI N h sp M) (hN : NR N) (h1 : lane = -1) (h2 : -1 ≤ row ∧ row < 99) (q0 : Q (.inl (some (gm_vi 0))) n K R (M)) : gm_Wp X LX d bc bs 36 0 (gm_ent 36 [gm_vr 200, gm_vi lane, gm_vi row]) [] n K R M Q := by
  obtain ⟨⟨⟨a0, b0⟩, ⟨a1, b1⟩, ⟨a10, b10⟩, ⟨a11, b11⟩, ⟨a12, b12⟩, a9, b9⟩, ⟨⟨a2, b2⟩, ⟨a5, b5⟩, ⟨a3, b3⟩, ⟨a4, b4⟩, ⟨a6, b6⟩, ⟨a14, b14⟩, ⟨a7, b7⟩, a13, b13⟩, rF, rP, rL⟩ := id hN
  refine gm_sz (gm_p_load (pc := 0) (i := .iload_n 1) (sr := 0) (j := 1) (by decide +kernel) rfl rfl rfl) ?_
  refine gm_sz (gm_p_const (pc := 1) (i := .bipush 99) (v := gm_vi 99) (by decide +kernel) (by decide +kernel)) ?_
  refine gm_sz (gm_p_bin (pc := 3) (i := .imul) (f := fun x y => x * y) (by decide +kernel) rfl) ?_
  refine gm_sz (gm_p_load (pc := 4) (i := .iload_n 2) (sr := 0) (j := 2) (by decide +kernel) rfl rfl rfl) ?_
  refine gm_sz (gm_p_bin (pc := 5) (i := .iadd) (f := fun x y => x + y) (by decide +kernel) rfl) ?_
  refine gm_sz (gm_p_stor (pc := 6) (i := .istore_n 3) (sr := 0) (j := 3) (by decide +kernel) rfl (show 4 ≤ _ from Nat.le_of_ble_eq_true rfl) rfl) ?_
  refine gm_sz (gm_p_load (pc := 7) (i := .iload_n 3) (sr := 0) (j := 3) (by decide +kernel) rfl rfl rfl) ?_
  refine fw_ift (cc := .lt) (pc := 8) (off := 21) (by decide +kernel) (by decide) ⟨by omega, by omega⟩ (show ((lane * 99) + row) < 0 by omega) ?_
  refine gm_sz (gm_p_const (pc := 29) (i := .iconst 0) (v := gm_vi 0) (by decide +kernel) (by decide +kernel)) ?_
  exact gm_r_int (pc := 30) (by decide +kernel) (Or.inl (by decide +kernel)) q0
theorem ln_heat (hE : E0 n K R) (hT : TI N h sp M) (hN : NR N) (h1 : year = -1) (q0 : Q (.inl (some (gm_vi 0))) n K R (M)) : gm_Wp X LX d bc bs 34 0 (gm_ent 34 [gm_vr 200, gm_vi year]) [] n K R M Q := by
  obtain ⟨⟨⟨a0, b0⟩, ⟨a1, b1⟩, ⟨a10, b10⟩, ⟨a11, b11⟩, ⟨a12, b12⟩, a9, b9⟩, ⟨⟨a2, b2⟩, ⟨a5, b5⟩, ⟨a3, b3⟩, ⟨a4, b4⟩, ⟨a6, b6⟩, ⟨a14, b14⟩, ⟨a7, b7⟩, a13, b13⟩, rF, rP, rL⟩ := id hN
  refine gm_sz (gm_p_load (pc := 0) (i := .iload_n 1) (sr := 0) (j := 1) (by decide +kernel) rfl rfl rfl) ?_
  refine fw_ift (cc := .lt) (pc := 1) (off := 19) (by decide +kernel) (by decide) ⟨by omega, by omega⟩ (show year < 0 by omega) ?_
  refine gm_sz (gm_p_const (pc := 20) (i := .iconst 0) (v := gm_vi 0) (by decide +kernel) (by decide +kernel)) ?_
  exact gm_r_int (pc := 21) (by decide +kernel) (Or.inl (by decide +kernel)) q0
theorem ln_sf0 (hd : 1 ≤ d) (hE : E0 n K R) (hT : TI N h sp M) (hN : NR N) (h1 : lane = -1) (h2 : 0 ≤ year ∧ year < 300) (q0 : lane = 0 → (N 12) ≤ lane → Q (.inl (none)) n K R (gm_uM (gm_uM (gm_uM (gm_uM (gm_uM (gm_uM (gm_uM (gm_uM (gm_uM (gm_uM M 204 0 lane) 204 1 row) 204 2 year) 204 3 (h year)) 204 4 speed) 204 5 0) 204 6 0) 204 7 0) 204 8 1) 204 9 0)) (q1 : lane = 0 → ¬ (N 12) ≤ lane → Q (.inl (none)) n K R (gm_uM (gm_uM (gm_uM (gm_uM (gm_uM (gm_uM (gm_uM (gm_uM (gm_uM (gm_uM M 204 0 lane) 204 1 row) 204 2 year) 204 3 (h year)) 204 4 speed) 204 5 0) 204 6 0) 204 7 0) 204 8 1) 204 9 1)) (q2 : ¬ lane = 0 → ¬ lane = ((N 0) - 1) → (N 12) ≤ lane → Q (.inl (none)) n K R (gm_uM (gm_uM (gm_uM (gm_uM (gm_uM (gm_uM (gm_uM (gm_uM (gm_uM (gm_uM M 204 0 lane) 204 1 row) 204 2 year) 204 3 (h year)) 204 4 speed) 204 5 0) 204 6 0) 204 7 0) 204 8 0) 204 9 0)) (q3 : ¬ lane = 0 → ¬ lane = ((N 0) - 1) → ¬ (N 12) ≤ lane → Q (.inl (none)) n K R (gm_uM (gm_uM (gm_uM (gm_uM (gm_uM (gm_uM (gm_uM (gm_uM (gm_uM (gm_uM M 204 0 lane) 204 1 row) 204 2 year) 204 3 (h year)) 204 4 speed) 204 5 0) 204 6 0) 204 7 0) 204 8 0) 204 9 1)) (q4 : ¬ lane = 0 → lane = ((N 0) - 1) → (N 12) ≤ lane → Q (.inl (none)) n K R (gm_uM (gm_uM (gm_uM (gm_uM (gm_uM (gm_uM (gm_uM (gm_uM (gm_uM (gm_uM M 204 0 lane) 204 1 row) 204 2 year) 204 3 (h year)) 204 4 speed) 204 5 0) 204 6 0) 204 7 0) 204 8 1) 204 9 0)) (q5 : ¬ lane = 0 → lane = ((N 0) - 1) → ¬ (N 12) ≤ lane → Q (.inl (none)) n K R (gm_uM (gm_uM (gm_uM (gm_uM (gm_uM (gm_uM (gm_uM (gm_uM (gm_uM (gm_uM M 204 0 lane) 204 1 row) 204 2 year) 204 3 (h year)) 204 4 speed) 204 5 0) 204 6 0) 204 7 0) 204 8 1) 204 9 1)) : gm_Wp X LX d bc bs 39 0 (gm_ent 39 [gm_vr 200, gm_vi lane, gm_vi row, gm_vi year, gm_vi speed]) [] n K R M Q := by
  obtain ⟨⟨⟨a0, b0⟩, ⟨a1, b1⟩, ⟨a10, b10⟩, ⟨a11, b11⟩, ⟨a12, b12⟩, a9, b9⟩, ⟨⟨a2, b2⟩, ⟨a5, b5⟩, ⟨a3, b3⟩, ⟨a4, b4⟩, ⟨a6, b6⟩, ⟨a14, b14⟩, ⟨a7, b7⟩, a13, b13⟩, rF, rP, rL⟩ := id hN
  refine gm_sz (gm_p_load (pc := 0) (i := .aload_n 0) (sr := 2) (j := 0) (by decide +kernel) rfl rfl rfl) ?_
  refine gm_sz (fw_gr (pc := 1) (ix := 23) (ci := 4) (j := 4) (r := 204) (by decide +kernel) (e0k hE (k := 200) (c := 4) (by decide +kernel)) (by decide +kernel) (by decide +kernel) (e0r hE (k := 200) (j := 4) (r := 204) (by decide +kernel))) ?_
  refine gm_sz (gm_p_const (pc := 4) (i := .iconst 0) (v := gm_vi 0) (by decide +kernel) (by decide +kernel)) ?_
  refine gm_sz (gm_p_load (pc := 5) (i := .iload_n 1) (sr := 0) (j := 1) (by decide +kernel) rfl rfl rfl) ?_
  refine gm_sz (fw_is (pc := 6) (k := 204) (len := 10) (e0 := 0) (x := lane) (M' := gm_uM M 204 0 lane) (by decide +kernel) (e0a hE (k := 204) (q := (0, 10)) (by decide +kernel)).1 (e0a hE (k := 204) (q := (0, 10)) (by decide +kernel)).2 (by decide) ⟨by omega, by omega⟩ rfl) ?_
  refine gm_sz (gm_p_load (pc := 7) (i := .aload_n 0) (sr := 2) (j := 0) (by decide +kernel) rfl rfl rfl) ?_
  refine gm_sz (fw_gr (pc := 8) (ix := 23) (ci := 4) (j := 4) (r := 204) (by decide +kernel) (e0k hE (k := 200) (c := 4) (by decide +kernel)) (by decide +kernel) (by decide +kernel) (e0r hE (k := 200) (j := 4) (r := 204) (by decide +kernel))) ?_
  refine gm_sz (gm_p_const (pc := 11) (i := .iconst 1) (v := gm_vi 1) (by decide +kernel) (by decide +kernel)) ?_
  refine gm_sz (gm_p_load (pc := 12) (i := .iload_n 2) (sr := 0) (j := 2) (by decide +kernel) rfl rfl rfl) ?_
  refine gm_sz (fw_is (pc := 13) (k := 204) (len := 10) (e0 := 1) (x := row) (M' := gm_uM (gm_uM M 204 0 lane) 204 1 row) (by decide +kernel) (e0a hE (k := 204) (q := (0, 10)) (by decide +kernel)).1 (e0a hE (k := 204) (q := (0, 10)) (by decide +kernel)).2 (by decide) ⟨by omega, by omega⟩ rfl) ?_
  refine gm_sz (gm_p_load (pc := 14) (i := .aload_n 0) (sr := 2) (j := 0) (by decide +kernel) rfl rfl rfl) ?_
  refine gm_sz (fw_gr (pc := 15) (ix := 23) (ci := 4) (j := 4) (r := 204) (by decide +kernel) (e0k hE (k := 200) (c := 4) (by decide +kernel)) (by decide +kernel) (by decide +kernel) (e0r hE (k := 200) (j := 4) (r := 204) (by decide +kernel))) ?_
  refine gm_sz (gm_p_const (pc := 18) (i := .iconst 2) (v := gm_vi 2) (by decide +kernel) (by decide +kernel)) ?_
  refine gm_sz (gm_p_load (pc := 19) (i := .iload_n 3) (sr := 0) (j := 3) (by decide +kernel) rfl rfl rfl) ?_
  refine gm_sz (fw_is (pc := 20) (k := 204) (len := 10) (e0 := 2) (x := year) (M' := gm_uM (gm_uM (gm_uM M 204 0 lane) 204 1 row) 204 2 year) (by decide +kernel) (e0a hE (k := 204) (q := (0, 10)) (by decide +kernel)).1 (e0a hE (k := 204) (q := (0, 10)) (by decide +kernel)).2 (by decide) ⟨by omega, by omega⟩ rfl) ?_
  refine gm_sz (gm_p_load (pc := 21) (i := .aload_n 0) (sr := 2) (j := 0) (by decide +kernel) rfl rfl rfl) ?_
  refine gm_sz (fw_gr (pc := 22) (ix := 23) (ci := 4) (j := 4) (r := 204) (by decide +kernel) (e0k hE (k := 200) (c := 4) (by decide +kernel)) (by decide +kernel) (by decide +kernel) (e0r hE (k := 200) (j := 4) (r := 204) (by decide +kernel))) ?_
  refine gm_sz (gm_p_const (pc := 25) (i := .iconst 3) (v := gm_vi 3) (by decide +kernel) (by decide +kernel)) ?_
  refine gm_sz (gm_p_load (pc := 26) (i := .aload_n 0) (sr := 2) (j := 0) (by decide +kernel) rfl rfl rfl) ?_
  refine gm_sz (gm_p_load (pc := 27) (i := .iload_n 3) (sr := 0) (j := 3) (by decide +kernel) rfl rfl rfl) ?_
  refine gm_c_virt (k := 200) (ci := 4) (mj := 34) (ix := 123) (pc := 28) (as := [gm_vi year]) (st := [gm_vi 3, gm_vr 204]) (d' := d - 1) (bc' := 0) (bs' := 0) (by decide +kernel) (by decide +kernel) (by decide +kernel) (by decide +kernel) (e0k hE (k := 200) (c := 4) (by decide +kernel)).1 (e0k hE (k := 200) (c := 4) (by decide +kernel)).2 (by decide) (by decide +kernel) (show 1 = gm_na 34 by decide +kernel) (fw_c1 fw_si) (show 2 ≤ gm_ml 34 by decide +kernel) (Nat.le_of_ble_eq_true rfl) (by omega) (Nat.zero_le _) (Nat.zero_le _) ?_
  refine ic_heat hE (ti_fr (W := [(204, some 0), (204, some 1), (204, some 2)]) hT (fr_p (fr_p (fr_p fr_0 (Or.inr (by decide))) (Or.inr (by decide))) (Or.inr (by decide))) (by decide) (by decide +kernel)) hN ⟨by omega, by omega⟩ ?_
  show gm_Wp X LX d _ _ 39 31 _ [gm_vi (h year), gm_vi 3, gm_vr 204] n K _ _ Q
  refine gm_sz (fw_is (pc := 31) (k := 204) (len := 10) (e0 := 3) (x := h year) (M' := gm_uM (gm_uM (gm_uM (gm_uM M 204 0 lane) 204 1 row) 204 2 year) 204 3 (h year)) (by decide +kernel) (e0a hE (k := 204) (q := (0, 10)) (by decide +kernel)).1 (e0a hE (k := 204) (q := (0, 10)) (by decide +kernel)).2 (by decide) ⟨by omega, by omega⟩ rfl) ?_
  refine gm_sz (gm_p_load (pc := 32) (i := .aload_n 0) (sr := 2) (j := 0) (by decide +kernel) rfl rfl rfl) ?_
  refine gm_sz (fw_gr (pc := 33) (ix := 23) (ci := 4) (j := 4) (r := 204) (by decide +kernel) (e0k hE (k := 200) (c := 4) (by decide +kernel)) (by decide +kernel) (by decide +kernel) (e0r hE (k := 200) (j := 4) (r := 204) (by decide +kernel))) ?_
  refine gm_sz (gm_p_const (pc := 36) (i := .iconst 4) (v := gm_vi 4) (by decide +kernel) (by decide +kernel)) ?_
  refine gm_sz (gm_p_load (pc := 37) (i := .iload 4) (sr := 0) (j := 4) (by decide +kernel) rfl rfl rfl) ?_
  refine gm_sz (fw_is (pc := 39) (k := 204) (len := 10) (e0 := 4) (x := speed) (M' := gm_uM (gm_uM (gm_uM (gm_uM (gm_uM M 204 0 lane) 204 1 row) 204 2 year) 204 3 (h year)) 204 4 speed) (by decide +kernel) (e0a hE (k := 204) (q := (0, 10)) (by decide +kernel)).1 (e0a hE (k := 204) (q := (0, 10)) (by decide +kernel)).2 (by decide) ⟨by omega, by omega⟩ rfl) ?_
  refine gm_sz (gm_p_load (pc := 40) (i := .aload_n 0) (sr := 2) (j := 0) (by decide +kernel) rfl rfl rfl) ?_
  refine gm_sz (fw_gr (pc := 41) (ix := 23) (ci := 4) (j := 4) (r := 204) (by decide +kernel) (e0k hE (k := 200) (c := 4) (by decide +kernel)) (by decide +kernel) (by decide +kernel) (e0r hE (k := 200) (j := 4) (r := 204) (by decide +kernel))) ?_
  refine gm_sz (gm_p_const (pc := 44) (i := .iconst 5) (v := gm_vi 5) (by decide +kernel) (by decide +kernel)) ?_
  refine gm_sz (gm_p_const (pc := 45) (i := .iconst 0) (v := gm_vi 0) (by decide +kernel) (by decide +kernel)) ?_
  refine gm_sz (fw_is (pc := 46) (k := 204) (len := 10) (e0 := 5) (x := 0) (M' := gm_uM (gm_uM (gm_uM (gm_uM (gm_uM (gm_uM M 204 0 lane) 204 1 row) 204 2 year) 204 3 (h year)) 204 4 speed) 204 5 0) (by decide +kernel) (e0a hE (k := 204) (q := (0, 10)) (by decide +kernel)).1 (e0a hE (k := 204) (q := (0, 10)) (by decide +kernel)).2 (by decide) ⟨by omega, by omega⟩ rfl) ?_
  refine gm_sz (gm_p_load (pc := 47) (i := .aload_n 0) (sr := 2) (j := 0) (by decide +kernel) rfl rfl rfl) ?_
  refine gm_sz (fw_gr (pc := 48) (ix := 23) (ci := 4) (j := 4) (r := 204) (by decide +kernel) (e0k hE (k := 200) (c := 4) (by decide +kernel)) (by decide +kernel) (by decide +kernel) (e0r hE (k := 200) (j := 4) (r := 204) (by decide +kernel))) ?_
  refine gm_sz (gm_p_const (pc := 51) (i := .bipush 6) (v := gm_vi 6) (by decide +kernel) (by decide +kernel)) ?_
  refine gm_sz (gm_p_const (pc := 53) (i := .iconst 0) (v := gm_vi 0) (by decide +kernel) (by decide +kernel)) ?_
  refine gm_sz (fw_is (pc := 54) (k := 204) (len := 10) (e0 := 6) (x := 0) (M' := gm_uM (gm_uM (gm_uM (gm_uM (gm_uM (gm_uM (gm_uM M 204 0 lane) 204 1 row) 204 2 year) 204 3 (h year)) 204 4 speed) 204 5 0) 204 6 0) (by decide +kernel) (e0a hE (k := 204) (q := (0, 10)) (by decide +kernel)).1 (e0a hE (k := 204) (q := (0, 10)) (by decide +kernel)).2 (by decide) ⟨by omega, by omega⟩ rfl) ?_
  refine gm_sz (gm_p_load (pc := 55) (i := .aload_n 0) (sr := 2) (j := 0) (by decide +kernel) rfl rfl rfl) ?_
  refine gm_sz (fw_gr (pc := 56) (ix := 23) (ci := 4) (j := 4) (r := 204) (by decide +kernel) (e0k hE (k := 200) (c := 4) (by decide +kernel)) (by decide +kernel) (by decide +kernel) (e0r hE (k := 200) (j := 4) (r := 204) (by decide +kernel))) ?_
  refine gm_sz (gm_p_const (pc := 59) (i := .bipush 7) (v := gm_vi 7) (by decide +kernel) (by decide +kernel)) ?_
  refine gm_sz (gm_p_const (pc := 61) (i := .iconst 0) (v := gm_vi 0) (by decide +kernel) (by decide +kernel)) ?_
  refine gm_sz (fw_is (pc := 62) (k := 204) (len := 10) (e0 := 7) (x := 0) (M' := gm_uM (gm_uM (gm_uM (gm_uM (gm_uM (gm_uM (gm_uM (gm_uM M 204 0 lane) 204 1 row) 204 2 year) 204 3 (h year)) 204 4 speed) 204 5 0) 204 6 0) 204 7 0) (by decide +kernel) (e0a hE (k := 204) (q := (0, 10)) (by decide +kernel)).1 (e0a hE (k := 204) (q := (0, 10)) (by decide +kernel)).2 (by decide) ⟨by omega, by omega⟩ rfl) ?_
  refine gm_sz (gm_p_load (pc := 63) (i := .aload_n 0) (sr := 2) (j := 0) (by decide +kernel) rfl rfl rfl) ?_
  refine gm_sz (fw_gr (pc := 64) (ix := 23) (ci := 4) (j := 4) (r := 204) (by decide +kernel) (e0k hE (k := 200) (c := 4) (by decide +kernel)) (by decide +kernel) (by decide +kernel) (e0r hE (k := 200) (j := 4) (r := 204) (by decide +kernel))) ?_
  refine gm_sz (gm_p_const (pc := 67) (i := .bipush 8) (v := gm_vi 8) (by decide +kernel) (by decide +kernel)) ?_
  refine gm_sz (gm_p_load (pc := 69) (i := .iload_n 1) (sr := 0) (j := 1) (by decide +kernel) rfl rfl rfl) ?_
  refine fw_if (cc := .eq) (pc := 70) (off := 16) (by decide +kernel) (by decide) ⟨by omega, by omega⟩ (fun h70 => ?_) (fun h70 => ?_)
  · have h70 : lane = 0 := h70
    refine gm_sz (gm_p_const (pc := 86) (i := .iconst 1) (v := gm_vi 1) (by decide +kernel) (by decide +kernel)) ?_
    refine gm_sz (gm_p_goto (pc := 87) (off := 4) (by decide +kernel) (by decide)) ?_
    refine gm_sz (fw_is (pc := 91) (k := 204) (len := 10) (e0 := 8) (x := 1) (M' := gm_uM (gm_uM (gm_uM (gm_uM (gm_uM (gm_uM (gm_uM (gm_uM (gm_uM M 204 0 lane) 204 1 row) 204 2 year) 204 3 (h year)) 204 4 speed) 204 5 0) 204 6 0) 204 7 0) 204 8 1) (by decide +kernel) (e0a hE (k := 204) (q := (0, 10)) (by decide +kernel)).1 (e0a hE (k := 204) (q := (0, 10)) (by decide +kernel)).2 (by decide) ⟨by omega, by omega⟩ rfl) ?_
    refine gm_sz (gm_p_load (pc := 92) (i := .aload_n 0) (sr := 2) (j := 0) (by decide +kernel) rfl rfl rfl) ?_
    refine gm_sz (fw_gr (pc := 93) (ix := 23) (ci := 4) (j := 4) (r := 204) (by decide +kernel) (e0k hE (k := 200) (c := 4) (by decide +kernel)) (by decide +kernel) (by decide +kernel) (e0r hE (k := 200) (j := 4) (r := 204) (by decide +kernel))) ?_
    refine gm_sz (gm_p_const (pc := 96) (i := .bipush 9) (v := gm_vi 9) (by decide +kernel) (by decide +kernel)) ?_
    refine gm_sz (gm_p_load (pc := 98) (i := .iload_n 1) (sr := 0) (j := 1) (by decide +kernel) rfl rfl rfl) ?_
    refine gm_sz (gm_p_load (pc := 99) (i := .aload_n 0) (sr := 2) (j := 0) (by decide +kernel) rfl rfl rfl) ?_
    refine gm_sz (fw_gr (pc := 100) (ix := 34) (ci := 4) (j := 0) (r := 3) (by decide +kernel) (e0k hE (k := 200) (c := 4) (by decide +kernel)) (by decide +kernel) (by decide +kernel) (e0r hE (k := 200) (j := 0) (r := 3) (by decide +kernel))) ?_
    refine gm_sz (fw_gi (pc := 103) (ix := 126) (ci := 1) (j := 4) (x := N 12) (by decide +kernel) (e0k hE (k := 3) (c := 1) (by decide +kernel)) (by decide +kernel) (by decide +kernel) ((uM_ne (by omega)).trans ((uM_ne (by omega)).trans ((uM_ne (by omega)).trans ((uM_ne (by omega)).trans ((uM_ne (by omega)).trans ((uM_ne (by omega)).trans ((uM_ne (by omega)).trans ((uM_ne (by omega)).trans ((uM_ne (by omega)).trans (ti_str hT))))))))))) ?_
    refine fw_ic (cc := .ge) (pc := 106) (off := 7) (by decide +kernel) (by decide) ⟨by omega, by omega⟩ ⟨by omega, by omega⟩ (fun h106 => ?_) (fun h106 => ?_)
    · have h106 : (N 12) ≤ lane := h106
      refine gm_sz (gm_p_const (pc := 113) (i := .iconst 0) (v := gm_vi 0) (by decide +kernel) (by decide +kernel)) ?_
      refine gm_sz (fw_is (pc := 114) (k := 204) (len := 10) (e0 := 9) (x := 0) (M' := gm_uM (gm_uM (gm_uM (gm_uM (gm_uM (gm_uM (gm_uM (gm_uM (gm_uM (gm_uM M 204 0 lane) 204 1 row) 204 2 year) 204 3 (h year)) 204 4 speed) 204 5 0) 204 6 0) 204 7 0) 204 8 1) 204 9 0) (by decide +kernel) (e0a hE (k := 204) (q := (0, 10)) (by decide +kernel)).1 (e0a hE (k := 204) (q := (0, 10)) (by decide +kernel)).2 (by decide) ⟨by omega, by omega⟩ rfl) ?_
      exact gm_r_void (pc := 115) (by decide +kernel) (by decide +kernel) (q0 h70 h106)
    · have h106 : ¬ (N 12) ≤ lane := h106
      refine gm_sz (gm_p_const (pc := 109) (i := .iconst 1) (v := gm_vi 1) (by decide +kernel) (by decide +kernel)) ?_
      refine gm_sz (gm_p_goto (pc := 110) (off := 4) (by decide +kernel) (by decide)) ?_
      refine gm_sz (fw_is (pc := 114) (k := 204) (len := 10) (e0 := 9) (x := 1) (M' := gm_uM (gm_uM (gm_uM (gm_uM (gm_uM (gm_uM (gm_uM (gm_uM (gm_uM (gm_uM M 204 0 lane) 204 1 row) 204 2 year) 204 3 (h year)) 204 4 speed) 204 5 0) 204 6 0) 204 7 0) 204 8 1) 204 9 1) (by decide +kernel) (e0a hE (k := 204) (q := (0, 10)) (by decide +kernel)).1 (e0a hE (k := 204) (q := (0, 10)) (by decide +kernel)).2 (by decide) ⟨by omega, by omega⟩ rfl) ?_
      exact gm_r_void (pc := 115) (by decide +kernel) (by decide +kernel) (q1 h70 h106)
  · have h70 : ¬ lane = 0 := h70
    refine gm_sz (gm_p_load (pc := 73) (i := .iload_n 1) (sr := 0) (j := 1) (by decide +kernel) rfl rfl rfl) ?_
    refine gm_sz (gm_p_load (pc := 74) (i := .aload_n 0) (sr := 2) (j := 0) (by decide +kernel) rfl rfl rfl) ?_
    refine gm_sz (fw_gr (pc := 75) (ix := 34) (ci := 4) (j := 0) (r := 3) (by decide +kernel) (e0k hE (k := 200) (c := 4) (by decide +kernel)) (by decide +kernel) (by decide +kernel) (e0r hE (k := 200) (j := 0) (r := 3) (by decide +kernel))) ?_
    refine gm_sz (fw_gi (pc := 78) (ix := 82) (ci := 1) (j := 0) (x := N 0) (by decide +kernel) (e0k hE (k := 3) (c := 1) (by decide +kernel)) (by decide +kernel) (by decide +kernel) ((uM_ne (by omega)).trans ((uM_ne (by omega)).trans ((uM_ne (by omega)).trans ((uM_ne (by omega)).trans ((uM_ne (by omega)).trans ((uM_ne (by omega)).trans ((uM_ne (by omega)).trans ((uM_ne (by omega)).trans (ti_lan hT)))))))))) ?_
    refine gm_sz (gm_p_const (pc := 81) (i := .iconst 1) (v := gm_vi 1) (by decide +kernel) (by decide +kernel)) ?_
    refine gm_sz (gm_p_bin (pc := 82) (i := .isub) (f := fun x y => x - y) (by decide +kernel) rfl) ?_
    refine fw_ic (cc := .ne) (pc := 83) (off := 7) (by decide +kernel) (by decide) ⟨by omega, by omega⟩ ⟨by omega, by omega⟩ (fun h83 => ?_) (fun h83 => ?_)
    · have h83 : ¬ lane = ((N 0) - 1) := h83
      refine gm_sz (gm_p_const (pc := 90) (i := .iconst 0) (v := gm_vi 0) (by decide +kernel) (by decide +kernel)) ?_
      refine gm_sz (fw_is (pc := 91) (k := 204) (len := 10) (e0 := 8) (x := 0) (M' := gm_uM (gm_uM (gm_uM (gm_uM (gm_uM (gm_uM (gm_uM (gm_uM (gm_uM M 204 0 lane) 204 1 row) 204 2 year) 204 3 (h year)) 204 4 speed) 204 5 0) 204 6 0) 204 7 0) 204 8 0) (by decide +kernel) (e0a hE (k := 204) (q := (0, 10)) (by decide +kernel)).1 (e0a hE (k := 204) (q := (0, 10)) (by decide +kernel)).2 (by decide) ⟨by omega, by omega⟩ rfl) ?_
      refine gm_sz (gm_p_load (pc := 92) (i := .aload_n 0) (sr := 2) (j := 0) (by decide +kernel) rfl rfl rfl) ?_
      refine gm_sz (fw_gr (pc := 93) (ix := 23) (ci := 4) (j := 4) (r := 204) (by decide +kernel) (e0k hE (k := 200) (c := 4) (by decide +kernel)) (by decide +kernel) (by decide +kernel) (e0r hE (k := 200) (j := 4) (r := 204) (by decide +kernel))) ?_
      refine gm_sz (gm_p_const (pc := 96) (i := .bipush 9) (v := gm_vi 9) (by decide +kernel) (by decide +kernel)) ?_
      refine gm_sz (gm_p_load (pc := 98) (i := .iload_n 1) (sr := 0) (j := 1) (by decide +kernel) rfl rfl rfl) ?_
      refine gm_sz (gm_p_load (pc := 99) (i := .aload_n 0) (sr := 2) (j := 0) (by decide +kernel) rfl rfl rfl) ?_
      refine gm_sz (fw_gr (pc := 100) (ix := 34) (ci := 4) (j := 0) (r := 3) (by decide +kernel) (e0k hE (k := 200) (c := 4) (by decide +kernel)) (by decide +kernel) (by decide +kernel) (e0r hE (k := 200) (j := 0) (r := 3) (by decide +kernel))) ?_
      refine gm_sz (fw_gi (pc := 103) (ix := 126) (ci := 1) (j := 4) (x := N 12) (by decide +kernel) (e0k hE (k := 3) (c := 1) (by decide +kernel)) (by decide +kernel) (by decide +kernel) ((uM_ne (by omega)).trans ((uM_ne (by omega)).trans ((uM_ne (by omega)).trans ((uM_ne (by omega)).trans ((uM_ne (by omega)).trans ((uM_ne (by omega)).trans ((uM_ne (by omega)).trans ((uM_ne (by omega)).trans ((uM_ne (by omega)).trans (ti_str hT))))))))))) ?_
      refine fw_ic (cc := .ge) (pc := 106) (off := 7) (by decide +kernel) (by decide) ⟨by omega, by omega⟩ ⟨by omega, by omega⟩ (fun h106 => ?_) (fun h106 => ?_)
      · have h106 : (N 12) ≤ lane := h106
        refine gm_sz (gm_p_const (pc := 113) (i := .iconst 0) (v := gm_vi 0) (by decide +kernel) (by decide +kernel)) ?_
        refine gm_sz (fw_is (pc := 114) (k := 204) (len := 10) (e0 := 9) (x := 0) (M' := gm_uM (gm_uM (gm_uM (gm_uM (gm_uM (gm_uM (gm_uM (gm_uM (gm_uM (gm_uM M 204 0 lane) 204 1 row) 204 2 year) 204 3 (h year)) 204 4 speed) 204 5 0) 204 6 0) 204 7 0) 204 8 0) 204 9 0) (by decide +kernel) (e0a hE (k := 204) (q := (0, 10)) (by decide +kernel)).1 (e0a hE (k := 204) (q := (0, 10)) (by decide +kernel)).2 (by decide) ⟨by omega, by omega⟩ rfl) ?_
        exact gm_r_void (pc := 115) (by decide +kernel) (by decide +kernel) (q2 h70 h83 h106)
      · have h106 : ¬ (N 12) ≤ lane := h106
        refine gm_sz (gm_p_const (pc := 109) (i := .iconst 1) (v := gm_vi 1) (by decide +kernel) (by decide +kernel)) ?_
        refine gm_sz (gm_p_goto (pc := 110) (off := 4) (by decide +kernel) (by decide)) ?_
        refine gm_sz (fw_is (pc := 114) (k := 204) (len := 10) (e0 := 9) (x := 1) (M' := gm_uM (gm_uM (gm_uM (gm_uM (gm_uM (gm_uM (gm_uM (gm_uM (gm_uM (gm_uM M 204 0 lane) 204 1 row) 204 2 year) 204 3 (h year)) 204 4 speed) 204 5 0) 204 6 0) 204 7 0) 204 8 0) 204 9 1) (by decide +kernel) (e0a hE (k := 204) (q := (0, 10)) (by decide +kernel)).1 (e0a hE (k := 204) (q := (0, 10)) (by decide +kernel)).2 (by decide) ⟨by omega, by omega⟩ rfl) ?_
        exact gm_r_void (pc := 115) (by decide +kernel) (by decide +kernel) (q3 h70 h83 h106)
    · have h83 : lane = ((N 0) - 1) := Classical.not_not.mp h83
      refine gm_sz (gm_p_const (pc := 86) (i := .iconst 1) (v := gm_vi 1) (by decide +kernel) (by decide +kernel)) ?_
      refine gm_sz (gm_p_goto (pc := 87) (off := 4) (by decide +kernel) (by decide)) ?_
      refine gm_sz (fw_is (pc := 91) (k := 204) (len := 10) (e0 := 8) (x := 1) (M' := gm_uM (gm_uM (gm_uM (gm_uM (gm_uM (gm_uM (gm_uM (gm_uM (gm_uM M 204 0 lane) 204 1 row) 204 2 year) 204 3 (h year)) 204 4 speed) 204 5 0) 204 6 0) 204 7 0) 204 8 1) (by decide +kernel) (e0a hE (k := 204) (q := (0, 10)) (by decide +kernel)).1 (e0a hE (k := 204) (q := (0, 10)) (by decide +kernel)).2 (by decide) ⟨by omega, by omega⟩ rfl) ?_
      refine gm_sz (gm_p_load (pc := 92) (i := .aload_n 0) (sr := 2) (j := 0) (by decide +kernel) rfl rfl rfl) ?_
      refine gm_sz (fw_gr (pc := 93) (ix := 23) (ci := 4) (j := 4) (r := 204) (by decide +kernel) (e0k hE (k := 200) (c := 4) (by decide +kernel)) (by decide +kernel) (by decide +kernel) (e0r hE (k := 200) (j := 4) (r := 204) (by decide +kernel))) ?_
      refine gm_sz (gm_p_const (pc := 96) (i := .bipush 9) (v := gm_vi 9) (by decide +kernel) (by decide +kernel)) ?_
      refine gm_sz (gm_p_load (pc := 98) (i := .iload_n 1) (sr := 0) (j := 1) (by decide +kernel) rfl rfl rfl) ?_
      refine gm_sz (gm_p_load (pc := 99) (i := .aload_n 0) (sr := 2) (j := 0) (by decide +kernel) rfl rfl rfl) ?_
      refine gm_sz (fw_gr (pc := 100) (ix := 34) (ci := 4) (j := 0) (r := 3) (by decide +kernel) (e0k hE (k := 200) (c := 4) (by decide +kernel)) (by decide +kernel) (by decide +kernel) (e0r hE (k := 200) (j := 0) (r := 3) (by decide +kernel))) ?_
      refine gm_sz (fw_gi (pc := 103) (ix := 126) (ci := 1) (j := 4) (x := N 12) (by decide +kernel) (e0k hE (k := 3) (c := 1) (by decide +kernel)) (by decide +kernel) (by decide +kernel) ((uM_ne (by omega)).trans ((uM_ne (by omega)).trans ((uM_ne (by omega)).trans ((uM_ne (by omega)).trans ((uM_ne (by omega)).trans ((uM_ne (by omega)).trans ((uM_ne (by omega)).trans ((uM_ne (by omega)).trans ((uM_ne (by omega)).trans (ti_str hT))))))))))) ?_
      refine fw_ic (cc := .ge) (pc := 106) (off := 7) (by decide +kernel) (by decide) ⟨by omega, by omega⟩ ⟨by omega, by omega⟩ (fun h106 => ?_) (fun h106 => ?_)
      · have h106 : (N 12) ≤ lane := h106
        refine gm_sz (gm_p_const (pc := 113) (i := .iconst 0) (v := gm_vi 0) (by decide +kernel) (by decide +kernel)) ?_
        refine gm_sz (fw_is (pc := 114) (k := 204) (len := 10) (e0 := 9) (x := 0) (M' := gm_uM (gm_uM (gm_uM (gm_uM (gm_uM (gm_uM (gm_uM (gm_uM (gm_uM (gm_uM M 204 0 lane) 204 1 row) 204 2 year) 204 3 (h year)) 204 4 speed) 204 5 0) 204 6 0) 204 7 0) 204 8 1) 204 9 0) (by decide +kernel) (e0a hE (k := 204) (q := (0, 10)) (by decide +kernel)).1 (e0a hE (k := 204) (q := (0, 10)) (by decide +kernel)).2 (by decide) ⟨by omega, by omega⟩ rfl) ?_
        exact gm_r_void (pc := 115) (by decide +kernel) (by decide +kernel) (q4 h70 h83 h106)
      · have h106 : ¬ (N 12) ≤ lane := h106
        refine gm_sz (gm_p_const (pc := 109) (i := .iconst 1) (v := gm_vi 1) (by decide +kernel) (by decide +kernel)) ?_
        refine gm_sz (gm_p_goto (pc := 110) (off := 4) (by decide +kernel) (by decide)) ?_
        refine gm_sz (fw_is (pc := 114) (k := 204) (len := 10) (e0 := 9) (x := 1) (M' := gm_uM (gm_uM (gm_uM (gm_uM (gm_uM (gm_uM (gm_uM (gm_uM (gm_uM (gm_uM M 204 0 lane) 204 1 row) 204 2 year) 204 3 (h year)) 204 4 speed) 204 5 0) 204 6 0) 204 7 0) 204 8 1) 204 9 1) (by decide +kernel) (e0a hE (k := 204) (q := (0, 10)) (by decide +kernel)).1 (e0a hE (k := 204) (q := (0, 10)) (by decide +kernel)).2 (by decide) ⟨by omega, by omega⟩ rfl) ?_
        exact gm_r_void (pc := 115) (by decide +kernel) (by decide +kernel) (q5 h70 h83 h106)
theorem ln_sf (hd : 1 ≤ d) (hE : E0 n K R) (hT : TI N h sp M) (hN : NR N) (h1 : lane = -1) (h2 : 0 ≤ year ∧ year < 300) (hq : Q (.inl none) n K R (ic_fa M N h lane row year speed)) : gm_Wp X LX d bc bs 39 0 (gm_ent 39 [gm_vr 200, gm_vi lane, gm_vi row, gm_vi year, gm_vi speed]) [] n K R M Q := by
  unfold ic_fa at hq
  refine ln_sf0 hd hE hT hN h1 h2 (fun g0 g1 => ?_) (fun g0 g1 => ?_) (fun g0 g1 g2 => ?_) (fun g0 g1 g2 => ?_) (fun g0 g1 g2 => ?_) (fun g0 g1 g2 => ?_)
  · rw [if_pos (by omega), if_neg (by omega)] at hq
    exact hq
  · rw [if_pos (by omega), if_pos (by omega)] at hq
    exact hq
  · rw [if_neg (by omega), if_neg (by omega)] at hq
    exact hq
  · rw [if_neg (by omega), if_pos (by omega)] at hq
    exact hq
  · rw [if_pos (by omega), if_neg (by omega)] at hq
    exact hq
  · rw [if_pos (by omega), if_pos (by omega)] at hq
    exact hq
theorem ln_sf0m (hd : 1 ≤ d) (hE : E0 n K R) (hT : TI N h sp M) (hN : NR N) (h1 : lane = -1) (h2 : year = -1) (q0 : lane = 0 → (N 12) ≤ lane → Q (.inl (none)) n K R (gm_uM (gm_uM (gm_uM (gm_uM (gm_uM (gm_uM (gm_uM (gm_uM (gm_uM (gm_uM M 204 0 lane) 204 1 row) 204 2 year) 204 3 0) 204 4 speed) 204 5 0) 204 6 0) 204 7 0) 204 8 1) 204 9 0)) (q1 : lane = 0 → ¬ (N 12) ≤ lane → Q (.inl (none)) n K R (gm_uM (gm_uM (gm_uM (gm_uM (gm_uM (gm_uM (gm_uM (gm_uM (gm_uM (gm_uM M 204 0 lane) 204 1 row) 204 2 year) 204 3 0) 204 4 speed) 204 5 0) 204 6 0) 204 7 0) 204 8 1) 204 9 1)) (q2 : ¬ lane = 0 → ¬ lane = ((N 0) - 1) → (N 12) ≤ lane → Q (.inl (none)) n K R (gm_uM (gm_uM (gm_uM (gm_uM (gm_uM (gm_uM (gm_uM (gm_uM (gm_uM (gm_uM M 204 0 lane) 204 1 row) 204 2 year) 204 3 0) 204 4 speed) 204 5 0) 204 6 0) 204 7 0) 204 8 0) 204 9 0)) (q3 : ¬ lane = 0 → ¬ lane = ((N 0) - 1) → ¬ (N 12) ≤ lane → Q (.inl (none)) n K R (gm_uM (gm_uM (gm_uM (gm_uM (gm_uM (gm_uM (gm_uM (gm_uM (gm_uM (gm_uM M 204 0 lane) 204 1 row) 204 2 year) 204 3 0) 204 4 speed) 204 5 0) 204 6 0) 204 7 0) 204 8 0) 204 9 1)) (q4 : ¬ lane = 0 → lane = ((N 0) - 1) → (N 12) ≤ lane → Q (.inl (none)) n K R (gm_uM (gm_uM (gm_uM (gm_uM (gm_uM (gm_uM (gm_uM (gm_uM (gm_uM (gm_uM M 204 0 lane) 204 1 row) 204 2 year) 204 3 0) 204 4 speed) 204 5 0) 204 6 0) 204 7 0) 204 8 1) 204 9 0)) (q5 : ¬ lane = 0 → lane = ((N 0) - 1) → ¬ (N 12) ≤ lane → Q (.inl (none)) n K R (gm_uM (gm_uM (gm_uM (gm_uM (gm_uM (gm_uM (gm_uM (gm_uM (gm_uM (gm_uM M 204 0 lane) 204 1 row) 204 2 year) 204 3 0) 204 4 speed) 204 5 0) 204 6 0) 204 7 0) 204 8 1) 204 9 1)) : gm_Wp X LX d bc bs 39 0 (gm_ent 39 [gm_vr 200, gm_vi lane, gm_vi row, gm_vi year, gm_vi speed]) [] n K R M Q := by
  obtain ⟨⟨⟨a0, b0⟩, ⟨a1, b1⟩, ⟨a10, b10⟩, ⟨a11, b11⟩, ⟨a12, b12⟩, a9, b9⟩, ⟨⟨a2, b2⟩, ⟨a5, b5⟩, ⟨a3, b3⟩, ⟨a4, b4⟩, ⟨a6, b6⟩, ⟨a14, b14⟩, ⟨a7, b7⟩, a13, b13⟩, rF, rP, rL⟩ := id hN
  refine gm_sz (gm_p_load (pc := 0) (i := .aload_n 0) (sr := 2) (j := 0) (by decide +kernel) rfl rfl rfl) ?_
  refine gm_sz (fw_gr (pc := 1) (ix := 23) (ci := 4) (j := 4) (r := 204) (by decide +kernel) (e0k hE (k := 200) (c := 4) (by decide +kernel)) (by decide +kernel) (by decide +kernel) (e0r hE (k := 200) (j := 4) (r := 204) (by decide +kernel))) ?_
  refine gm_sz (gm_p_const (pc := 4) (i := .iconst 0) (v := gm_vi 0) (by decide +kernel) (by decide +kernel)) ?_
  refine gm_sz (gm_p_load (pc := 5) (i := .iload_n 1) (sr := 0) (j := 1) (by decide +kernel) rfl rfl rfl) ?_
  refine gm_sz (fw_is (pc := 6) (k := 204) (len := 10) (e0 := 0) (x := lane) (M' := gm_uM M 204 0 lane) (by decide +kernel) (e0a hE (k := 204) (q := (0, 10)) (by decide +kernel)).1 (e0a hE (k := 204) (q := (0, 10)) (by decide +kernel)).2 (by decide) ⟨by omega, by omega⟩ rfl) ?_
  refine gm_sz (gm_p_load (pc := 7) (i := .aload_n 0) (sr := 2) (j := 0) (by decide +kernel) rfl rfl rfl) ?_
  refine gm_sz (fw_gr (pc := 8) (ix := 23) (ci := 4) (j := 4) (r := 204) (by decide +kernel) (e0k hE (k := 200) (c := 4) (by decide +kernel)) (by decide +kernel) (by decide +kernel) (e0r hE (k := 200) (j := 4) (r := 204) (by decide +kernel))) ?_
  refine gm_sz (gm_p_const (pc := 11) (i := .iconst 1) (v := gm_vi 1) (by decide +kernel) (by decide +kernel)) ?_
  refine gm_sz (gm_p_load (pc := 12) (i := .iload_n 2) (sr := 0) (j := 2) (by decide +kernel) rfl rfl rfl) ?_
  refine gm_sz (fw_is (pc := 13) (k := 204) (len := 10) (e0 := 1) (x := row) (M' := gm_uM (gm_uM M 204 0 lane) 204 1 row) (by decide +kernel) (e0a hE (k := 204) (q := (0, 10)) (by decide +kernel)).1 (e0a hE (k := 204) (q := (0, 10)) (by decide +kernel)).2 (by decide) ⟨by omega, by omega⟩ rfl) ?_
  refine gm_sz (gm_p_load (pc := 14) (i := .aload_n 0) (sr := 2) (j := 0) (by decide +kernel) rfl rfl rfl) ?_
  refine gm_sz (fw_gr (pc := 15) (ix := 23) (ci := 4) (j := 4) (r := 204) (by decide +kernel) (e0k hE (k := 200) (c := 4) (by decide +kernel)) (by decide +kernel) (by decide +kernel) (e0r hE (k := 200) (j := 4) (r := 204) (by decide +kernel))) ?_
  refine gm_sz (gm_p_const (pc := 18) (i := .iconst 2) (v := gm_vi 2) (by decide +kernel) (by decide +kernel)) ?_
  refine gm_sz (gm_p_load (pc := 19) (i := .iload_n 3) (sr := 0) (j := 3) (by decide +kernel) rfl rfl rfl) ?_
  refine gm_sz (fw_is (pc := 20) (k := 204) (len := 10) (e0 := 2) (x := year) (M' := gm_uM (gm_uM (gm_uM M 204 0 lane) 204 1 row) 204 2 year) (by decide +kernel) (e0a hE (k := 204) (q := (0, 10)) (by decide +kernel)).1 (e0a hE (k := 204) (q := (0, 10)) (by decide +kernel)).2 (by decide) ⟨by omega, by omega⟩ rfl) ?_
  refine gm_sz (gm_p_load (pc := 21) (i := .aload_n 0) (sr := 2) (j := 0) (by decide +kernel) rfl rfl rfl) ?_
  refine gm_sz (fw_gr (pc := 22) (ix := 23) (ci := 4) (j := 4) (r := 204) (by decide +kernel) (e0k hE (k := 200) (c := 4) (by decide +kernel)) (by decide +kernel) (by decide +kernel) (e0r hE (k := 200) (j := 4) (r := 204) (by decide +kernel))) ?_
  refine gm_sz (gm_p_const (pc := 25) (i := .iconst 3) (v := gm_vi 3) (by decide +kernel) (by decide +kernel)) ?_
  refine gm_sz (gm_p_load (pc := 26) (i := .aload_n 0) (sr := 2) (j := 0) (by decide +kernel) rfl rfl rfl) ?_
  refine gm_sz (gm_p_load (pc := 27) (i := .iload_n 3) (sr := 0) (j := 3) (by decide +kernel) rfl rfl rfl) ?_
  refine gm_c_virt (k := 200) (ci := 4) (mj := 34) (ix := 123) (pc := 28) (as := [gm_vi year]) (st := [gm_vi 3, gm_vr 204]) (d' := d - 1) (bc' := 0) (bs' := 0) (by decide +kernel) (by decide +kernel) (by decide +kernel) (by decide +kernel) (e0k hE (k := 200) (c := 4) (by decide +kernel)).1 (e0k hE (k := 200) (c := 4) (by decide +kernel)).2 (by decide) (by decide +kernel) (show 1 = gm_na 34 by decide +kernel) (fw_c1 fw_si) (show 2 ≤ gm_ml 34 by decide +kernel) (Nat.le_of_ble_eq_true rfl) (by omega) (Nat.zero_le _) (Nat.zero_le _) ?_
  refine ln_heat hE (ti_fr (W := [(204, some 0), (204, some 1), (204, some 2)]) hT (fr_p (fr_p (fr_p fr_0 (Or.inr (by decide))) (Or.inr (by decide))) (Or.inr (by decide))) (by decide) (by decide +kernel)) hN h2 ?_
  show gm_Wp X LX d _ _ 39 31 _ [gm_vi 0, gm_vi 3, gm_vr 204] n K _ _ Q
  refine gm_sz (fw_is (pc := 31) (k := 204) (len := 10) (e0 := 3) (x := 0) (M' := gm_uM (gm_uM (gm_uM (gm_uM M 204 0 lane) 204 1 row) 204 2 year) 204 3 0) (by decide +kernel) (e0a hE (k := 204) (q := (0, 10)) (by decide +kernel)).1 (e0a hE (k := 204) (q := (0, 10)) (by decide +kernel)).2 (by decide) ⟨by omega, by omega⟩ rfl) ?_
  refine gm_sz (gm_p_load (pc := 32) (i := .aload_n 0) (sr := 2) (j := 0) (by decide +kernel) rfl rfl rfl) ?_
  refine gm_sz (fw_gr (pc := 33) (ix := 23) (ci := 4) (j := 4) (r := 204) (by decide +kernel) (e0k hE (k := 200) (c := 4) (by decide +kernel)) (by decide +kernel) (by decide +kernel) (e0r hE (k := 200) (j := 4) (r := 204) (by decide +kernel))) ?_
  refine gm_sz (gm_p_const (pc := 36) (i := .iconst 4) (v := gm_vi 4) (by decide +kernel) (by decide +kernel)) ?_
  refine gm_sz (gm_p_load (pc := 37) (i := .iload 4) (sr := 0) (j := 4) (by decide +kernel) rfl rfl rfl) ?_
  refine gm_sz (fw_is (pc := 39) (k := 204) (len := 10) (e0 := 4) (x := speed) (M' := gm_uM (gm_uM (gm_uM (gm_uM (gm_uM M 204 0 lane) 204 1 row) 204 2 year) 204 3 0) 204 4 speed) (by decide +kernel) (e0a hE (k := 204) (q := (0, 10)) (by decide +kernel)).1 (e0a hE (k := 204) (q := (0, 10)) (by decide +kernel)).2 (by decide) ⟨by omega, by omega⟩ rfl) ?_
  refine gm_sz (gm_p_load (pc := 40) (i := .aload_n 0) (sr := 2) (j := 0) (by decide +kernel) rfl rfl rfl) ?_
  refine gm_sz (fw_gr (pc := 41) (ix := 23) (ci := 4) (j := 4) (r := 204) (by decide +kernel) (e0k hE (k := 200) (c := 4) (by decide +kernel)) (by decide +kernel) (by decide +kernel) (e0r hE (k := 200) (j := 4) (r := 204) (by decide +kernel))) ?_
  refine gm_sz (gm_p_const (pc := 44) (i := .iconst 5) (v := gm_vi 5) (by decide +kernel) (by decide +kernel)) ?_
  refine gm_sz (gm_p_const (pc := 45) (i := .iconst 0) (v := gm_vi 0) (by decide +kernel) (by decide +kernel)) ?_
  refine gm_sz (fw_is (pc := 46) (k := 204) (len := 10) (e0 := 5) (x := 0) (M' := gm_uM (gm_uM (gm_uM (gm_uM (gm_uM (gm_uM M 204 0 lane) 204 1 row) 204 2 year) 204 3 0) 204 4 speed) 204 5 0) (by decide +kernel) (e0a hE (k := 204) (q := (0, 10)) (by decide +kernel)).1 (e0a hE (k := 204) (q := (0, 10)) (by decide +kernel)).2 (by decide) ⟨by omega, by omega⟩ rfl) ?_
  refine gm_sz (gm_p_load (pc := 47) (i := .aload_n 0) (sr := 2) (j := 0) (by decide +kernel) rfl rfl rfl) ?_
  refine gm_sz (fw_gr (pc := 48) (ix := 23) (ci := 4) (j := 4) (r := 204) (by decide +kernel) (e0k hE (k := 200) (c := 4) (by decide +kernel)) (by decide +kernel) (by decide +kernel) (e0r hE (k := 200) (j := 4) (r := 204) (by decide +kernel))) ?_
  refine gm_sz (gm_p_const (pc := 51) (i := .bipush 6) (v := gm_vi 6) (by decide +kernel) (by decide +kernel)) ?_
  refine gm_sz (gm_p_const (pc := 53) (i := .iconst 0) (v := gm_vi 0) (by decide +kernel) (by decide +kernel)) ?_
  refine gm_sz (fw_is (pc := 54) (k := 204) (len := 10) (e0 := 6) (x := 0) (M' := gm_uM (gm_uM (gm_uM (gm_uM (gm_uM (gm_uM (gm_uM M 204 0 lane) 204 1 row) 204 2 year) 204 3 0) 204 4 speed) 204 5 0) 204 6 0) (by decide +kernel) (e0a hE (k := 204) (q := (0, 10)) (by decide +kernel)).1 (e0a hE (k := 204) (q := (0, 10)) (by decide +kernel)).2 (by decide) ⟨by omega, by omega⟩ rfl) ?_
  refine gm_sz (gm_p_load (pc := 55) (i := .aload_n 0) (sr := 2) (j := 0) (by decide +kernel) rfl rfl rfl) ?_
  refine gm_sz (fw_gr (pc := 56) (ix := 23) (ci := 4) (j := 4) (r := 204) (by decide +kernel) (e0k hE (k := 200) (c := 4) (by decide +kernel)) (by decide +kernel) (by decide +kernel) (e0r hE (k := 200) (j := 4) (r := 204) (by decide +kernel))) ?_
  refine gm_sz (gm_p_const (pc := 59) (i := .bipush 7) (v := gm_vi 7) (by decide +kernel) (by decide +kernel)) ?_
  refine gm_sz (gm_p_const (pc := 61) (i := .iconst 0) (v := gm_vi 0) (by decide +kernel) (by decide +kernel)) ?_
  refine gm_sz (fw_is (pc := 62) (k := 204) (len := 10) (e0 := 7) (x := 0) (M' := gm_uM (gm_uM (gm_uM (gm_uM (gm_uM (gm_uM (gm_uM (gm_uM M 204 0 lane) 204 1 row) 204 2 year) 204 3 0) 204 4 speed) 204 5 0) 204 6 0) 204 7 0) (by decide +kernel) (e0a hE (k := 204) (q := (0, 10)) (by decide +kernel)).1 (e0a hE (k := 204) (q := (0, 10)) (by decide +kernel)).2 (by decide) ⟨by omega, by omega⟩ rfl) ?_
  refine gm_sz (gm_p_load (pc := 63) (i := .aload_n 0) (sr := 2) (j := 0) (by decide +kernel) rfl rfl rfl) ?_
  refine gm_sz (fw_gr (pc := 64) (ix := 23) (ci := 4) (j := 4) (r := 204) (by decide +kernel) (e0k hE (k := 200) (c := 4) (by decide +kernel)) (by decide +kernel) (by decide +kernel) (e0r hE (k := 200) (j := 4) (r := 204) (by decide +kernel))) ?_
  refine gm_sz (gm_p_const (pc := 67) (i := .bipush 8) (v := gm_vi 8) (by decide +kernel) (by decide +kernel)) ?_
  refine gm_sz (gm_p_load (pc := 69) (i := .iload_n 1) (sr := 0) (j := 1) (by decide +kernel) rfl rfl rfl) ?_
  refine fw_if (cc := .eq) (pc := 70) (off := 16) (by decide +kernel) (by decide) ⟨by omega, by omega⟩ (fun h70 => ?_) (fun h70 => ?_)
  · have h70 : lane = 0 := h70
    refine gm_sz (gm_p_const (pc := 86) (i := .iconst 1) (v := gm_vi 1) (by decide +kernel) (by decide +kernel)) ?_
    refine gm_sz (gm_p_goto (pc := 87) (off := 4) (by decide +kernel) (by decide)) ?_
    refine gm_sz (fw_is (pc := 91) (k := 204) (len := 10) (e0 := 8) (x := 1) (M' := gm_uM (gm_uM (gm_uM (gm_uM (gm_uM (gm_uM (gm_uM (gm_uM (gm_uM M 204 0 lane) 204 1 row) 204 2 year) 204 3 0) 204 4 speed) 204 5 0) 204 6 0) 204 7 0) 204 8 1) (by decide +kernel) (e0a hE (k := 204) (q := (0, 10)) (by decide +kernel)).1 (e0a hE (k := 204) (q := (0, 10)) (by decide +kernel)).2 (by decide) ⟨by omega, by omega⟩ rfl) ?_
    refine gm_sz (gm_p_load (pc := 92) (i := .aload_n 0) (sr := 2) (j := 0) (by decide +kernel) rfl rfl rfl) ?_
    refine gm_sz (fw_gr (pc := 93) (ix := 23) (ci := 4) (j := 4) (r := 204) (by decide +kernel) (e0k hE (k := 200) (c := 4) (by decide +kernel)) (by decide +kernel) (by decide +kernel) (e0r hE (k := 200) (j := 4) (r := 204) (by decide +kernel))) ?_
    refine gm_sz (gm_p_const (pc := 96) (i := .bipush 9) (v := gm_vi 9) (by decide +kernel) (by decide +kernel)) ?_
    refine gm_sz (gm_p_load (pc := 98) (i := .iload_n 1) (sr := 0) (j := 1) (by decide +kernel) rfl rfl rfl) ?_
    refine gm_sz (gm_p_load (pc := 99) (i := .aload_n 0) (sr := 2) (j := 0) (by decide +kernel) rfl rfl rfl) ?_
    refine gm_sz (fw_gr (pc := 100) (ix := 34) (ci := 4) (j := 0) (r := 3) (by decide +kernel) (e0k hE (k := 200) (c := 4) (by decide +kernel)) (by decide +kernel) (by decide +kernel) (e0r hE (k := 200) (j := 0) (r := 3) (by decide +kernel))) ?_
    refine gm_sz (fw_gi (pc := 103) (ix := 126) (ci := 1) (j := 4) (x := N 12) (by decide +kernel) (e0k hE (k := 3) (c := 1) (by decide +kernel)) (by decide +kernel) (by decide +kernel) ((uM_ne (by omega)).trans ((uM_ne (by omega)).trans ((uM_ne (by omega)).trans ((uM_ne (by omega)).trans ((uM_ne (by omega)).trans ((uM_ne (by omega)).trans ((uM_ne (by omega)).trans ((uM_ne (by omega)).trans ((uM_ne (by omega)).trans (ti_str hT))))))))))) ?_
    refine fw_ic (cc := .ge) (pc := 106) (off := 7) (by decide +kernel) (by decide) ⟨by omega, by omega⟩ ⟨by omega, by omega⟩ (fun h106 => ?_) (fun h106 => ?_)
    · have h106 : (N 12) ≤ lane := h106
      refine gm_sz (gm_p_const (pc := 113) (i := .iconst 0) (v := gm_vi 0) (by decide +kernel) (by decide +kernel)) ?_
      refine gm_sz (fw_is (pc := 114) (k := 204) (len := 10) (e0 := 9) (x := 0) (M' := gm_uM (gm_uM (gm_uM (gm_uM (gm_uM (gm_uM (gm_uM (gm_uM (gm_uM (gm_uM M 204 0 lane) 204 1 row) 204 2 year) 204 3 0) 204 4 speed) 204 5 0) 204 6 0) 204 7 0) 204 8 1) 204 9 0) (by decide +kernel) (e0a hE (k := 204) (q := (0, 10)) (by decide +kernel)).1 (e0a hE (k := 204) (q := (0, 10)) (by decide +kernel)).2 (by decide) ⟨by omega, by omega⟩ rfl) ?_
      exact gm_r_void (pc := 115) (by decide +kernel) (by decide +kernel) (q0 h70 h106)
    · have h106 : ¬ (N 12) ≤ lane := h106
      refine gm_sz (gm_p_const (pc := 109) (i := .iconst 1) (v := gm_vi 1) (by decide +kernel) (by decide +kernel)) ?_
      refine gm_sz (gm_p_goto (pc := 110) (off := 4) (by decide +kernel) (by decide)) ?_
      refine gm_sz (fw_is (pc := 114) (k := 204) (len := 10) (e0 := 9) (x := 1) (M' := gm_uM (gm_uM (gm_uM (gm_uM (gm_uM (gm_uM (gm_uM (gm_uM (gm_uM (gm_uM M 204 0 lane) 204 1 row) 204 2 year) 204 3 0) 204 4 speed) 204 5 0) 204 6 0) 204 7 0) 204 8 1) 204 9 1) (by decide +kernel) (e0a hE (k := 204) (q := (0, 10)) (by decide +kernel)).1 (e0a hE (k := 204) (q := (0, 10)) (by decide +kernel)).2 (by decide) ⟨by omega, by omega⟩ rfl) ?_
      exact gm_r_void (pc := 115) (by decide +kernel) (by decide +kernel) (q1 h70 h106)
  · have h70 : ¬ lane = 0 := h70
    refine gm_sz (gm_p_load (pc := 73) (i := .iload_n 1) (sr := 0) (j := 1) (by decide +kernel) rfl rfl rfl) ?_
    refine gm_sz (gm_p_load (pc := 74) (i := .aload_n 0) (sr := 2) (j := 0) (by decide +kernel) rfl rfl rfl) ?_
    refine gm_sz (fw_gr (pc := 75) (ix := 34) (ci := 4) (j := 0) (r := 3) (by decide +kernel) (e0k hE (k := 200) (c := 4) (by decide +kernel)) (by decide +kernel) (by decide +kernel) (e0r hE (k := 200) (j := 0) (r := 3) (by decide +kernel))) ?_
    refine gm_sz (fw_gi (pc := 78) (ix := 82) (ci := 1) (j := 0) (x := N 0) (by decide +kernel) (e0k hE (k := 3) (c := 1) (by decide +kernel)) (by decide +kernel) (by decide +kernel) ((uM_ne (by omega)).trans ((uM_ne (by omega)).trans ((uM_ne (by omega)).trans ((uM_ne (by omega)).trans ((uM_ne (by omega)).trans ((uM_ne (by omega)).trans ((uM_ne (by omega)).trans ((uM_ne (by omega)).trans (ti_lan hT)))))))))) ?_
    refine gm_sz (gm_p_const (pc := 81) (i := .iconst 1) (v := gm_vi 1) (by decide +kernel) (by decide +kernel)) ?_
    refine gm_sz (gm_p_bin (pc := 82) (i := .isub) (f := fun x y => x - y) (by decide +kernel) rfl) ?_
    refine fw_ic (cc := .ne) (pc := 83) (off := 7) (by decide +kernel) (by decide) ⟨by omega, by omega⟩ ⟨by omega, by omega⟩ (fun h83 => ?_) (fun h83 => ?_)
    · have h83 : ¬ lane = ((N 0) - 1) := h83
      refine gm_sz (gm_p_const (pc := 90) (i := .iconst 0) (v := gm_vi 0) (by decide +kernel) (by decide +kernel)) ?_
      refine gm_sz (fw_is (pc := 91) (k := 204) (len := 10) (e0 := 8) (x := 0) (M' := gm_uM (gm_uM (gm_uM (gm_uM (gm_uM (gm_uM (gm_uM (gm_uM (gm_uM M 204 0 lane) 204 1 row) 204 2 year) 204 3 0) 204 4 speed) 204 5 0) 204 6 0) 204 7 0) 204 8 0) (by decide +kernel) (e0a hE (k := 204) (q := (0, 10)) (by decide +kernel)).1 (e0a hE (k := 204) (q := (0, 10)) (by decide +kernel)).2 (by decide) ⟨by omega, by omega⟩ rfl) ?_
      refine gm_sz (gm_p_load (pc := 92) (i := .aload_n 0) (sr := 2) (j := 0) (by decide +kernel) rfl rfl rfl) ?_
      refine gm_sz (fw_gr (pc := 93) (ix := 23) (ci := 4) (j := 4) (r := 204) (by decide +kernel) (e0k hE (k := 200) (c := 4) (by decide +kernel)) (by decide +kernel) (by decide +kernel) (e0r hE (k := 200) (j := 4) (r := 204) (by decide +kernel))) ?_
      refine gm_sz (gm_p_const (pc := 96) (i := .bipush 9) (v := gm_vi 9) (by decide +kernel) (by decide +kernel)) ?_
      refine gm_sz (gm_p_load (pc := 98) (i := .iload_n 1) (sr := 0) (j := 1) (by decide +kernel) rfl rfl rfl) ?_
      refine gm_sz (gm_p_load (pc := 99) (i := .aload_n 0) (sr := 2) (j := 0) (by decide +kernel) rfl rfl rfl) ?_
      refine gm_sz (fw_gr (pc := 100) (ix := 34) (ci := 4) (j := 0) (r := 3) (by decide +kernel) (e0k hE (k := 200) (c := 4) (by decide +kernel)) (by decide +kernel) (by decide +kernel) (e0r hE (k := 200) (j := 0) (r := 3) (by decide +kernel))) ?_
      refine gm_sz (fw_gi (pc := 103) (ix := 126) (ci := 1) (j := 4) (x := N 12) (by decide +kernel) (e0k hE (k := 3) (c := 1) (by decide +kernel)) (by decide +kernel) (by decide +kernel) ((uM_ne (by omega)).trans ((uM_ne (by omega)).trans ((uM_ne (by omega)).trans ((uM_ne (by omega)).trans ((uM_ne (by omega)).trans ((uM_ne (by omega)).trans ((uM_ne (by omega)).trans ((uM_ne (by omega)).trans ((uM_ne (by omega)).trans (ti_str hT))))))))))) ?_
      refine fw_ic (cc := .ge) (pc := 106) (off := 7) (by decide +kernel) (by decide) ⟨by omega, by omega⟩ ⟨by omega, by omega⟩ (fun h106 => ?_) (fun h106 => ?_)
      · have h106 : (N 12) ≤ lane := h106
        refine gm_sz (gm_p_const (pc := 113) (i := .iconst 0) (v := gm_vi 0) (by decide +kernel) (by decide +kernel)) ?_
        refine gm_sz (fw_is (pc := 114) (k := 204) (len := 10) (e0 := 9) (x := 0) (M' := gm_uM (gm_uM (gm_uM (gm_uM (gm_uM (gm_uM (gm_uM (gm_uM (gm_uM (gm_uM M 204 0 lane) 204 1 row) 204 2 year) 204 3 0) 204 4 speed) 204 5 0) 204 6 0) 204 7 0) 204 8 0) 204 9 0) (by decide +kernel) (e0a hE (k := 204) (q := (0, 10)) (by decide +kernel)).1 (e0a hE (k := 204) (q := (0, 10)) (by decide +kernel)).2 (by decide) ⟨by omega, by omega⟩ rfl) ?_
        exact gm_r_void (pc := 115) (by decide +kernel) (by decide +kernel) (q2 h70 h83 h106)
      · have h106 : ¬ (N 12) ≤ lane := h106
        refine gm_sz (gm_p_const (pc := 109) (i := .iconst 1) (v := gm_vi 1) (by decide +kernel) (by decide +kernel)) ?_
        refine gm_sz (gm_p_goto (pc := 110) (off := 4) (by decide +kernel) (by decide)) ?_
        refine gm_sz (fw_is (pc := 114) (k := 204) (len := 10) (e0 := 9) (x := 1) (M' := gm_uM (gm_uM (gm_uM (gm_uM (gm_uM (gm_uM (gm_uM (gm_uM (gm_uM (gm_uM M 204 0 lane) 204 1 row) 204 2 year) 204 3 0) 204 4 speed) 204 5 0) 204 6 0) 204 7 0) 204 8 0) 204 9 1) (by decide +kernel) (e0a hE (k := 204) (q := (0, 10)) (by decide +kernel)).1 (e0a hE (k := 204) (q := (0, 10)) (by decide +kernel)).2 (by decide) ⟨by omega, by omega⟩ rfl) ?_
        exact gm_r_void (pc := 115) (by decide +kernel) (by decide +kernel) (q3 h70 h83 h106)
    · have h83 : lane = ((N 0) - 1) := Classical.not_not.mp h83
      refine gm_sz (gm_p_const (pc := 86) (i := .iconst 1) (v := gm_vi 1) (by decide +kernel) (by decide +kernel)) ?_
      refine gm_sz (gm_p_goto (pc := 87) (off := 4) (by decide +kernel) (by decide)) ?_
      refine gm_sz (fw_is (pc := 91) (k := 204) (len := 10) (e0 := 8) (x := 1) (M' := gm_uM (gm_uM (gm_uM (gm_uM (gm_uM (gm_uM (gm_uM (gm_uM (gm_uM M 204 0 lane) 204 1 row) 204 2 year) 204 3 0) 204 4 speed) 204 5 0) 204 6 0) 204 7 0) 204 8 1) (by decide +kernel) (e0a hE (k := 204) (q := (0, 10)) (by decide +kernel)).1 (e0a hE (k := 204) (q := (0, 10)) (by decide +kernel)).2 (by decide) ⟨by omega, by omega⟩ rfl) ?_
      refine gm_sz (gm_p_load (pc := 92) (i := .aload_n 0) (sr := 2) (j := 0) (by decide +kernel) rfl rfl rfl) ?_
      refine gm_sz (fw_gr (pc := 93) (ix := 23) (ci := 4) (j := 4) (r := 204) (by decide +kernel) (e0k hE (k := 200) (c := 4) (by decide +kernel)) (by decide +kernel) (by decide +kernel) (e0r hE (k := 200) (j := 4) (r := 204) (by decide +kernel))) ?_
      refine gm_sz (gm_p_const (pc := 96) (i := .bipush 9) (v := gm_vi 9) (by decide +kernel) (by decide +kernel)) ?_
      refine gm_sz (gm_p_load (pc := 98) (i := .iload_n 1) (sr := 0) (j := 1) (by decide +kernel) rfl rfl rfl) ?_
      refine gm_sz (gm_p_load (pc := 99) (i := .aload_n 0) (sr := 2) (j := 0) (by decide +kernel) rfl rfl rfl) ?_
      refine gm_sz (fw_gr (pc := 100) (ix := 34) (ci := 4) (j := 0) (r := 3) (by decide +kernel) (e0k hE (k := 200) (c := 4) (by decide +kernel)) (by decide +kernel) (by decide +kernel) (e0r hE (k := 200) (j := 0) (r := 3) (by decide +kernel))) ?_
      refine gm_sz (fw_gi (pc := 103) (ix := 126) (ci := 1) (j := 4) (x := N 12) (by decide +kernel) (e0k hE (k := 3) (c := 1) (by decide +kernel)) (by decide +kernel) (by decide +kernel) ((uM_ne (by omega)).trans ((uM_ne (by omega)).trans ((uM_ne (by omega)).trans ((uM_ne (by omega)).trans ((uM_ne (by omega)).trans ((uM_ne (by omega)).trans ((uM_ne (by omega)).trans ((uM_ne (by omega)).trans ((uM_ne (by omega)).trans (ti_str hT))))))))))) ?_
      refine fw_ic (cc := .ge) (pc := 106) (off := 7) (by decide +kernel) (by decide) ⟨by omega, by omega⟩ ⟨by omega, by omega⟩ (fun h106 => ?_) (fun h106 => ?_)
      · have h106 : (N 12) ≤ lane := h106
        refine gm_sz (gm_p_const (pc := 113) (i := .iconst 0) (v := gm_vi 0) (by decide +kernel) (by decide +kernel)) ?_
        refine gm_sz (fw_is (pc := 114) (k := 204) (len := 10) (e0 := 9) (x := 0) (M' := gm_uM (gm_uM (gm_uM (gm_uM (gm_uM (gm_uM (gm_uM (gm_uM (gm_uM (gm_uM M 204 0 lane) 204 1 row) 204 2 year) 204 3 0) 204 4 speed) 204 5 0) 204 6 0) 204 7 0) 204 8 1) 204 9 0) (by decide +kernel) (e0a hE (k := 204) (q := (0, 10)) (by decide +kernel)).1 (e0a hE (k := 204) (q := (0, 10)) (by decide +kernel)).2 (by decide) ⟨by omega, by omega⟩ rfl) ?_
        exact gm_r_void (pc := 115) (by decide +kernel) (by decide +kernel) (q4 h70 h83 h106)
      · have h106 : ¬ (N 12) ≤ lane := h106
        refine gm_sz (gm_p_const (pc := 109) (i := .iconst 1) (v := gm_vi 1) (by decide +kernel) (by decide +kernel)) ?_
        refine gm_sz (gm_p_goto (pc := 110) (off := 4) (by decide +kernel) (by decide)) ?_
        refine gm_sz (fw_is (pc := 114) (k := 204) (len := 10) (e0 := 9) (x := 1) (M' := gm_uM (gm_uM (gm_uM (gm_uM (gm_uM (gm_uM (gm_uM (gm_uM (gm_uM (gm_uM M 204 0 lane) 204 1 row) 204 2 year) 204 3 0) 204 4 speed) 204 5 0) 204 6 0) 204 7 0) 204 8 1) 204 9 1) (by decide +kernel) (e0a hE (k := 204) (q := (0, 10)) (by decide +kernel)).1 (e0a hE (k := 204) (q := (0, 10)) (by decide +kernel)).2 (by decide) ⟨by omega, by omega⟩ rfl) ?_
        exact gm_r_void (pc := 115) (by decide +kernel) (by decide +kernel) (q5 h70 h83 h106)
theorem ln_sfm (hd : 1 ≤ d) (hE : E0 n K R) (hT : TI N h sp M) (hN : NR N) (h1 : lane = -1) (h2 : year = -1) (hm : h year = 0) (hq : Q (.inl none) n K R (ic_fa M N h lane row year speed)) : gm_Wp X LX d bc bs 39 0 (gm_ent 39 [gm_vr 200, gm_vi lane, gm_vi row, gm_vi year, gm_vi speed]) [] n K R M Q := by
  unfold ic_fa at hq
  rw [hm] at hq
  refine ln_sf0m hd hE hT hN h1 h2 (fun g0 g1 => ?_) (fun g0 g1 => ?_) (fun g0 g1 g2 => ?_) (fun g0 g1 g2 => ?_) (fun g0 g1 g2 => ?_) (fun g0 g1 g2 => ?_)
  · rw [if_pos (by omega), if_neg (by omega)] at hq
    exact hq
  · rw [if_pos (by omega), if_pos (by omega)] at hq
    exact hq
  · rw [if_neg (by omega), if_neg (by omega)] at hq
    exact hq
  · rw [if_neg (by omega), if_pos (by omega)] at hq
    exact hq
  · rw [if_pos (by omega), if_neg (by omega)] at hq
    exact hq
  · rw [if_pos (by omega), if_pos (by omega)] at hq
    exact hq
theorem ln_rc (hd : 1 ≤ d) (hE : E0 n K R) (hb : gm_ir (M 200 6)) (h0 : -100000 ≤ cell ∧ cell < 0) (hq : ∀ M2, fr [(200, some 6), (205, none)] M M2 → M2 200 6 = 0 → (∀ c, 0 ≤ c → c < 178200 → kv M2 c = kv M c) → Q (.inl (some (gm_vi 31))) n K R M2) : gm_Wp X LX d bc bs 37 0 (gm_ent 37 [gm_vr 200, gm_vi cell]) [] n K R M Q := by
  refine gm_sz (gm_p_load (pc := 0) (i := .aload_n 0) (sr := 2) (j := 0) (by decide +kernel) rfl rfl rfl) ?_
  refine gm_sz (fw_gi (pc := 1) (ix := 30) (ci := 4) (j := 6) (x := M 200 6) (by decide +kernel) (e0k hE (k := 200) (c := 4) (by decide +kernel)) (by decide +kernel) (by decide +kernel) rfl) ?_
  refine fw_if (cc := .eq) (pc := 4) (off := 18) (by decide +kernel) (by decide) hb (fun h4 => ?_) (fun h4 => ?_)
  · have h4 : (M 200 6) = 0 := h4
    refine gm_sz (gm_p_load (pc := 22) (i := .iload_n 1) (sr := 0) (j := 1) (by decide +kernel) rfl rfl rfl) ?_
    refine gm_sz (gm_p_const (pc := 23) (i := .bipush 12) (v := gm_vi 12) (by decide +kernel) (by decide +kernel)) ?_
    refine gm_sz (gm_p_div (pc := 25) (by decide +kernel) (by decide)) ?_
    refine gm_sz (gm_p_stor (pc := 26) (i := .istore_n 2) (sr := 0) (j := 2) (by decide +kernel) rfl (show 3 ≤ _ from Nat.le_of_ble_eq_true rfl) rfl) ?_
    refine gm_sz (gm_p_load (pc := 27) (i := .iload_n 1) (sr := 0) (j := 1) (by decide +kernel) rfl rfl rfl) ?_
    refine fw_ift (cc := .lt) (pc := 28) (off := 12) (by decide +kernel) (by decide) ⟨by omega, by omega⟩ (show cell < 0 by omega) ?_
    refine gm_sz (gm_p_const (pc := 40) (i := .bipush 31) (v := gm_vi 31) (by decide +kernel) (by decide +kernel)) ?_
    have q := hq M fr_0 h4 (fun _ _ _ => rfl)
    exact gm_r_int (pc := 42) (by decide +kernel) (Or.inl (by decide +kernel)) q
  · have h4 : ¬ (M 200 6) = 0 := h4
    refine gm_sz (gm_p_load (pc := 7) (i := .aload_n 0) (sr := 2) (j := 0) (by decide +kernel) rfl rfl rfl) ?_
    refine gm_sz (fw_gr (pc := 8) (ix := 26) (ci := 4) (j := 5) (r := 205) (by decide +kernel) (e0k hE (k := 200) (c := 4) (by decide +kernel)) (by decide +kernel) (by decide +kernel) (e0r hE (k := 200) (j := 5) (r := 205) (by decide +kernel))) ?_
    refine gm_sz (gm_p_ldcl (pc := 11) (ix := 116) (v := (-1)) (by decide +kernel) (by decide +kernel)) ?_
    refine gm_c_stat2 (mj := 38) (ix := 118) (pc := 14) (u0 := gm_vr 205) (u1 := gm_vl (-1)) (st := []) (d' := d - 1) (bc' := 0) (bs' := 0) (by decide +kernel) (by decide +kernel) (by decide +kernel) (by decide +kernel) (show 2 = gm_na 38 by decide +kernel) fw_sr (show 3 ≤ gm_ml 38 by decide +kernel) (Nat.le_of_ble_eq_true rfl) (by omega) (Nat.zero_le _) (Nat.zero_le _) ?_
    refine fl_c38 (e0a hE (k := 205) (q := (2, 14850)) (by decide +kernel)) (by decide) ?_
    show gm_Wp X LX d _ _ 37 17 _ [] n K _ _ Q
    refine gm_sz (gm_p_load (pc := 17) (i := .aload_n 0) (sr := 2) (j := 0) (by decide +kernel) rfl rfl rfl) ?_
    refine gm_sz (gm_p_const (pc := 18) (i := .iconst 0) (v := gm_vi 0) (by decide +kernel) (by decide +kernel)) ?_
    refine gm_sz (fw_pz (pc := 19) (ix := 30) (ci := 4) (j := 6) (M' := gm_uM (gm_fil M 205 ((14850 : Nat) : Int) (-1)) 200 6 0) (by decide +kernel) (e0k hE (k := 200) (c := 4) (by decide +kernel)) (by decide +kernel) (by decide +kernel) (by decide +kernel) (Or.inl rfl) rfl) ?_
    refine gm_sz (gm_p_load (pc := 22) (i := .iload_n 1) (sr := 0) (j := 1) (by decide +kernel) rfl rfl rfl) ?_
    refine gm_sz (gm_p_const (pc := 23) (i := .bipush 12) (v := gm_vi 12) (by decide +kernel) (by decide +kernel)) ?_
    refine gm_sz (gm_p_div (pc := 25) (by decide +kernel) (by decide)) ?_
    refine gm_sz (gm_p_stor (pc := 26) (i := .istore_n 2) (sr := 0) (j := 2) (by decide +kernel) rfl (show 3 ≤ _ from Nat.le_of_ble_eq_true rfl) rfl) ?_
    refine gm_sz (gm_p_load (pc := 27) (i := .iload_n 1) (sr := 0) (j := 1) (by decide +kernel) rfl rfl rfl) ?_
    refine fw_ift (cc := .lt) (pc := 28) (off := 12) (by decide +kernel) (by decide) ⟨by omega, by omega⟩ (show cell < 0 by omega) ?_
    refine gm_sz (gm_p_const (pc := 40) (i := .bipush 31) (v := gm_vi 31) (by decide +kernel) (by decide +kernel)) ?_
    have k9 : ∀ c, 0 ≤ c → c < 178200 → kv (gm_uM (gm_fil M 205 ((14850 : Nat) : Int) (-1)) 200 6 0) c = kv M c := fun c c0 c1 => by
      obtain ⟨k, hk, -⟩ := sh12_s (c := c % 12) ⟨by omega, by omega⟩
      have e6 : gm_uM (gm_fil M 205 ((14850 : Nat) : Int) (-1)) 200 6 0 200 6 = 0 := uM_at
      have e5 : gm_uM (gm_fil M 205 ((14850 : Nat) : Int) (-1)) 200 6 0 205 (c / 12) = -1 := ((uM_ne (by omega)).trans (gm_fil_in (by omega) (by omega)))
      unfold kv
      rw [if_pos e6, if_neg h4, e5]
      exact fld_m1 hk
    have q := hq (gm_uM (gm_fil M 205 ((14850 : Nat) : Int) (-1)) 200 6 0) (fr_p (fr_t fr_0 gm_fil_fr (by decide)) (Or.inr (by decide))) uM_at k9
    exact gm_r_int (pc := 42) (by decide +kernel) (Or.inl (by decide +kernel)) q
theorem ln_kp (hE : E0 n K R) (h0 : -100000 ≤ cell ∧ cell < 0) (hq : Q (.inl none) n K R M) : gm_Wp X LX d bc bs 42 0 (gm_ent 42 [gm_vr 200, gm_vi cell, gm_vi f]) [] n K R M Q := by
  refine gm_sz (gm_p_load (pc := 0) (i := .iload_n 1) (sr := 0) (j := 1) (by decide +kernel) rfl rfl rfl) ?_
  refine gm_sz (gm_p_const (pc := 1) (i := .bipush 12) (v := gm_vi 12) (by decide +kernel) (by decide +kernel)) ?_
  refine gm_sz (gm_p_div (pc := 3) (by decide +kernel) (by decide)) ?_
  refine gm_sz (gm_p_stor (pc := 4) (i := .istore_n 3) (sr := 0) (j := 3) (by decide +kernel) rfl (show 4 ≤ _ from Nat.le_of_ble_eq_true rfl) rfl) ?_
  refine gm_sz (gm_p_load (pc := 5) (i := .iload_n 1) (sr := 0) (j := 1) (by decide +kernel) rfl rfl rfl) ?_
  refine fw_ift (cc := .lt) (pc := 6) (off := 53) (by decide +kernel) (by decide) ⟨by omega, by omega⟩ (show cell < 0 by omega) ?_
  exact gm_r_void (pc := 59) (by decide +kernel) (by decide +kernel) hq
theorem ic_fln (hE : E0 n K R) (hL : LE n K R NC) (hlw : R 3 ((8 : Nat) : Int) = 246) (hN : NR N) : ∀ (d bc bs : Nat) (M : gm_M) (Q : gm_Q) (lane row year : Int), 12 ≤ d → lane = -1 → -1 ≤ row ∧ row < 99 → 0 ≤ year ∧ year < 300 → TI N h sp M → (LB NC C Ln m M ∧ KFL N φ M) → (∀ M2 v, fr [(200, some 6), (204, none), (205, none)] M M2 → (LB NC C Ln m M2 ∧ KFL N φ M2) → Q (.inl (some (gm_vi v))) n K R M2) → gm_Wp X LX d bc bs 35 0 (gm_ent 35 [gm_vr 200, gm_vi lane, gm_vi row, gm_vi year]) [] n K R M Q := by
  intro d bc bs M Q lane row year hd hl h2 h3 hT hI hq
  obtain ⟨hB, ⟨k6, k7⟩, hk⟩ := hI
  have hB9 := lb_lines hB
  obtain ⟨⟨⟨a0, b0⟩, ⟨a1, b1⟩, ⟨a10, b10⟩, ⟨a11, b11⟩, ⟨a12, b12⟩, a9, b9⟩, ⟨⟨a2, b2⟩, ⟨a5, b5⟩, ⟨a3, b3⟩, ⟨a4, b4⟩, ⟨a6, b6⟩, ⟨a14, b14⟩, ⟨a7, b7⟩, a13, b13⟩, rF, rP, rL⟩ := id hN
  refine gm_sz (gm_p_load (pc := 0) (i := .aload_n 0) (sr := 2) (j := 0) (by decide +kernel) rfl rfl rfl) ?_
  refine gm_sz (gm_p_load (pc := 1) (i := .iload_n 1) (sr := 0) (j := 1) (by decide +kernel) rfl rfl rfl) ?_
  refine gm_sz (gm_p_load (pc := 2) (i := .iload_n 2) (sr := 0) (j := 2) (by decide +kernel) rfl rfl rfl) ?_
  refine gm_c_virt (k := 200) (ci := 4) (mj := 36) (ix := 90) (pc := 3) (as := [gm_vi lane, gm_vi row]) (st := []) (d' := d - 1) (bc' := 0) (bs' := 0) (by decide +kernel) (by decide +kernel) (by decide +kernel) (by decide +kernel) (e0k hE (k := 200) (c := 4) (by decide +kernel)).1 (e0k hE (k := 200) (c := 4) (by decide +kernel)).2 (by decide) (by decide +kernel) (show 2 = gm_na 36 by decide +kernel) (fw_c2 fw_si fw_si) (show 3 ≤ gm_ml 36 by decide +kernel) (Nat.le_of_ble_eq_true rfl) (by omega) (Nat.zero_le _) (Nat.zero_le _) ?_
  refine ln_spd hE hT hN hl ⟨by omega, by omega⟩ ?_
  show gm_Wp X LX d _ _ 35 6 _ [gm_vi 0] n K _ _ Q
  refine gm_sz (gm_p_stor (pc := 6) (i := .istore 4) (sr := 0) (j := 4) (by decide +kernel) rfl (show 5 ≤ _ from Nat.le_of_ble_eq_true rfl) rfl) ?_
  refine gm_sz (gm_p_load (pc := 8) (i := .aload_n 0) (sr := 2) (j := 0) (by decide +kernel) rfl rfl rfl) ?_
  refine gm_sz (fw_gr (pc := 9) (ix := 34) (ci := 4) (j := 0) (r := 3) (by decide +kernel) (e0k hE (k := 200) (c := 4) (by decide +kernel)) (by decide +kernel) (by decide +kernel) (e0r hE (k := 200) (j := 0) (r := 3) (by decide +kernel))) ?_
  refine gm_sz (fw_gr (pc := 12) (ix := 93) (ci := 1) (j := 8) (r := 246) (by decide +kernel) (e0k hE (k := 3) (c := 1) (by decide +kernel)) (by decide +kernel) (by decide +kernel) hlw) ?_
  refine gm_b_nnul (pc := 15) (off := 6) (k0 := 246) (by decide) (by decide +kernel) (by decide) (fun _ => ?_) (fun h => absurd h (by decide))
  refine gm_sz (gm_p_load (pc := 21) (i := .iload_n 1) (sr := 0) (j := 1) (by decide +kernel) rfl rfl rfl) ?_
  refine gm_sz (gm_p_const (pc := 22) (i := .bipush 99) (v := gm_vi 99) (by decide +kernel) (by decide +kernel)) ?_
  refine gm_sz (gm_p_bin (pc := 24) (i := .imul) (f := fun x y => x * y) (by decide +kernel) rfl) ?_
  refine gm_sz (gm_p_load (pc := 25) (i := .iload_n 2) (sr := 0) (j := 2) (by decide +kernel) rfl rfl rfl) ?_
  refine gm_sz (gm_p_bin (pc := 26) (i := .iadd) (f := fun x y => x + y) (by decide +kernel) rfl) ?_
  refine gm_sz (gm_p_const (pc := 27) (i := .sipush 300) (v := gm_vi 300) (by decide +kernel) (by decide +kernel)) ?_
  refine gm_sz (gm_p_bin (pc := 30) (i := .imul) (f := fun x y => x * y) (by decide +kernel) rfl) ?_
  refine gm_sz (gm_p_load (pc := 31) (i := .iload_n 3) (sr := 0) (j := 3) (by decide +kernel) rfl rfl rfl) ?_
  refine gm_sz (gm_p_bin (pc := 32) (i := .iadd) (f := fun x y => x + y) (by decide +kernel) rfl) ?_
  refine gm_sz (gm_p_stor (pc := 33) (i := .istore 5) (sr := 0) (j := 5) (by decide +kernel) rfl (show 6 ≤ _ from Nat.le_of_ble_eq_true rfl) rfl) ?_
  refine gm_sz (gm_p_load (pc := 35) (i := .aload_n 0) (sr := 2) (j := 0) (by decide +kernel) rfl rfl rfl) ?_
  refine gm_sz (gm_p_load (pc := 36) (i := .iload 5) (sr := 0) (j := 5) (by decide +kernel) rfl rfl rfl) ?_
  refine gm_c_virt (k := 200) (ci := 4) (mj := 37) (ix := 97) (pc := 38) (as := [gm_vi ((((lane * 99) + row) * 300) + year)]) (st := []) (d' := d - 1) (bc' := 0) (bs' := 0) (by decide +kernel) (by decide +kernel) (by decide +kernel) (by decide +kernel) (e0k hE (k := 200) (c := 4) (by decide +kernel)).1 (e0k hE (k := 200) (c := 4) (by decide +kernel)).2 (by decide) (by decide +kernel) (show 1 = gm_na 37 by decide +kernel) (fw_c1 fw_si) (show 2 ≤ gm_ml 37 by decide +kernel) (Nat.le_of_ble_eq_true rfl) (by omega) (Nat.zero_le _) (Nat.zero_le _) ?_
  refine ln_rc (cell := (((lane * 99) + row) * 300) + year) (by omega) hE ⟨by omega, by omega⟩ ⟨by omega, by omega⟩ (fun M37 hf37 h637 hk37 => ?_)
  show gm_Wp X LX d _ _ 35 41 _ [gm_vi 31] n K _ _ Q
  refine gm_sz (gm_p_stor (pc := 41) (i := .istore 6) (sr := 0) (j := 6) (by decide +kernel) rfl (show 7 ≤ _ from Nat.le_of_ble_eq_true rfl) rfl) ?_
  refine gm_sz (gm_p_load (pc := 43) (i := .iload 6) (sr := 0) (j := 6) (by decide +kernel) rfl rfl rfl) ?_
  refine gm_sz (gm_p_const (pc := 45) (i := .bipush 31) (v := gm_vi 31) (by decide +kernel) (by decide +kernel)) ?_
  refine fw_icfd (cc := .ne) (pc := 47) (off := 48) (by decide +kernel) (by decide) ⟨by decide, by decide⟩ ⟨by decide, by decide⟩ (by decide) ?_
  refine gm_sz (gm_p_load (pc := 50) (i := .aload_n 0) (sr := 2) (j := 0) (by decide +kernel) rfl rfl rfl) ?_
  refine gm_sz (gm_p_load (pc := 51) (i := .iload_n 1) (sr := 0) (j := 1) (by decide +kernel) rfl rfl rfl) ?_
  refine gm_sz (gm_p_load (pc := 52) (i := .iload_n 2) (sr := 0) (j := 2) (by decide +kernel) rfl rfl rfl) ?_
  refine gm_sz (gm_p_load (pc := 53) (i := .iload_n 3) (sr := 0) (j := 3) (by decide +kernel) rfl rfl rfl) ?_
  refine gm_sz (gm_p_load (pc := 54) (i := .iload 4) (sr := 0) (j := 4) (by decide +kernel) rfl rfl rfl) ?_
  refine gm_c_virt (k := 200) (ci := 4) (mj := 39) (ix := 101) (pc := 56) (as := [gm_vi lane, gm_vi row, gm_vi year, gm_vi 0]) (st := []) (d' := d - 1) (bc' := 0) (bs' := 0) (by decide +kernel) (by decide +kernel) (by decide +kernel) (by decide +kernel) (e0k hE (k := 200) (c := 4) (by decide +kernel)).1 (e0k hE (k := 200) (c := 4) (by decide +kernel)).2 (by decide) (by decide +kernel) (show 4 = gm_na 39 by decide +kernel) (fw_c4 fw_si fw_si fw_si fw_si) (show 5 ≤ gm_ml 39 by decide +kernel) (Nat.le_of_ble_eq_true rfl) (by omega) (Nat.zero_le _) (Nat.zero_le _) ?_
  refine ln_sf (by omega) hE (ti_fr (W := [(200, some 6), (205, none)]) hT (fr_t fr_0 hf37 (by decide)) (by decide) (by decide +kernel)) hN hl ⟨by omega, by omega⟩ ?_
  show gm_Wp X LX d _ _ 35 59 _ [] n K _ _ Q
  refine gm_sz (gm_p_const (pc := 59) (i := .iconst 0) (v := gm_vi 0) (by decide +kernel) (by decide +kernel)) ?_
  refine gm_sz (gm_p_const (pc := 60) (i := .bipush 30) (v := gm_vi 30) (by decide +kernel) (by decide +kernel)) ?_
  refine gm_sz (gm_p_load (pc := 62) (i := .iload 4) (sr := 0) (j := 4) (by decide +kernel) rfl rfl rfl) ?_
  refine gm_sz (gm_p_load (pc := 64) (i := .aload_n 0) (sr := 2) (j := 0) (by decide +kernel) rfl rfl rfl) ?_
  refine gm_sz (fw_gr (pc := 65) (ix := 34) (ci := 4) (j := 0) (r := 3) (by decide +kernel) (e0k hE (k := 200) (c := 4) (by decide +kernel)) (by decide +kernel) (by decide +kernel) (e0r hE (k := 200) (j := 0) (r := 3) (by decide +kernel))) ?_
  refine gm_sz (fw_gr (pc := 68) (ix := 93) (ci := 1) (j := 8) (r := 246) (by decide +kernel) (e0k hE (k := 3) (c := 1) (by decide +kernel)) (by decide +kernel) (by decide +kernel) hlw) ?_
  refine gm_sz (gm_p_load (pc := 71) (i := .aload_n 0) (sr := 2) (j := 0) (by decide +kernel) rfl rfl rfl) ?_
  refine gm_sz (fw_gr (pc := 72) (ix := 23) (ci := 4) (j := 4) (r := 204) (by decide +kernel) (e0k hE (k := 200) (c := 4) (by decide +kernel)) (by decide +kernel) (by decide +kernel) (e0r hE (k := 200) (j := 4) (r := 204) (by decide +kernel))) ?_
  refine gm_c_virt (k := 246) (ci := 10) (mj := 40) (ix := 105) (pc := 75) (as := [gm_vr 204]) (st := [gm_vi 0, gm_vi 30, gm_vi 0]) (d' := d - 1) (bc' := 0) (bs' := 0) (by decide +kernel) (by decide +kernel) (by decide +kernel) (by decide +kernel) (lk6 hL).1 (lk6 hL).2 (by decide) (by decide +kernel) (show 1 = gm_na 40 by decide +kernel) (fw_c1 fw_sr) (show 2 ≤ gm_ml 40 by decide +kernel) (Nat.le_of_ble_eq_true rfl) (by omega) (Nat.zero_le _) (Nat.zero_le _) ?_
  refine fa_c40 (F := (fcts N h lane row year 0 0 0 0)) (C := C) (L := Ln) (m := m) (by omega) hE hL (lb_fr (W := [(200, some 6), (205, none), (204, some 0), (204, some 1), (204, some 2), (204, some 3), (204, some 4), (204, some 5), (204, some 6), (204, some 7), (204, some 8), (204, some 9)]) (fr_p (fr_p (fr_p (fr_p (fr_p (fr_p (fr_p (fr_p (fr_p (fr_p (fr_t fr_0 hf37 (by decide)) (Or.inr (by decide))) (Or.inr (by decide))) (Or.inr (by decide))) (Or.inr (by decide))) (Or.inr (by decide))) (Or.inr (by decide))) (Or.inr (by decide))) (Or.inr (by decide))) (Or.inr (by decide))) (Or.inr (by decide))) (by decide) hB).1 (fun j j0 j1 => ic_fa_s j j0 j1) (lb_fr (W := [(200, some 6), (205, none), (204, some 0), (204, some 1), (204, some 2), (204, some 3), (204, some 4), (204, some 5), (204, some 6), (204, some 7), (204, some 8), (204, some 9)]) (fr_p (fr_p (fr_p (fr_p (fr_p (fr_p (fr_p (fr_p (fr_p (fr_p (fr_t fr_0 hf37 (by decide)) (Or.inr (by decide))) (Or.inr (by decide))) (Or.inr (by decide))) (Or.inr (by decide))) (Or.inr (by decide))) (Or.inr (by decide))) (Or.inr (by decide))) (Or.inr (by decide))) (Or.inr (by decide))) (Or.inr (by decide))) (by decide) hB).2.1 (lb_fr (W := [(200, some 6), (205, none), (204, some 0), (204, some 1), (204, some 2), (204, some 3), (204, some 4), (204, some 5), (204, some 6), (204, some 7), (204, some 8), (204, some 9)]) (fr_p (fr_p (fr_p (fr_p (fr_p (fr_p (fr_p (fr_p (fr_p (fr_p (fr_t fr_0 hf37 (by decide)) (Or.inr (by decide))) (Or.inr (by decide))) (Or.inr (by decide))) (Or.inr (by decide))) (Or.inr (by decide))) (Or.inr (by decide))) (Or.inr (by decide))) (Or.inr (by decide))) (Or.inr (by decide))) (Or.inr (by decide))) (by decide) hB).2.2.1 (lb_fr (W := [(200, some 6), (205, none), (204, some 0), (204, some 1), (204, some 2), (204, some 3), (204, some 4), (204, some 5), (204, some 6), (204, some 7), (204, some 8), (204, some 9)]) (fr_p (fr_p (fr_p (fr_p (fr_p (fr_p (fr_p (fr_p (fr_p (fr_p (fr_t fr_0 hf37 (by decide)) (Or.inr (by decide))) (Or.inr (by decide))) (Or.inr (by decide))) (Or.inr (by decide))) (Or.inr (by decide))) (Or.inr (by decide))) (Or.inr (by decide))) (Or.inr (by decide))) (Or.inr (by decide))) (Or.inr (by decide))) (by decide) hB).2.2.2 ?_
  show gm_Wp X LX d _ _ 35 78 _ [gm_vi (lfas (fcts N h lane row year 0 0 0 0) C Ln m.toNat), gm_vi 0, gm_vi 30, gm_vi 0] n K _ _ Q
  have hl9 := lfas_b (C := C) (F := (fcts N h lane row year 0 0 0 0)) hB9.2 m.toNat (by omega)
  refine gm_sz (gm_p_bin (pc := 78) (i := .iadd) (f := fun x y => x + y) (by decide +kernel) rfl) ?_
  refine gm_sz (gm_p_min (pc := 79) (ix := 109) (x := 30) (y := 0 + (lfas (fcts N h lane row year 0 0 0 0) C Ln m.toNat)) (by decide +kernel) (by decide +kernel) (gm_w_id (by omega) (by omega)) (gm_w_id (by omega) (by omega)) (Nat.le_of_ble_eq_true rfl) (by omega)) ?_
  refine gm_sz (gm_p_max (pc := 82) (ix := 77) (x := 0) (y := min 30 (0 + (lfas (fcts N h lane row year 0 0 0 0) C Ln m.toNat))) (by decide +kernel) (by decide +kernel) (gm_w_id (by omega) (by omega)) (gm_w_id (by omega) (by omega)) (Nat.le_of_ble_eq_true rfl) (by omega)) ?_
  refine gm_sz (gm_p_stor (pc := 85) (i := .istore 6) (sr := 0) (j := 6) (by decide +kernel) rfl (show 7 ≤ _ from Nat.le_of_ble_eq_true rfl) rfl) ?_
  refine gm_sz (gm_p_load (pc := 87) (i := .aload_n 0) (sr := 2) (j := 0) (by decide +kernel) rfl rfl rfl) ?_
  refine gm_sz (gm_p_load (pc := 88) (i := .iload 5) (sr := 0) (j := 5) (by decide +kernel) rfl rfl rfl) ?_
  refine gm_sz (gm_p_load (pc := 90) (i := .iload 6) (sr := 0) (j := 6) (by decide +kernel) rfl rfl rfl) ?_
  refine gm_c_virt (k := 200) (ci := 4) (mj := 42) (ix := 112) (pc := 92) (as := [gm_vi ((((lane * 99) + row) * 300) + year), gm_vi (max 0 (min 30 (0 + (lfas (fcts N h lane row year 0 0 0 0) C Ln m.toNat))))]) (st := []) (d' := d - 1) (bc' := 0) (bs' := 0) (by decide +kernel) (by decide +kernel) (by decide +kernel) (by decide +kernel) (e0k hE (k := 200) (c := 4) (by decide +kernel)).1 (e0k hE (k := 200) (c := 4) (by decide +kernel)).2 (by decide) (by decide +kernel) (show 2 = gm_na 42 by decide +kernel) (fw_c2 fw_si fw_si) (show 3 ≤ gm_ml 42 by decide +kernel) (Nat.le_of_ble_eq_true rfl) (by omega) (Nat.zero_le _) (Nat.zero_le _) ?_
  refine ln_kp (cell := (((lane * 99) + row) * 300) + year) (f := max 0 (min 30 (0 + (lfas (fcts N h lane row year 0 0 0 0) C Ln m.toNat)))) hE ⟨by omega, by omega⟩ ?_
  show gm_Wp X LX d _ _ 35 95 _ [] n K _ _ Q
  refine gm_sz (gm_p_load (pc := 95) (i := .iload 6) (sr := 0) (j := 6) (by decide +kernel) rfl rfl rfl) ?_
  have ke : ∀ c, kv (gm_uM (gm_uM (gm_uM (gm_uM (gm_uM (gm_uM (gm_uM (gm_uM (gm_uM (gm_uM M37 204 0 lane) 204 1 row) 204 2 year) 204 3 (h year)) 204 4 0) 204 5 0) 204 6 0) 204 7 0) 204 8 (if lane = 0 ∨ lane = N 0 - 1 then 1 else 0)) 204 9 (if lane < N 12 then 1 else 0)) c = kv M37 c := kv_e ((uM_ne (by omega)).trans ((uM_ne (by omega)).trans ((uM_ne (by omega)).trans ((uM_ne (by omega)).trans ((uM_ne (by omega)).trans ((uM_ne (by omega)).trans ((uM_ne (by omega)).trans ((uM_ne (by omega)).trans ((uM_ne (by omega)).trans ((uM_ne (by omega)).trans rfl)))))))))) (fun j => ((uM_ne (by omega)).trans ((uM_ne (by omega)).trans ((uM_ne (by omega)).trans ((uM_ne (by omega)).trans ((uM_ne (by omega)).trans ((uM_ne (by omega)).trans ((uM_ne (by omega)).trans ((uM_ne (by omega)).trans ((uM_ne (by omega)).trans ((uM_ne (by omega)).trans rfl)))))))))))
  have kf : KFL N φ (gm_uM (gm_uM (gm_uM (gm_uM (gm_uM (gm_uM (gm_uM (gm_uM (gm_uM (gm_uM M37 204 0 lane) 204 1 row) 204 2 year) 204 3 (h year)) 204 4 0) 204 5 0) 204 6 0) 204 7 0) 204 8 (if lane = 0 ∨ lane = N 0 - 1 then 1 else 0)) 204 9 (if lane < N 12 then 1 else 0)) := by
    refine ⟨?_, fun l r y l0 l1 r0 r1 y0 y1 => ?_⟩
    · rw [show (gm_uM (gm_uM (gm_uM (gm_uM (gm_uM (gm_uM (gm_uM (gm_uM (gm_uM (gm_uM M37 204 0 lane) 204 1 row) 204 2 year) 204 3 (h year)) 204 4 0) 204 5 0) 204 6 0) 204 7 0) 204 8 (if lane = 0 ∨ lane = N 0 - 1 then 1 else 0)) 204 9 (if lane < N 12 then 1 else 0)) 200 6 = 0 from ((uM_ne (by omega)).trans ((uM_ne (by omega)).trans ((uM_ne (by omega)).trans ((uM_ne (by omega)).trans ((uM_ne (by omega)).trans ((uM_ne (by omega)).trans ((uM_ne (by omega)).trans ((uM_ne (by omega)).trans ((uM_ne (by omega)).trans ((uM_ne (by omega)).trans h637))))))))))]
      exact ⟨by decide, by decide⟩
    · rw [ke _, hk37 _ (by omega) (by omega)]
      exact hk l r y l0 l1 r0 r1 y0 y1
  exact gm_r_int (pc := 97) (by decide +kernel) (Or.inl (by decide +kernel)) (hq _ _ (fr_p (fr_p (fr_p (fr_p (fr_p (fr_p (fr_p (fr_p (fr_p (fr_p (fr_t fr_0 hf37 (by decide)) (Or.inl (by decide))) (Or.inl (by decide))) (Or.inl (by decide))) (Or.inl (by decide))) (Or.inl (by decide))) (Or.inl (by decide))) (Or.inl (by decide))) (Or.inl (by decide))) (Or.inl (by decide))) (Or.inl (by decide))) ⟨(lb_fr (W := [(200, some 6), (205, none), (204, some 0), (204, some 1), (204, some 2), (204, some 3), (204, some 4), (204, some 5), (204, some 6), (204, some 7), (204, some 8), (204, some 9)]) (fr_p (fr_p (fr_p (fr_p (fr_p (fr_p (fr_p (fr_p (fr_p (fr_p (fr_t fr_0 hf37 (by decide)) (Or.inr (by decide))) (Or.inr (by decide))) (Or.inr (by decide))) (Or.inr (by decide))) (Or.inr (by decide))) (Or.inr (by decide))) (Or.inr (by decide))) (Or.inr (by decide))) (Or.inr (by decide))) (Or.inr (by decide))) (by decide) hB), kf⟩)
theorem ic_flm (hE : E0 n K R) (hL : LE n K R NC) (hlw : R 3 ((8 : Nat) : Int) = 246) (hN : NR N) : ∀ (d bc bs : Nat) (M : gm_M) (Q : gm_Q) (lane row year : Int), 12 ≤ d → lane = -1 → -1 ≤ row ∧ row < 99 → year = -1 → h year = 0 → TI N h sp M → (LB NC C Ln m M ∧ KFL N φ M) → (∀ M2 v, fr [(200, some 6), (204, none), (205, none)] M M2 → (LB NC C Ln m M2 ∧ KFL N φ M2) → Q (.inl (some (gm_vi v))) n K R M2) → gm_Wp X LX d bc bs 35 0 (gm_ent 35 [gm_vr 200, gm_vi lane, gm_vi row, gm_vi year]) [] n K R M Q := by
  intro d bc bs M Q lane row year hd hl h2 hy hm hT hI hq
  obtain ⟨hB, ⟨k6, k7⟩, hk⟩ := hI
  have hB9 := lb_lines hB
  obtain ⟨⟨⟨a0, b0⟩, ⟨a1, b1⟩, ⟨a10, b10⟩, ⟨a11, b11⟩, ⟨a12, b12⟩, a9, b9⟩, ⟨⟨a2, b2⟩, ⟨a5, b5⟩, ⟨a3, b3⟩, ⟨a4, b4⟩, ⟨a6, b6⟩, ⟨a14, b14⟩, ⟨a7, b7⟩, a13, b13⟩, rF, rP, rL⟩ := id hN
  refine gm_sz (gm_p_load (pc := 0) (i := .aload_n 0) (sr := 2) (j := 0) (by decide +kernel) rfl rfl rfl) ?_
  refine gm_sz (gm_p_load (pc := 1) (i := .iload_n 1) (sr := 0) (j := 1) (by decide +kernel) rfl rfl rfl) ?_
  refine gm_sz (gm_p_load (pc := 2) (i := .iload_n 2) (sr := 0) (j := 2) (by decide +kernel) rfl rfl rfl) ?_
  refine gm_c_virt (k := 200) (ci := 4) (mj := 36) (ix := 90) (pc := 3) (as := [gm_vi lane, gm_vi row]) (st := []) (d' := d - 1) (bc' := 0) (bs' := 0) (by decide +kernel) (by decide +kernel) (by decide +kernel) (by decide +kernel) (e0k hE (k := 200) (c := 4) (by decide +kernel)).1 (e0k hE (k := 200) (c := 4) (by decide +kernel)).2 (by decide) (by decide +kernel) (show 2 = gm_na 36 by decide +kernel) (fw_c2 fw_si fw_si) (show 3 ≤ gm_ml 36 by decide +kernel) (Nat.le_of_ble_eq_true rfl) (by omega) (Nat.zero_le _) (Nat.zero_le _) ?_
  refine ln_spd hE hT hN hl ⟨by omega, by omega⟩ ?_
  show gm_Wp X LX d _ _ 35 6 _ [gm_vi 0] n K _ _ Q
  refine gm_sz (gm_p_stor (pc := 6) (i := .istore 4) (sr := 0) (j := 4) (by decide +kernel) rfl (show 5 ≤ _ from Nat.le_of_ble_eq_true rfl) rfl) ?_
  refine gm_sz (gm_p_load (pc := 8) (i := .aload_n 0) (sr := 2) (j := 0) (by decide +kernel) rfl rfl rfl) ?_
  refine gm_sz (fw_gr (pc := 9) (ix := 34) (ci := 4) (j := 0) (r := 3) (by decide +kernel) (e0k hE (k := 200) (c := 4) (by decide +kernel)) (by decide +kernel) (by decide +kernel) (e0r hE (k := 200) (j := 0) (r := 3) (by decide +kernel))) ?_
  refine gm_sz (fw_gr (pc := 12) (ix := 93) (ci := 1) (j := 8) (r := 246) (by decide +kernel) (e0k hE (k := 3) (c := 1) (by decide +kernel)) (by decide +kernel) (by decide +kernel) hlw) ?_
  refine gm_b_nnul (pc := 15) (off := 6) (k0 := 246) (by decide) (by decide +kernel) (by decide) (fun _ => ?_) (fun h => absurd h (by decide))
  refine gm_sz (gm_p_load (pc := 21) (i := .iload_n 1) (sr := 0) (j := 1) (by decide +kernel) rfl rfl rfl) ?_
  refine gm_sz (gm_p_const (pc := 22) (i := .bipush 99) (v := gm_vi 99) (by decide +kernel) (by decide +kernel)) ?_
  refine gm_sz (gm_p_bin (pc := 24) (i := .imul) (f := fun x y => x * y) (by decide +kernel) rfl) ?_
  refine gm_sz (gm_p_load (pc := 25) (i := .iload_n 2) (sr := 0) (j := 2) (by decide +kernel) rfl rfl rfl) ?_
  refine gm_sz (gm_p_bin (pc := 26) (i := .iadd) (f := fun x y => x + y) (by decide +kernel) rfl) ?_
  refine gm_sz (gm_p_const (pc := 27) (i := .sipush 300) (v := gm_vi 300) (by decide +kernel) (by decide +kernel)) ?_
  refine gm_sz (gm_p_bin (pc := 30) (i := .imul) (f := fun x y => x * y) (by decide +kernel) rfl) ?_
  refine gm_sz (gm_p_load (pc := 31) (i := .iload_n 3) (sr := 0) (j := 3) (by decide +kernel) rfl rfl rfl) ?_
  refine gm_sz (gm_p_bin (pc := 32) (i := .iadd) (f := fun x y => x + y) (by decide +kernel) rfl) ?_
  refine gm_sz (gm_p_stor (pc := 33) (i := .istore 5) (sr := 0) (j := 5) (by decide +kernel) rfl (show 6 ≤ _ from Nat.le_of_ble_eq_true rfl) rfl) ?_
  refine gm_sz (gm_p_load (pc := 35) (i := .aload_n 0) (sr := 2) (j := 0) (by decide +kernel) rfl rfl rfl) ?_
  refine gm_sz (gm_p_load (pc := 36) (i := .iload 5) (sr := 0) (j := 5) (by decide +kernel) rfl rfl rfl) ?_
  refine gm_c_virt (k := 200) (ci := 4) (mj := 37) (ix := 97) (pc := 38) (as := [gm_vi ((((lane * 99) + row) * 300) + year)]) (st := []) (d' := d - 1) (bc' := 0) (bs' := 0) (by decide +kernel) (by decide +kernel) (by decide +kernel) (by decide +kernel) (e0k hE (k := 200) (c := 4) (by decide +kernel)).1 (e0k hE (k := 200) (c := 4) (by decide +kernel)).2 (by decide) (by decide +kernel) (show 1 = gm_na 37 by decide +kernel) (fw_c1 fw_si) (show 2 ≤ gm_ml 37 by decide +kernel) (Nat.le_of_ble_eq_true rfl) (by omega) (Nat.zero_le _) (Nat.zero_le _) ?_
  refine ln_rc (cell := (((lane * 99) + row) * 300) + year) (by omega) hE ⟨by omega, by omega⟩ ⟨by omega, by omega⟩ (fun M37 hf37 h637 hk37 => ?_)
  show gm_Wp X LX d _ _ 35 41 _ [gm_vi 31] n K _ _ Q
  refine gm_sz (gm_p_stor (pc := 41) (i := .istore 6) (sr := 0) (j := 6) (by decide +kernel) rfl (show 7 ≤ _ from Nat.le_of_ble_eq_true rfl) rfl) ?_
  refine gm_sz (gm_p_load (pc := 43) (i := .iload 6) (sr := 0) (j := 6) (by decide +kernel) rfl rfl rfl) ?_
  refine gm_sz (gm_p_const (pc := 45) (i := .bipush 31) (v := gm_vi 31) (by decide +kernel) (by decide +kernel)) ?_
  refine fw_icfd (cc := .ne) (pc := 47) (off := 48) (by decide +kernel) (by decide) ⟨by decide, by decide⟩ ⟨by decide, by decide⟩ (by decide) ?_
  refine gm_sz (gm_p_load (pc := 50) (i := .aload_n 0) (sr := 2) (j := 0) (by decide +kernel) rfl rfl rfl) ?_
  refine gm_sz (gm_p_load (pc := 51) (i := .iload_n 1) (sr := 0) (j := 1) (by decide +kernel) rfl rfl rfl) ?_
  refine gm_sz (gm_p_load (pc := 52) (i := .iload_n 2) (sr := 0) (j := 2) (by decide +kernel) rfl rfl rfl) ?_
  refine gm_sz (gm_p_load (pc := 53) (i := .iload_n 3) (sr := 0) (j := 3) (by decide +kernel) rfl rfl rfl) ?_
  refine gm_sz (gm_p_load (pc := 54) (i := .iload 4) (sr := 0) (j := 4) (by decide +kernel) rfl rfl rfl) ?_
  refine gm_c_virt (k := 200) (ci := 4) (mj := 39) (ix := 101) (pc := 56) (as := [gm_vi lane, gm_vi row, gm_vi year, gm_vi 0]) (st := []) (d' := d - 1) (bc' := 0) (bs' := 0) (by decide +kernel) (by decide +kernel) (by decide +kernel) (by decide +kernel) (e0k hE (k := 200) (c := 4) (by decide +kernel)).1 (e0k hE (k := 200) (c := 4) (by decide +kernel)).2 (by decide) (by decide +kernel) (show 4 = gm_na 39 by decide +kernel) (fw_c4 fw_si fw_si fw_si fw_si) (show 5 ≤ gm_ml 39 by decide +kernel) (Nat.le_of_ble_eq_true rfl) (by omega) (Nat.zero_le _) (Nat.zero_le _) ?_
  refine ln_sfm (by omega) hE (ti_fr (W := [(200, some 6), (205, none)]) hT (fr_t fr_0 hf37 (by decide)) (by decide) (by decide +kernel)) hN hl hy hm ?_
  show gm_Wp X LX d _ _ 35 59 _ [] n K _ _ Q
  refine gm_sz (gm_p_const (pc := 59) (i := .iconst 0) (v := gm_vi 0) (by decide +kernel) (by decide +kernel)) ?_
  refine gm_sz (gm_p_const (pc := 60) (i := .bipush 30) (v := gm_vi 30) (by decide +kernel) (by decide +kernel)) ?_
  refine gm_sz (gm_p_load (pc := 62) (i := .iload 4) (sr := 0) (j := 4) (by decide +kernel) rfl rfl rfl) ?_
  refine gm_sz (gm_p_load (pc := 64) (i := .aload_n 0) (sr := 2) (j := 0) (by decide +kernel) rfl rfl rfl) ?_
  refine gm_sz (fw_gr (pc := 65) (ix := 34) (ci := 4) (j := 0) (r := 3) (by decide +kernel) (e0k hE (k := 200) (c := 4) (by decide +kernel)) (by decide +kernel) (by decide +kernel) (e0r hE (k := 200) (j := 0) (r := 3) (by decide +kernel))) ?_
  refine gm_sz (fw_gr (pc := 68) (ix := 93) (ci := 1) (j := 8) (r := 246) (by decide +kernel) (e0k hE (k := 3) (c := 1) (by decide +kernel)) (by decide +kernel) (by decide +kernel) hlw) ?_
  refine gm_sz (gm_p_load (pc := 71) (i := .aload_n 0) (sr := 2) (j := 0) (by decide +kernel) rfl rfl rfl) ?_
  refine gm_sz (fw_gr (pc := 72) (ix := 23) (ci := 4) (j := 4) (r := 204) (by decide +kernel) (e0k hE (k := 200) (c := 4) (by decide +kernel)) (by decide +kernel) (by decide +kernel) (e0r hE (k := 200) (j := 4) (r := 204) (by decide +kernel))) ?_
  refine gm_c_virt (k := 246) (ci := 10) (mj := 40) (ix := 105) (pc := 75) (as := [gm_vr 204]) (st := [gm_vi 0, gm_vi 30, gm_vi 0]) (d' := d - 1) (bc' := 0) (bs' := 0) (by decide +kernel) (by decide +kernel) (by decide +kernel) (by decide +kernel) (lk6 hL).1 (lk6 hL).2 (by decide) (by decide +kernel) (show 1 = gm_na 40 by decide +kernel) (fw_c1 fw_sr) (show 2 ≤ gm_ml 40 by decide +kernel) (Nat.le_of_ble_eq_true rfl) (by omega) (Nat.zero_le _) (Nat.zero_le _) ?_
  refine fa_c40 (F := (fcts N h lane row year 0 0 0 0)) (C := C) (L := Ln) (m := m) (by omega) hE hL (lb_fr (W := [(200, some 6), (205, none), (204, some 0), (204, some 1), (204, some 2), (204, some 3), (204, some 4), (204, some 5), (204, some 6), (204, some 7), (204, some 8), (204, some 9)]) (fr_p (fr_p (fr_p (fr_p (fr_p (fr_p (fr_p (fr_p (fr_p (fr_p (fr_t fr_0 hf37 (by decide)) (Or.inr (by decide))) (Or.inr (by decide))) (Or.inr (by decide))) (Or.inr (by decide))) (Or.inr (by decide))) (Or.inr (by decide))) (Or.inr (by decide))) (Or.inr (by decide))) (Or.inr (by decide))) (Or.inr (by decide))) (by decide) hB).1 (fun j j0 j1 => ic_fa_s j j0 j1) (lb_fr (W := [(200, some 6), (205, none), (204, some 0), (204, some 1), (204, some 2), (204, some 3), (204, some 4), (204, some 5), (204, some 6), (204, some 7), (204, some 8), (204, some 9)]) (fr_p (fr_p (fr_p (fr_p (fr_p (fr_p (fr_p (fr_p (fr_p (fr_p (fr_t fr_0 hf37 (by decide)) (Or.inr (by decide))) (Or.inr (by decide))) (Or.inr (by decide))) (Or.inr (by decide))) (Or.inr (by decide))) (Or.inr (by decide))) (Or.inr (by decide))) (Or.inr (by decide))) (Or.inr (by decide))) (Or.inr (by decide))) (by decide) hB).2.1 (lb_fr (W := [(200, some 6), (205, none), (204, some 0), (204, some 1), (204, some 2), (204, some 3), (204, some 4), (204, some 5), (204, some 6), (204, some 7), (204, some 8), (204, some 9)]) (fr_p (fr_p (fr_p (fr_p (fr_p (fr_p (fr_p (fr_p (fr_p (fr_p (fr_t fr_0 hf37 (by decide)) (Or.inr (by decide))) (Or.inr (by decide))) (Or.inr (by decide))) (Or.inr (by decide))) (Or.inr (by decide))) (Or.inr (by decide))) (Or.inr (by decide))) (Or.inr (by decide))) (Or.inr (by decide))) (Or.inr (by decide))) (by decide) hB).2.2.1 (lb_fr (W := [(200, some 6), (205, none), (204, some 0), (204, some 1), (204, some 2), (204, some 3), (204, some 4), (204, some 5), (204, some 6), (204, some 7), (204, some 8), (204, some 9)]) (fr_p (fr_p (fr_p (fr_p (fr_p (fr_p (fr_p (fr_p (fr_p (fr_p (fr_t fr_0 hf37 (by decide)) (Or.inr (by decide))) (Or.inr (by decide))) (Or.inr (by decide))) (Or.inr (by decide))) (Or.inr (by decide))) (Or.inr (by decide))) (Or.inr (by decide))) (Or.inr (by decide))) (Or.inr (by decide))) (Or.inr (by decide))) (by decide) hB).2.2.2 ?_
  show gm_Wp X LX d _ _ 35 78 _ [gm_vi (lfas (fcts N h lane row year 0 0 0 0) C Ln m.toNat), gm_vi 0, gm_vi 30, gm_vi 0] n K _ _ Q
  have hl9 := lfas_b (C := C) (F := (fcts N h lane row year 0 0 0 0)) hB9.2 m.toNat (by omega)
  refine gm_sz (gm_p_bin (pc := 78) (i := .iadd) (f := fun x y => x + y) (by decide +kernel) rfl) ?_
  refine gm_sz (gm_p_min (pc := 79) (ix := 109) (x := 30) (y := 0 + (lfas (fcts N h lane row year 0 0 0 0) C Ln m.toNat)) (by decide +kernel) (by decide +kernel) (gm_w_id (by omega) (by omega)) (gm_w_id (by omega) (by omega)) (Nat.le_of_ble_eq_true rfl) (by omega)) ?_
  refine gm_sz (gm_p_max (pc := 82) (ix := 77) (x := 0) (y := min 30 (0 + (lfas (fcts N h lane row year 0 0 0 0) C Ln m.toNat))) (by decide +kernel) (by decide +kernel) (gm_w_id (by omega) (by omega)) (gm_w_id (by omega) (by omega)) (Nat.le_of_ble_eq_true rfl) (by omega)) ?_
  refine gm_sz (gm_p_stor (pc := 85) (i := .istore 6) (sr := 0) (j := 6) (by decide +kernel) rfl (show 7 ≤ _ from Nat.le_of_ble_eq_true rfl) rfl) ?_
  refine gm_sz (gm_p_load (pc := 87) (i := .aload_n 0) (sr := 2) (j := 0) (by decide +kernel) rfl rfl rfl) ?_
  refine gm_sz (gm_p_load (pc := 88) (i := .iload 5) (sr := 0) (j := 5) (by decide +kernel) rfl rfl rfl) ?_
  refine gm_sz (gm_p_load (pc := 90) (i := .iload 6) (sr := 0) (j := 6) (by decide +kernel) rfl rfl rfl) ?_
  refine gm_c_virt (k := 200) (ci := 4) (mj := 42) (ix := 112) (pc := 92) (as := [gm_vi ((((lane * 99) + row) * 300) + year), gm_vi (max 0 (min 30 (0 + (lfas (fcts N h lane row year 0 0 0 0) C Ln m.toNat))))]) (st := []) (d' := d - 1) (bc' := 0) (bs' := 0) (by decide +kernel) (by decide +kernel) (by decide +kernel) (by decide +kernel) (e0k hE (k := 200) (c := 4) (by decide +kernel)).1 (e0k hE (k := 200) (c := 4) (by decide +kernel)).2 (by decide) (by decide +kernel) (show 2 = gm_na 42 by decide +kernel) (fw_c2 fw_si fw_si) (show 3 ≤ gm_ml 42 by decide +kernel) (Nat.le_of_ble_eq_true rfl) (by omega) (Nat.zero_le _) (Nat.zero_le _) ?_
  refine ln_kp (cell := (((lane * 99) + row) * 300) + year) (f := max 0 (min 30 (0 + (lfas (fcts N h lane row year 0 0 0 0) C Ln m.toNat)))) hE ⟨by omega, by omega⟩ ?_
  show gm_Wp X LX d _ _ 35 95 _ [] n K _ _ Q
  refine gm_sz (gm_p_load (pc := 95) (i := .iload 6) (sr := 0) (j := 6) (by decide +kernel) rfl rfl rfl) ?_
  have ke : ∀ c, kv (gm_uM (gm_uM (gm_uM (gm_uM (gm_uM (gm_uM (gm_uM (gm_uM (gm_uM (gm_uM M37 204 0 lane) 204 1 row) 204 2 year) 204 3 (h year)) 204 4 0) 204 5 0) 204 6 0) 204 7 0) 204 8 (if lane = 0 ∨ lane = N 0 - 1 then 1 else 0)) 204 9 (if lane < N 12 then 1 else 0)) c = kv M37 c := kv_e ((uM_ne (by omega)).trans ((uM_ne (by omega)).trans ((uM_ne (by omega)).trans ((uM_ne (by omega)).trans ((uM_ne (by omega)).trans ((uM_ne (by omega)).trans ((uM_ne (by omega)).trans ((uM_ne (by omega)).trans ((uM_ne (by omega)).trans ((uM_ne (by omega)).trans rfl)))))))))) (fun j => ((uM_ne (by omega)).trans ((uM_ne (by omega)).trans ((uM_ne (by omega)).trans ((uM_ne (by omega)).trans ((uM_ne (by omega)).trans ((uM_ne (by omega)).trans ((uM_ne (by omega)).trans ((uM_ne (by omega)).trans ((uM_ne (by omega)).trans ((uM_ne (by omega)).trans rfl)))))))))))
  have kf : KFL N φ (gm_uM (gm_uM (gm_uM (gm_uM (gm_uM (gm_uM (gm_uM (gm_uM (gm_uM (gm_uM M37 204 0 lane) 204 1 row) 204 2 year) 204 3 (h year)) 204 4 0) 204 5 0) 204 6 0) 204 7 0) 204 8 (if lane = 0 ∨ lane = N 0 - 1 then 1 else 0)) 204 9 (if lane < N 12 then 1 else 0)) := by
    refine ⟨?_, fun l r y l0 l1 r0 r1 y0 y1 => ?_⟩
    · rw [show (gm_uM (gm_uM (gm_uM (gm_uM (gm_uM (gm_uM (gm_uM (gm_uM (gm_uM (gm_uM M37 204 0 lane) 204 1 row) 204 2 year) 204 3 (h year)) 204 4 0) 204 5 0) 204 6 0) 204 7 0) 204 8 (if lane = 0 ∨ lane = N 0 - 1 then 1 else 0)) 204 9 (if lane < N 12 then 1 else 0)) 200 6 = 0 from ((uM_ne (by omega)).trans ((uM_ne (by omega)).trans ((uM_ne (by omega)).trans ((uM_ne (by omega)).trans ((uM_ne (by omega)).trans ((uM_ne (by omega)).trans ((uM_ne (by omega)).trans ((uM_ne (by omega)).trans ((uM_ne (by omega)).trans ((uM_ne (by omega)).trans h637))))))))))]
      exact ⟨by decide, by decide⟩
    · rw [ke _, hk37 _ (by omega) (by omega)]
      exact hk l r y l0 l1 r0 r1 y0 y1
  exact gm_r_int (pc := 97) (by decide +kernel) (Or.inl (by decide +kernel)) (hq _ _ (fr_p (fr_p (fr_p (fr_p (fr_p (fr_p (fr_p (fr_p (fr_p (fr_p (fr_t fr_0 hf37 (by decide)) (Or.inl (by decide))) (Or.inl (by decide))) (Or.inl (by decide))) (Or.inl (by decide))) (Or.inl (by decide))) (Or.inl (by decide))) (Or.inl (by decide))) (Or.inl (by decide))) (Or.inl (by decide))) (Or.inl (by decide))) ⟨(lb_fr (W := [(200, some 6), (205, none), (204, some 0), (204, some 1), (204, some 2), (204, some 3), (204, some 4), (204, some 5), (204, some 6), (204, some 7), (204, some 8), (204, some 9)]) (fr_p (fr_p (fr_p (fr_p (fr_p (fr_p (fr_p (fr_p (fr_p (fr_p (fr_t fr_0 hf37 (by decide)) (Or.inr (by decide))) (Or.inr (by decide))) (Or.inr (by decide))) (Or.inr (by decide))) (Or.inr (by decide))) (Or.inr (by decide))) (Or.inr (by decide))) (Or.inr (by decide))) (Or.inr (by decide))) (Or.inr (by decide))) (by decide) hB), kf⟩)
end LN
end
/-! 7c26.sn -/
section
/-! THE TRAVELLERS under a law: steps; FLOWs that are kept stay right. -/
section ST26
variable {X : Int → Int} {LX n n1 n2 : Nat} {K K1 K2 : gm_K} {R R2 : gm_R} {M M1 M2 : gm_M} {N h : Int → Int} {lw : Option (List lln)} {ls : List lln} {φ : Int → Int → Int → Int} {C Ln G : Int → Int} {NC : Nat}
def q35n : ck_Sum := ((12, 0, 0), 249, [.inr (.inr (.inl 200)), .inl ((-1), (-1), []), .inl ((-1), 98, []), .inl ((-1), 299, [])], ([], [(3, 8, 246)], []), ([(200, 6, 6), (204, 0, 9), (205, 0, 14849)], []), [(.inr (some (.inl (0, 30, []))), 249, ([], [], [(200, 6, 6, ck_one 0)]))])
theorem q35n_s (hS : ck_Ok p2_OL X LX 35 q35p) : ck_Ok qL_O X LX 35 q35n := by
  intro d σ vs n K R M hd hn hvs hσ hF hf
  obtain ⟨v0, w0, rfl, g0, v1, w1, rfl, ⟨l, rfl, hl, l0, l1, -⟩, v2, w2, rfl, ⟨r, rfl, hr, r0, r1, -⟩, v3, w3, rfl, ⟨y, rfl, hy, y0, y1, -⟩, g4⟩ := hvs
  have g4 : w3 = [] := g4
  subst g4
  have g0 : v0 = gm_vr 200 := g0
  subst g0
  have l0 : (-1 : Int) ≤ l := l0
  have l1 : l ≤ (-1 : Int) := l1
  have r0 : (-1 : Int) ≤ r := r0
  have r1 : r ≤ (98 : Int) := r1
  have y0 : (-1 : Int) ≤ y := y0
  have y1 : y ≤ (299 : Int) := y1
  have hd : 12 ≤ d := hd
  have hn : n = 249 := hn
  subst hn
  have F0 := qL_p hF
  have h8 : R 3 8 = 246 := (hf.2.1 (3, 8, 246) List.mem_cons_self).2
  have hrow := hS d σ [gm_vr 200, gm_vi l, gm_vi r, gm_vi y] 249 K R M (show 2 ≤ d by omega) rfl ⟨_, _, rfl, rfl, _, _, rfl, ⟨l, rfl, hl, (show (-2147483648 : Int) ≤ l by omega), (show l ≤ (2147483647 : Int) by omega), fun _ h => nomatch h⟩, _, _, rfl, ⟨r, rfl, hr, (show (-2147483648 : Int) ≤ r by omega), (show r ≤ (2147483647 : Int) by omega), fun _ h => nomatch h⟩, _, _, rfl, ⟨y, rfl, hy, (show (-2147483648 : Int) ≤ y by omega), (show y ≤ (2147483647 : Int) by omega), fun _ h => nomatch h⟩, rfl⟩ (fun q hq => hσ q (List.mem_append_left _ hq)) F0 hf
  obtain ⟨hJ, N, ls, hq, hk, hw, hlr⟩ := hF.2.2.2.2
  obtain ⟨NC, C, Ln, hcc, hlb⟩ := qL_cc hF h8 hw hlr
  have hE : E0 249 K R := e0F (pl_o F0)
  have hT := ti_x (cstF (pl_o F0)) hq.2.1
  have hfun : gm_Wp X LX d 0 0 35 0 (gm_ent 35 [gm_vr 200, gm_vi l, gm_vi r, gm_vi y]) [] 249 K R M (fun o n1 K1 R1 M1 => K1 = K ∧ FIC NC C Ln (some ls) N (hts (N 13)) M1) := by
    obtain ⟨h8', hL, -⟩ := hcc.2 ls rfl
    have hl1 : l = -1 := by omega
    by_cases h6 : y = -1
    · refine ic_flm (h := fun y => if y < 0 then 0 else hts (N 13) y) (sp := spd N) hE hL h8' hq.1.1.1 d 0 0 M _ l r y hd hl1 ⟨r0, by omega⟩ h6 (if_pos (by omega)) ⟨hT.1, hT.2.1, fun z z0 z1 => ?_, hT.2.2.2⟩ ⟨hlb, hk⟩ (fun M2 v _ hI => ⟨rfl, fun ls2 e => by cases e; exact hI⟩)
      show M 201 z = (if z < 0 then 0 else hts (N 13) z) ∧ (0 ≤ (if z < 0 then 0 else hts (N 13) z) ∧ (if z < 0 then 0 else hts (N 13) z) ≤ 9) ∧ _
      rw [if_neg (by omega)]
      exact hT.2.2.1 z z0 z1
    · exact ic_fln (sp := spd N) hE hL h8' hq.1.1.1 d 0 0 M _ l r y hd hl1 ⟨r0, by omega⟩ ⟨by omega, by omega⟩ hT ⟨hlb, hk⟩ (fun M2 v _ hI => ⟨rfl, fun ls2 e => by cases e; exact hI⟩)
  refine gm_Wp_mono (fun o n2 K2 R2 M2 hh => ?_) (gm_Wp_and hrow hfun)
  obtain ⟨⟨hF2, hfr, hoc⟩, o3, n3, K3, R3, M3, ⟨rfl, hI⟩, -, hdt⟩ := hh
  have hKK : ∀ k, 1 ≤ k → k ≤ 249 → K3 k = K2 k := fun k _ hk => (hfr.2.1 k hk).symm
  refine ⟨qL_b hF (by decide) hF2 hfr (fun N2 ls2 hq2 hk2 hw2 hlr2 => ?_), hfr, hoc⟩
  have eN : N2 = N := hq2.2.1.1.symm.trans hq.2.1.1
  subst eN
  have ea : aphx (some ls2) N2 (hts (N2 13)) = aphx (some ls) N2 (hts (N2 13)) := aphx_u hlr2 hlr
  have e1 : ∀ k j, k ≤ 249 → ¬ (k = 200 ∨ k = 204 ∨ k = 205) → M2 k j = M k j := fun k j hk h => hfr.2.2.1 k j hk (fun w hw hh => by
    have := of_decide_eq_true (List.all_eq_true.mp (show q35p.2.2.2.2.1.1.all (fun w => decide (w.1 = 200 ∨ w.1 = 204 ∨ w.1 = 205)) = true by decide) w hw)
    omega)
  refine ⟨?_, ?_⟩
  · rw [e1 1 15 (by decide) (by decide)]
    refine hq2.2.2.imp_right fun hh => ⟨hh.1, ends_x hh.2 (fun k j hk => e1 k j (by omega) (by omega))⟩
  · rw [ea]
    exact kfl_dt (dt_sym hdt) (by decide) hKK (pl_o hF2) (hI ls rfl).2
def q43n (c : Nat) : ck_Sum := ((1, 0, 0), 249, [.inr (.inr (.inl c))], ([], [], [(c, 5, 5, (-1, 128, [])), (c, 7, 7, (0, 299, []))]), ([(c, 5, 5), (c, 8, 8)], []), [(.inr none, 249, ([], [], [(c, 5, 5, (-1, 300, []))]))])
theorem nfl_300n (hN : NR N) {y wo r : Int} (hr : -1 ≤ r ∧ r ≤ 128) : -1 ≤ nfl N y wo (N 5).toNat r ∧ nfl N y wo (N 5).toNat r ≤ 300 := by
  have h5 := hN.2.1.2.1
  have := nfl_b (N := N) (y := y) (wo := wo) (r := r) (fun f f0 f1 => (hN.2.2.1 f f0 f1).2.2) (N 5).toNat (by omega)
  omega
theorem q43n_206 (hS : ck_Ok p2_OL X LX 43 (q43p 206)) : ck_Ok qL_O X LX 43 (q43n 206) := by
  intro d σ vs n K R M hd hn hvs hσ hF hf
  obtain ⟨v0, w0, rfl, g0, g4⟩ := hvs
  have g4 : w0 = [] := g4
  subst g4
  have g0 : v0 = gm_vr 206 := g0
  subst g0
  have hn : n = 249 := hn
  subst hn
  have F0 := pl_o (qL_p hF)
  have hrow := hS d σ [gm_vr 206] 249 K R M hd rfl ⟨_, _, rfl, rfl, rfl⟩ (fun q hq => hσ q (List.mem_append_left _ hq)) (qL_p hF) ⟨(fun _ h => nomatch h), (fun _ h => nomatch h), (fun _ h => nomatch h)⟩
  have f4 := ((gm_tyr_s F0 (show gm_tyr p2_O 206 4 4 = some (-1, 7) by decide +kernel)).2 4 (Int.le_refl _) (Int.le_refl _)).1
  have f5 := (hf.2.2 (206, 5, 5, (-1, 128, [])) List.mem_cons_self).2 5 (Int.le_refl _) (Int.le_refl _)
  have f7 := (hf.2.2 (206, 7, 7, (0, 299, [])) (List.mem_cons_of_mem _ List.mem_cons_self)).2 7 (Int.le_refl _) (Int.le_refl _)
  have a5 : -1 ≤ M 206 5 ∧ M 206 5 ≤ 128 := ⟨f5.2.1, f5.2.2.1⟩
  have a7 : 0 ≤ M 206 7 ∧ M 206 7 ≤ 299 := ⟨f7.2.1, f7.2.2.1⟩
  have hq : ∃ N ls, qC (some ls) N M := by
    obtain ⟨hJ, N, ls, hq, -⟩ := hF.2.2.2.2
    exact ⟨N, ls, hq⟩
  obtain ⟨N, ls, hq⟩ := hq
  have hfun := wy_c43_206 (X := X) (LX := LX) (bc := 0) (bs := 0) (Q := fun o n1 K1 R1 M1 => K1 = K ∧ -1 ≤ M1 206 5 ∧ M1 206 5 ≤ 300) (wo := M 206 4) (y := M 206 7) (r0 := M 206 5) hd (e0F F0) (ti_x (cstF F0) hq.2.1) hq.1.1.1 rfl rfl rfl ⟨a7.1, by omega⟩ f4 ⟨by omega, by omega⟩ (fun M2 hfr h5 => ⟨rfl, by rw [h5]; exact nfl_300n hq.1.1.1 a5⟩)
  refine gm_Wp_mono (fun o n2 K2 R2 M2 hh => ?_) (gm_Wp_and hrow hfun)
  obtain ⟨⟨hF2, hfr, oc, hoc, ho, hn2, -⟩, o3, n3, K3, R3, M3, ⟨rfl, hI⟩, -, hdt⟩ := hh
  have hKK : ∀ k, 1 ≤ k → k ≤ 249 → K3 k = K2 k := fun k _ hk => (hfr.2.1 k hk).symm
  have e1 : ∀ k j, k ≤ 249 → ¬ k = 206 → M2 k j = M k j := fun k j hk h => hfr.2.2.1 k j hk (fun w hw hh => by
    have := of_decide_eq_true (List.all_eq_true.mp (show (q43p 206).2.2.2.2.1.1.all (fun w => decide (w.1 = 206)) = true by decide) w hw)
    omega)
  have e5 : M2 206 5 = gm_w (M3 206 5) := dw_f (dt_sym hdt) (by decide) hKK (pl_o hF2) (show tyF 206 5 5 = true by decide +kernel)
  rw [dw_i ⟨by omega, by omega⟩] at e5
  have ho2 : oc = (.inr none, 249, ([], [], [])) := List.mem_singleton.mp hoc
  subst ho2
  refine ⟨qL_b hF (by decide) hF2 hfr (fun N2 ls2 hq2 hk2 hw2 hlr2 => ⟨?_, ?_⟩), hfr, _, List.mem_cons_self, ho, hn2, (fun _ h => nomatch h), (fun _ h => nomatch h), fun q hq9 => ?_⟩
  · rw [e1 1 15 (by decide) (by decide)]
    exact hq2.2.2.imp_right fun hh => ⟨hh.1, ends_x hh.2 (fun k j hk => e1 k j (by omega) (by omega))⟩
  · exact kfl_b hk2 ⟨by have := hq2.1.1.1.1.1; omega, by have := hq2.1.1.1.1.2.1; omega⟩ (e1 200 6 (by decide) (by decide)) (fun j _ _ => e1 205 j (by decide) (by decide))
  · rw [List.mem_singleton.mp hq9]
    refine ⟨show 206 ≤ n2 by have := hfr.1; omega, fun j j1 j2 => ?_⟩
    have ej : j = 5 := Int.le_antisymm j2 j1
    subst ej
    show gm_ir (M2 206 5) ∧ ck_gi σ (-1, 300, []) (M2 206 5)
    rw [e5]
    exact ⟨⟨by omega, by omega⟩, hI.1, hI.2, fun _ h => nomatch h⟩
theorem q43n_207 (hS : ck_Ok p2_OL X LX 43 (q43p 207)) : ck_Ok qL_O X LX 43 (q43n 207) := by
  intro d σ vs n K R M hd hn hvs hσ hF hf
  obtain ⟨v0, w0, rfl, g0, g4⟩ := hvs
  have g4 : w0 = [] := g4
  subst g4
  have g0 : v0 = gm_vr 207 := g0
  subst g0
  have hn : n = 249 := hn
  subst hn
  have F0 := pl_o (qL_p hF)
  have hrow := hS d σ [gm_vr 207] 249 K R M hd rfl ⟨_, _, rfl, rfl, rfl⟩ (fun q hq => hσ q (List.mem_append_left _ hq)) (qL_p hF) ⟨(fun _ h => nomatch h), (fun _ h => nomatch h), (fun _ h => nomatch h)⟩
  have f4 := ((gm_tyr_s F0 (show gm_tyr p2_O 207 4 4 = some (-1, -1) by decide +kernel)).2 4 (Int.le_refl _) (Int.le_refl _)).1
  have f5 := (hf.2.2 (207, 5, 5, (-1, 128, [])) List.mem_cons_self).2 5 (Int.le_refl _) (Int.le_refl _)
  have f7 := (hf.2.2 (207, 7, 7, (0, 299, [])) (List.mem_cons_of_mem _ List.mem_cons_self)).2 7 (Int.le_refl _) (Int.le_refl _)
  have a5 : -1 ≤ M 207 5 ∧ M 207 5 ≤ 128 := ⟨f5.2.1, f5.2.2.1⟩
  have a7 : 0 ≤ M 207 7 ∧ M 207 7 ≤ 299 := ⟨f7.2.1, f7.2.2.1⟩
  have hq : ∃ N ls, qC (some ls) N M := by
    obtain ⟨hJ, N, ls, hq, -⟩ := hF.2.2.2.2
    exact ⟨N, ls, hq⟩
  obtain ⟨N, ls, hq⟩ := hq
  have hfun := wy_c43_207 (X := X) (LX := LX) (bc := 0) (bs := 0) (Q := fun o n1 K1 R1 M1 => K1 = K ∧ -1 ≤ M1 207 5 ∧ M1 207 5 ≤ 300) (wo := M 207 4) (y := M 207 7) (r0 := M 207 5) hd (e0F F0) (ti_x (cstF F0) hq.2.1) hq.1.1.1 rfl rfl rfl ⟨a7.1, by omega⟩ f4 ⟨by omega, by omega⟩ (fun M2 hfr h5 => ⟨rfl, by rw [h5]; exact nfl_300n hq.1.1.1 a5⟩)
  refine gm_Wp_mono (fun o n2 K2 R2 M2 hh => ?_) (gm_Wp_and hrow hfun)
  obtain ⟨⟨hF2, hfr, oc, hoc, ho, hn2, -⟩, o3, n3, K3, R3, M3, ⟨rfl, hI⟩, -, hdt⟩ := hh
  have hKK : ∀ k, 1 ≤ k → k ≤ 249 → K3 k = K2 k := fun k _ hk => (hfr.2.1 k hk).symm
  have e1 : ∀ k j, k ≤ 249 → ¬ k = 207 → M2 k j = M k j := fun k j hk h => hfr.2.2.1 k j hk (fun w hw hh => by
    have := of_decide_eq_true (List.all_eq_true.mp (show (q43p 207).2.2.2.2.1.1.all (fun w => decide (w.1 = 207)) = true by decide) w hw)
    omega)
  have e5 : M2 207 5 = gm_w (M3 207 5) := dw_f (dt_sym hdt) (by decide) hKK (pl_o hF2) (show tyF 207 5 5 = true by decide +kernel)
  rw [dw_i ⟨by omega, by omega⟩] at e5
  have ho2 : oc = (.inr none, 249, ([], [], [])) := List.mem_singleton.mp hoc
  subst ho2
  refine ⟨qL_b hF (by decide) hF2 hfr (fun N2 ls2 hq2 hk2 hw2 hlr2 => ⟨?_, ?_⟩), hfr, _, List.mem_cons_self, ho, hn2, (fun _ h => nomatch h), (fun _ h => nomatch h), fun q hq9 => ?_⟩
  · rw [e1 1 15 (by decide) (by decide)]
    exact hq2.2.2.imp_right fun hh => ⟨hh.1, ends_x hh.2 (fun k j hk => e1 k j (by omega) (by omega))⟩
  · exact kfl_b hk2 ⟨by have := hq2.1.1.1.1.1; omega, by have := hq2.1.1.1.1.2.1; omega⟩ (e1 200 6 (by decide) (by decide)) (fun j _ _ => e1 205 j (by decide) (by decide))
  · rw [List.mem_singleton.mp hq9]
    refine ⟨show 207 ≤ n2 by have := hfr.1; omega, fun j j1 j2 => ?_⟩
    have ej : j = 5 := Int.le_antisymm j2 j1
    subst ej
    show gm_ir (M2 207 5) ∧ ck_gi σ (-1, 300, []) (M2 207 5)
    rw [e5]
    exact ⟨⟨by omega, by omega⟩, hI.1, hI.2, fun _ h => nomatch h⟩
def q44m : ck_Sum := ((0, 0, 0), 249, [.inr (.inr (.inl 200)), .inl ((-1), (-1), [])], ([], [], []), ([], []), [(.inr (some (.inl (ck_one 0))), 249, ([], [], []))])
theorem q44m_s : ck_Ok qL_O X LX 44 q44m := ck_ok_s (O := qL_O) (X := X) (LX := LX) (E := []) (mi := 44) (cuts := []) (f := 60) (S := q44m) (lx := none) (XF := []) ⟨qL_nmu, ck_E0⟩ ck_X0 ck_l0 (by decide +kernel)
def q43m_206 : ck_Sum := ((1, 0, 0), 249, [.inr (.inr (.inl 206))], ([], [], [(206, 5, 5, ((-1), 128, [])), (206, 7, 7, ((-1), (-1), []))]), ([(206, 5, 5), (206, 8, 8)], []), [(.inr none, 249, ([], [], [(206, 5, 5, ((-1), 300, []))]))])
theorem q43m_206_s : ck_Ok qL_O X LX 43 q43m_206 := ck_ok_s (O := qL_O) (X := X) (LX := LX) (E := [(44, [q44m])]) (mi := 43) (cuts := []) (f := 120) (S := q43m_206) (lx := none) (XF := []) ⟨qL_nmu, ck_E1 (ck_S1 q44m_s ck_S0) ck_E0⟩ ck_X0 ck_l0 (by decide +kernel)
def q31n_206 : ck_Sum := ((0, 0, 0), 249, [.inr (.inr (.inl 206))], ([], [], [(206, 5, 5, ((-1), 300, []))]), ([], []), [(.inr (some (.inl (ck_one 0))), 249, ([], [], [(206, 5, 5, ((-1), 98, []))])), (.inr (some (.inl (ck_one 1))), 249, ([], [], [(206, 5, 5, ((-1), 300, []))]))])
theorem q31n_206_s : ck_Ok qL_O X LX 31 q31n_206 := ck_ok_s (O := qL_O) (X := X) (LX := LX) (E := []) (mi := 31) (cuts := []) (f := 100) (S := q31n_206) (lx := none) (XF := []) ⟨qL_nmu, ck_E0⟩ ck_X0 ck_l0 (by decide +kernel)
def q32n_206 : ck_Sum := ((13, 0, 0), 249, [.inr (.inr (.inl 206))], ([], [(3, 8, 246)], [(206, 2, 2, ((-1), (-1), [])), (206, 5, 5, ((-1), 300, [])), (206, 7, 7, (0, 299, [(28, 0)]))]), ([(200, 6, 6), (204, 0, 9), (205, 0, 14849), (206, 5, 8)], []), [(.inr none, 249, ([], [], [(206, 5, 5, ((-1), 300, [])), (206, 7, 7, (1, 300, [(28, 1)]))]))])
set_option maxRecDepth 100000 in
theorem q32n_206_e : ck_ok qL_O none [] [(31, [q31n_206]), (33, [q33_206]), (35, [q35n]), (43, [q43n 206])] 32 [] 200 q32n_206 = true := by decide +kernel
theorem q32n_206_s (h33 : ck_Ok qL_O X LX 33 q33_206) (h35 : ck_Ok qL_O X LX 35 q35n) (h43 : ck_Ok qL_O X LX 43 (q43n 206)) : ck_Ok qL_O X LX 32 q32n_206 := ck_ok_s ⟨qL_nmu, ck_E1 (ck_S1 q31n_206_s ck_S0) (ck_E1 (ck_S1 h33 ck_S0) (ck_E1 (ck_S1 h35 ck_S0) (ck_E1 (ck_S1 h43 ck_S0) ck_E0)))⟩ ck_X0 ck_l0 q32n_206_e
def q32m_206 : ck_Sum := ((13, 0, 0), 249, [.inr (.inr (.inl 206))], ([], [(3, 8, 246)], [(206, 2, 2, ((-1), (-1), [])), (206, 5, 5, ((-1), 300, [])), (206, 7, 7, ((-1), (-1), []))]), ([(200, 6, 6), (204, 0, 9), (205, 0, 14849), (206, 5, 8)], []), [(.inr none, 249, ([], [], [(206, 5, 5, ((-1), 300, [])), (206, 7, 7, (0, 0, []))]))])
set_option maxRecDepth 100000 in
theorem q32m_206_e : ck_ok qL_O none [] [(31, [q31n_206]), (33, [q33_206]), (35, [q35n]), (43, [q43m_206])] 32 [] 200 q32m_206 = true := by decide +kernel
theorem q32m_206_s (h33 : ck_Ok qL_O X LX 33 q33_206) (h35 : ck_Ok qL_O X LX 35 q35n) (h43 : ck_Ok qL_O X LX 43 (q43m_206)) : ck_Ok qL_O X LX 32 q32m_206 := ck_ok_s ⟨qL_nmu, ck_E1 (ck_S1 q31n_206_s ck_S0) (ck_E1 (ck_S1 h33 ck_S0) (ck_E1 (ck_S1 h35 ck_S0) (ck_E1 (ck_S1 h43 ck_S0) ck_E0)))⟩ ck_X0 ck_l0 q32m_206_e
def q43m_207 : ck_Sum := ((1, 0, 0), 249, [.inr (.inr (.inl 207))], ([], [], [(207, 5, 5, ((-1), 128, [])), (207, 7, 7, ((-1), (-1), []))]), ([(207, 5, 5), (207, 8, 8)], []), [(.inr none, 249, ([], [], [(207, 5, 5, ((-1), 300, []))]))])
theorem q43m_207_s : ck_Ok qL_O X LX 43 q43m_207 := ck_ok_s (O := qL_O) (X := X) (LX := LX) (E := [(44, [q44m])]) (mi := 43) (cuts := []) (f := 120) (S := q43m_207) (lx := none) (XF := []) ⟨qL_nmu, ck_E1 (ck_S1 q44m_s ck_S0) ck_E0⟩ ck_X0 ck_l0 (by decide +kernel)
def q31n_207 : ck_Sum := ((0, 0, 0), 249, [.inr (.inr (.inl 207))], ([], [], [(207, 5, 5, ((-1), 300, []))]), ([], []), [(.inr (some (.inl (ck_one 0))), 249, ([], [], [(207, 5, 5, ((-1), 98, []))])), (.inr (some (.inl (ck_one 1))), 249, ([], [], [(207, 5, 5, ((-1), 300, []))]))])
theorem q31n_207_s : ck_Ok qL_O X LX 31 q31n_207 := ck_ok_s (O := qL_O) (X := X) (LX := LX) (E := []) (mi := 31) (cuts := []) (f := 100) (S := q31n_207) (lx := none) (XF := []) ⟨qL_nmu, ck_E0⟩ ck_X0 ck_l0 (by decide +kernel)
def q32n_207 : ck_Sum := ((13, 0, 0), 249, [.inr (.inr (.inl 207))], ([], [(3, 8, 246)], [(207, 2, 2, ((-1), (-1), [])), (207, 5, 5, ((-1), 300, [])), (207, 7, 7, (0, 299, [(29, 0)]))]), ([(200, 6, 6), (204, 0, 9), (205, 0, 14849), (207, 5, 8)], []), [(.inr none, 249, ([], [], [(207, 5, 5, ((-1), 300, [])), (207, 7, 7, (1, 300, [(29, 1)]))]))])
set_option maxRecDepth 100000 in
theorem q32n_207_e : ck_ok qL_O none [] [(31, [q31n_207]), (33, [q33_207]), (35, [q35n]), (43, [q43n 207])] 32 [] 200 q32n_207 = true := by decide +kernel
theorem q32n_207_s (h33 : ck_Ok qL_O X LX 33 q33_207) (h35 : ck_Ok qL_O X LX 35 q35n) (h43 : ck_Ok qL_O X LX 43 (q43n 207)) : ck_Ok qL_O X LX 32 q32n_207 := ck_ok_s ⟨qL_nmu, ck_E1 (ck_S1 q31n_207_s ck_S0) (ck_E1 (ck_S1 h33 ck_S0) (ck_E1 (ck_S1 h35 ck_S0) (ck_E1 (ck_S1 h43 ck_S0) ck_E0)))⟩ ck_X0 ck_l0 q32n_207_e
def q32m_207 : ck_Sum := ((13, 0, 0), 249, [.inr (.inr (.inl 207))], ([], [(3, 8, 246)], [(207, 2, 2, ((-1), (-1), [])), (207, 5, 5, ((-1), 300, [])), (207, 7, 7, ((-1), (-1), []))]), ([(200, 6, 6), (204, 0, 9), (205, 0, 14849), (207, 5, 8)], []), [(.inr none, 249, ([], [], [(207, 5, 5, ((-1), 300, [])), (207, 7, 7, (0, 0, []))]))])
set_option maxRecDepth 100000 in
theorem q32m_207_e : ck_ok qL_O none [] [(31, [q31n_207]), (33, [q33_207]), (35, [q35n]), (43, [q43m_207])] 32 [] 200 q32m_207 = true := by decide +kernel
theorem q32m_207_s (h33 : ck_Ok qL_O X LX 33 q33_207) (h35 : ck_Ok qL_O X LX 35 q35n) (h43 : ck_Ok qL_O X LX 43 (q43m_207)) : ck_Ok qL_O X LX 32 q32m_207 := ck_ok_s ⟨qL_nmu, ck_E1 (ck_S1 q31n_207_s ck_S0) (ck_E1 (ck_S1 h33 ck_S0) (ck_E1 (ck_S1 h35 ck_S0) (ck_E1 (ck_S1 h43 ck_S0) ck_E0)))⟩ ck_X0 ck_l0 q32m_207_e
end ST26
end
/-! 7c27.ru -/
section
/-! RUNS of the travellers under a law: FLOWs that are kept stay right. -/
section RU27
variable {X : Int → Int} {LX d : Nat} {K K0 : gm_K} {R R0 : gm_R} {M M0 : gm_M} {Q : gm_Q} {i last : Int}
/-- where a traveller stands: a LANE, a ROW, a YEAR that may be, or none -/
def SPc (c : Nat) (i : Int) (M : gm_M) : Prop := (((0 ≤ M c 2 ∧ M c 2 ≤ 6) ∧ 0 ≤ M c 5 ∧ 0 ≤ i) ∨ (M c 2 = -1 ∧ -1 ≤ M c 5 ∧ -1 ≤ i)) ∧ M c 5 ≤ 300 ∧ M c 7 = i
theorem spc_b {c : Nat} (h : SPc c i M) : (-1 ≤ M c 5 ∧ M c 5 ≤ 300) ∧ -1 ≤ i := by unfold SPc at h; omega
theorem q31_206_c (hF : gm_Fx qL_O 249 K R M) (h5 : -1 ≤ M 206 5 ∧ M 206 5 ≤ 300) (q : ∀ v K2 R2 M2, v = 0 ∨ v = 1 → gm_Fx qL_O 249 K2 R2 M2 → ck_fr ([], []) 249 K R M 249 K2 R2 M2 → Q (.inl (some (gm_vi v))) 249 K2 R2 M2) : gm_Wp X LX d 0 0 31 0 (gm_ent 31 [gm_vr 206]) [] 249 K R M Q := by
  have hσ := ck_sn_s (σ := fun _ => 0) (M := M) qL_nmu
  refine gm_Wp_mono (fun o n' K' R' M' hq => ?_) (q31n_206_s d (ck_sn qL_O (fun _ => 0) M) [gm_vr 206] 249 K R M (Nat.zero_le _) rfl ⟨_, _, rfl, rfl, rfl⟩ hσ hF ⟨(fun _ h => nomatch h), (fun _ h => nomatch h), fun q hq => ?_⟩)
  · obtain ⟨hF2, hfr, oc, hoc, ho, hn, -⟩ := hq
    have hoc : oc ∈ [_, _] := hoc
    simp only [List.mem_cons, List.not_mem_nil, or_false] at hoc
    rcases hoc with rfl | rfl
    · have hn : n' = 249 := hn
      subst hn
      rcases o with (_ | v) | x
      · exact absurd ho id
      · obtain ⟨y, rfl, -, y0, y1, -⟩ := ho
        exact q y _ _ _ (Or.inl (Int.le_antisymm y1 y0)) hF2 hfr
      · exact absurd ho id
    · have hn : n' = 249 := hn
      subst hn
      rcases o with (_ | v) | x
      · exact absurd ho id
      · obtain ⟨y, rfl, -, y0, y1, -⟩ := ho
        exact q y _ _ _ (Or.inr (Int.le_antisymm y1 y0)) hF2 hfr
      · exact absurd ho id
  · rw [List.mem_singleton.mp hq]
    refine ⟨by show 206 ≤ 249; decide, fun j j1 j2 => ?_⟩
    have ej : j = 5 := Int.le_antisymm j2 j1
    subst ej
    exact ⟨(show gm_ir (M 206 5) from ⟨by omega, by omega⟩), h5.1, h5.2, fun _ h => nomatch h⟩
def q32_206_W : List (Nat × Int × Int) × List (Nat × Int) := ([(200, 6, 6), (204, 0, 9), (205, 0, 14849), (206, 5, 8)], [])
theorem q32a_206_c (hS : ck_Ok qL_O X LX 32 q32_206) (hd : 13 ≤ d) (hF : gm_Fx qL_O 249 K R M) (h8 : R 3 8 = 246) (s2 : 0 ≤ M 206 2 ∧ M 206 2 ≤ 6) (s5 : 0 ≤ M 206 5 ∧ M 206 5 ≤ 300) (s7 : M 206 7 = i) (hi : 0 ≤ i ∧ i ≤ 299) (q : ∀ K2 R2 M2, gm_Fx qL_O 249 K2 R2 M2 → ck_fr q32_206_W 249 K R M 249 K2 R2 M2 → M2 206 2 = M 206 2 → (0 ≤ M2 206 5 ∧ M2 206 5 ≤ 300) → M2 206 7 = i + 1 → Q (.inl none) 249 K2 R2 M2) : gm_Wp X LX d 0 0 32 0 (gm_ent 32 [gm_vr 206]) [] 249 K R M Q := by
  have hσ := ck_sn_s (σ := fun _ => 0) (M := M) qL_nmu
  have hnm : ck_sn qL_O (fun _ => 0) M 28 = M 206 7 := hσ (28, 206, 7) (by decide)
  refine gm_Wp_mono (fun o n' K' R' M' hq => ?_) (hS d (ck_sn qL_O (fun _ => 0) M) [gm_vr 206] 249 K R M hd rfl ⟨_, _, rfl, rfl, rfl⟩ hσ hF ⟨(fun _ h => nomatch h), fun q hq => ?_, fun q hq => ?_⟩)
  · obtain ⟨hF2, hfr, oc, hoc, ho, hn, hf⟩ := hq
    have hoc := List.mem_singleton.mp hoc
    subst hoc
    have hn : n' = 249 := hn
    subst hn
    rcases o with (_ | v) | x
    · have f5 := ((hf.2.2 (206, 5, 5, (0, 300, [])) List.mem_cons_self).2 5 (Int.le_refl _) (Int.le_refl _)).2
      have f7 := ((hf.2.2 (206, 7, 7, (1, 300, [(28, 1)])) (List.mem_cons_of_mem _ List.mem_cons_self)).2 7 (Int.le_refl _) (Int.le_refl _)).2.2.2
      have e7 : M' 206 7 = ck_sn qL_O (fun _ => 0) M 28 + 1 := (f7 (28, 1) List.mem_cons_self).1 (by decide)
      have e2 : M' 206 2 = M 206 2 := hfr.2.2.1 206 2 (by decide) (fun w hw hh => absurd hh (of_decide_eq_true (List.all_eq_true.mp (show q32_206_W.1.all (fun w => decide (¬ (w.1 = 206 ∧ w.2.1 ≤ 2 ∧ 2 ≤ w.2.2))) = true by decide) w hw)))
      exact q _ _ _ hF2 hfr e2 ⟨f5.1, f5.2.1⟩ (by rw [e7, hnm, s7])
    · exact absurd ho id
    · exact absurd ho id
  · rw [List.mem_singleton.mp hq]
    exact ⟨by show 3 ≤ 249; decide, h8⟩
  · simp only [List.mem_cons, List.not_mem_nil, or_false, q32_206] at hq
    rcases hq with rfl | rfl | rfl
    · refine ⟨by show 206 ≤ 249; decide, fun j j1 j2 => ?_⟩
      have ej : j = 2 := Int.le_antisymm j2 j1
      subst ej
      exact ⟨(show gm_ir (M 206 2) from ⟨by omega, by omega⟩), s2.1, s2.2, fun _ h => nomatch h⟩
    · refine ⟨by show 206 ≤ 249; decide, fun j j1 j2 => ?_⟩
      have ej : j = 5 := Int.le_antisymm j2 j1
      subst ej
      exact ⟨(show gm_ir (M 206 5) from ⟨by omega, by omega⟩), s5.1, s5.2, fun _ h => nomatch h⟩
    · refine ⟨by show 206 ≤ 249; decide, fun j j1 j2 => ?_⟩
      have ej : j = 7 := Int.le_antisymm j2 j1
      subst ej
      exact ⟨(show gm_ir (M 206 7) from ⟨by omega, by omega⟩), (show 0 ≤ M 206 7 by omega), (show M 206 7 ≤ 299 by omega), ck_gt1 (s := 28) (z := 0) (by decide) (by rw [hnm, Int.add_zero])⟩
theorem q32b_206_c (hS : ck_Ok qL_O X LX 32 q32n_206) (hd : 13 ≤ d) (hF : gm_Fx qL_O 249 K R M) (h8 : R 3 8 = 246) (s2 : -1 ≤ M 206 2 ∧ M 206 2 ≤ -1) (s5 : -1 ≤ M 206 5 ∧ M 206 5 ≤ 300) (s7 : M 206 7 = i) (hi : 0 ≤ i ∧ i ≤ 299) (q : ∀ K2 R2 M2, gm_Fx qL_O 249 K2 R2 M2 → ck_fr q32_206_W 249 K R M 249 K2 R2 M2 → M2 206 2 = M 206 2 → (-1 ≤ M2 206 5 ∧ M2 206 5 ≤ 300) → M2 206 7 = i + 1 → Q (.inl none) 249 K2 R2 M2) : gm_Wp X LX d 0 0 32 0 (gm_ent 32 [gm_vr 206]) [] 249 K R M Q := by
  have hσ := ck_sn_s (σ := fun _ => 0) (M := M) qL_nmu
  have hnm : ck_sn qL_O (fun _ => 0) M 28 = M 206 7 := hσ (28, 206, 7) (by decide)
  refine gm_Wp_mono (fun o n' K' R' M' hq => ?_) (hS d (ck_sn qL_O (fun _ => 0) M) [gm_vr 206] 249 K R M hd rfl ⟨_, _, rfl, rfl, rfl⟩ hσ hF ⟨(fun _ h => nomatch h), fun q hq => ?_, fun q hq => ?_⟩)
  · obtain ⟨hF2, hfr, oc, hoc, ho, hn, hf⟩ := hq
    have hoc := List.mem_singleton.mp hoc
    subst hoc
    have hn : n' = 249 := hn
    subst hn
    rcases o with (_ | v) | x
    · have f5 := ((hf.2.2 (206, 5, 5, ((-1), 300, [])) List.mem_cons_self).2 5 (Int.le_refl _) (Int.le_refl _)).2
      have f7 := ((hf.2.2 (206, 7, 7, (1, 300, [(28, 1)])) (List.mem_cons_of_mem _ List.mem_cons_self)).2 7 (Int.le_refl _) (Int.le_refl _)).2.2.2
      have e7 : M' 206 7 = ck_sn qL_O (fun _ => 0) M 28 + 1 := (f7 (28, 1) List.mem_cons_self).1 (by decide)
      have e2 : M' 206 2 = M 206 2 := hfr.2.2.1 206 2 (by decide) (fun w hw hh => absurd hh (of_decide_eq_true (List.all_eq_true.mp (show q32_206_W.1.all (fun w => decide (¬ (w.1 = 206 ∧ w.2.1 ≤ 2 ∧ 2 ≤ w.2.2))) = true by decide) w hw)))
      exact q _ _ _ hF2 hfr e2 ⟨f5.1, f5.2.1⟩ (by rw [e7, hnm, s7])
    · exact absurd ho id
    · exact absurd ho id
  · rw [List.mem_singleton.mp hq]
    exact ⟨by show 3 ≤ 249; decide, h8⟩
  · simp only [List.mem_cons, List.not_mem_nil, or_false, q32n_206] at hq
    rcases hq with rfl | rfl | rfl
    · refine ⟨by show 206 ≤ 249; decide, fun j j1 j2 => ?_⟩
      have ej : j = 2 := Int.le_antisymm j2 j1
      subst ej
      exact ⟨(show gm_ir (M 206 2) from ⟨by omega, by omega⟩), s2.1, s2.2, fun _ h => nomatch h⟩
    · refine ⟨by show 206 ≤ 249; decide, fun j j1 j2 => ?_⟩
      have ej : j = 5 := Int.le_antisymm j2 j1
      subst ej
      exact ⟨(show gm_ir (M 206 5) from ⟨by omega, by omega⟩), s5.1, s5.2, fun _ h => nomatch h⟩
    · refine ⟨by show 206 ≤ 249; decide, fun j j1 j2 => ?_⟩
      have ej : j = 7 := Int.le_antisymm j2 j1
      subst ej
      exact ⟨(show gm_ir (M 206 7) from ⟨by omega, by omega⟩), (show 0 ≤ M 206 7 by omega), (show M 206 7 ≤ 299 by omega), ck_gt1 (s := 28) (z := 0) (by decide) (by rw [hnm, Int.add_zero])⟩
theorem q32d_206_c (hS : ck_Ok qL_O X LX 32 q32m_206) (hd : 13 ≤ d) (hF : gm_Fx qL_O 249 K R M) (h8 : R 3 8 = 246) (s2 : -1 ≤ M 206 2 ∧ M 206 2 ≤ -1) (s5 : -1 ≤ M 206 5 ∧ M 206 5 ≤ 300) (s7 : M 206 7 = i) (hi : -1 ≤ i ∧ i ≤ -1) (q : ∀ K2 R2 M2, gm_Fx qL_O 249 K2 R2 M2 → ck_fr q32_206_W 249 K R M 249 K2 R2 M2 → M2 206 2 = M 206 2 → (-1 ≤ M2 206 5 ∧ M2 206 5 ≤ 300) → M2 206 7 = i + 1 → Q (.inl none) 249 K2 R2 M2) : gm_Wp X LX d 0 0 32 0 (gm_ent 32 [gm_vr 206]) [] 249 K R M Q := by
  have hσ := ck_sn_s (σ := fun _ => 0) (M := M) qL_nmu
  refine gm_Wp_mono (fun o n' K' R' M' hq => ?_) (hS d (ck_sn qL_O (fun _ => 0) M) [gm_vr 206] 249 K R M hd rfl ⟨_, _, rfl, rfl, rfl⟩ hσ hF ⟨(fun _ h => nomatch h), fun q hq => ?_, fun q hq => ?_⟩)
  · obtain ⟨hF2, hfr, oc, hoc, ho, hn, hf⟩ := hq
    have hoc := List.mem_singleton.mp hoc
    subst hoc
    have hn : n' = 249 := hn
    subst hn
    rcases o with (_ | v) | x
    · have f5 := ((hf.2.2 (206, 5, 5, ((-1), 300, [])) List.mem_cons_self).2 5 (Int.le_refl _) (Int.le_refl _)).2
      have f7 := ((hf.2.2 (206, 7, 7, (0, 0, [])) (List.mem_cons_of_mem _ List.mem_cons_self)).2 7 (Int.le_refl _) (Int.le_refl _)).2
      have e7 : M' 206 7 = 0 := Int.le_antisymm f7.2.1 f7.1
      have e2 : M' 206 2 = M 206 2 := hfr.2.2.1 206 2 (by decide) (fun w hw hh => absurd hh (of_decide_eq_true (List.all_eq_true.mp (show q32_206_W.1.all (fun w => decide (¬ (w.1 = 206 ∧ w.2.1 ≤ 2 ∧ 2 ≤ w.2.2))) = true by decide) w hw)))
      exact q _ _ _ hF2 hfr e2 ⟨f5.1, f5.2.1⟩ (by rw [e7]; omega)
    · exact absurd ho id
    · exact absurd ho id
  · rw [List.mem_singleton.mp hq]
    exact ⟨by show 3 ≤ 249; decide, h8⟩
  · simp only [List.mem_cons, List.not_mem_nil, or_false, q32m_206] at hq
    rcases hq with rfl | rfl | rfl
    · refine ⟨by show 206 ≤ 249; decide, fun j j1 j2 => ?_⟩
      have ej : j = 2 := Int.le_antisymm j2 j1
      subst ej
      exact ⟨(show gm_ir (M 206 2) from ⟨by omega, by omega⟩), s2.1, s2.2, fun _ h => nomatch h⟩
    · refine ⟨by show 206 ≤ 249; decide, fun j j1 j2 => ?_⟩
      have ej : j = 5 := Int.le_antisymm j2 j1
      subst ej
      exact ⟨(show gm_ir (M 206 5) from ⟨by omega, by omega⟩), s5.1, s5.2, fun _ h => nomatch h⟩
    · refine ⟨by show 206 ≤ 249; decide, fun j j1 j2 => ?_⟩
      have ej : j = 7 := Int.le_antisymm j2 j1
      subst ej
      exact ⟨(show gm_ir (M 206 7) from ⟨by omega, by omega⟩), (show -1 ≤ M 206 7 by omega), (show M 206 7 ≤ -1 by omega), fun _ h => nomatch h⟩
/-- a step, however a traveller stands -/
noncomputable def s32_206 (X : Int → Int) (LX : Nat) : Prop := ck_Ok qL_O X LX 32 q32_206 ∧ ck_Ok qL_O X LX 32 q32n_206 ∧ ck_Ok qL_O X LX 32 q32m_206
theorem q32_206_c (hS : s32_206 X LX) (hd : 13 ≤ d) (hF : gm_Fx qL_O 249 K R M) (h8 : R 3 8 = 246) (hs : SPc 206 i M) (hi : i ≤ 299) (q : ∀ K2 R2 M2, gm_Fx qL_O 249 K2 R2 M2 → ck_fr q32_206_W 249 K R M 249 K2 R2 M2 → SPc 206 (i + 1) M2 → Q (.inl none) 249 K2 R2 M2) : gm_Wp X LX d 0 0 32 0 (gm_ent 32 [gm_vr 206]) [] 249 K R M Q := by
  obtain ⟨hc, s5, s7⟩ := hs
  rcases hc with ⟨s2, r0, i0⟩ | ⟨s2, r0, i0⟩
  · exact q32a_206_c hS.1 hd hF h8 s2 ⟨r0, s5⟩ s7 ⟨i0, hi⟩ (fun K2 R2 M2 hF2 hf2 e2 e5 e7 => q K2 R2 M2 hF2 hf2 ⟨Or.inl ⟨by rw [e2]; exact s2, e5.1, by omega⟩, e5.2, e7⟩)
  · by_cases hm : i = -1
    · exact q32d_206_c hS.2.2 hd hF h8 ⟨by omega, by omega⟩ ⟨r0, s5⟩ s7 ⟨by omega, by omega⟩ (fun K2 R2 M2 hF2 hf2 e2 e5 e7 => q K2 R2 M2 hF2 hf2 ⟨Or.inr ⟨by rw [e2]; exact s2, e5.1, by omega⟩, e5.2, e7⟩)
    · exact q32b_206_c hS.2.1 hd hF h8 ⟨by omega, by omega⟩ ⟨r0, s5⟩ s7 ⟨by omega, hi⟩ (fun K2 R2 M2 hF2 hf2 e2 e5 e7 => q K2 R2 M2 hF2 hf2 ⟨Or.inr ⟨by rw [e2]; exact s2, e5.1, by omega⟩, e5.2, e7⟩)
def q30_206 : ck_Sum := ((14, 0, 0), 249, [.inr (.inr (.inl 206)), .inl (0, 299, [])], ([], [(3, 8, 246)], [(206, 2, 2, (0, 6, [])), (206, 5, 5, (0, 300, [])), (206, 7, 7, (0, 299, []))]), q32_206_W, [(.inr (some (.inl ((-1), 299, []))), 249, ([], [], []))])
theorem fr0_206 {n2 : Nat} {K2 : gm_K} {R2 : gm_R} {M2 : gm_M} (h : ck_fr q32_206_W 249 K0 R0 M0 249 K R M) (h2 : ck_fr ([], []) 249 K R M n2 K2 R2 M2) : ck_fr q32_206_W 249 K0 R0 M0 n2 K2 R2 M2 := ⟨h2.1, fun k hk => (h2.2.1 k hk).trans (h.2.1 k hk), fun k j hk hw => (h2.2.2.1 k j hk (fun _ h => nomatch h)).trans (h.2.2.1 k j hk hw), fun k j hk hw => (h2.2.2.2 k j hk (fun h => nomatch h)).trans (h.2.2.2 k j hk hw)⟩
theorem fr1_206 {n2 : Nat} {K2 : gm_K} {R2 : gm_R} {M2 : gm_M} (h : ck_fr q32_206_W 249 K0 R0 M0 249 K R M) (h2 : ck_fr q32_206_W 249 K R M n2 K2 R2 M2) : ck_fr q32_206_W 249 K0 R0 M0 n2 K2 R2 M2 := ⟨h2.1, fun k hk => (h2.2.1 k hk).trans (h.2.1 k hk), fun k j hk hw => (h2.2.2.1 k j hk hw).trans (h.2.2.1 k j hk hw), fun k j hk hw => (h2.2.2.2 k j hk hw).trans (h.2.2.2 k j hk hw)⟩
theorem sp0_206 {n2 : Nat} {K2 : gm_K} {R2 : gm_R} {M2 : gm_M} (h2 : ck_fr ([], []) 249 K R M n2 K2 R2 M2) (hs : SPc 206 i M) : SPc 206 i M2 := by
  have e : ∀ j, M2 206 j = M 206 j := fun j => h2.2.2.1 206 j (by decide) (fun _ h => nomatch h)
  unfold SPc at hs ⊢
  rw [e, e, e]
  exact hs
/-- runOut's loop -/
theorem q30_206_l (hS : s32_206 X LX) (hd : 14 ≤ d) (hl : 0 ≤ last ∧ last ≤ 299) (h80 : R0 3 8 = 246) (hq : ∀ v K2 R2 M2, -1 ≤ v → v ≤ 299 → gm_Fx qL_O 249 K2 R2 M2 → ck_fr q32_206_W 249 K0 R0 M0 249 K2 R2 M2 → Q (.inl (some (gm_vi v))) 249 K2 R2 M2) : ∀ (u : Nat) (i : Int) (K : gm_K) (R : gm_R) (M : gm_M), i + (u : Int) = 300 → -1 ≤ i → SPc 206 i M → gm_Fx qL_O 249 K R M → ck_fr q32_206_W 249 K0 R0 M0 249 K R M → gm_Wp X LX d 0 0 30 5 [some (gm_vr 206), some (gm_vi last), some (gm_vi i)] [] 249 K R M Q := by
  intro u
  induction u with
  | zero =>
    intro i K R M hu hi hs hF hfr
    refine gm_sz (gm_p_load (pc := 5) (i := .iload_n 2) (sr := 0) (j := 2) (by decide +kernel) rfl rfl rfl) ?_
    refine gm_sz (gm_p_load (pc := 6) (i := .iload_n 1) (sr := 0) (j := 1) (by decide +kernel) rfl rfl rfl) ?_
    refine fw_ict (cc := .gt) (pc := 7) (off := 22) (by decide +kernel) (by decide) ⟨by omega, by omega⟩ ⟨by omega, by omega⟩ (show i > last by omega) ?_
    refine gm_sz (gm_p_const (pc := 29) (i := .iconst (-1)) (v := gm_vi (-1)) (by decide +kernel) (by decide +kernel)) ?_
    exact gm_r_int (pc := 30) (by decide +kernel) (Or.inl (by decide +kernel)) (hq (-1) _ _ _ (Int.le_refl _) (by decide) hF hfr)
  | succ u ih =>
    intro i K R M hu hi hs hF hfr
    have kc : (1 ≤ 206 ∧ 206 ≤ 249) ∧ (K 206).1 = 5 + 4 := ⟨⟨by decide, by decide⟩, by rw [(hF.1 206 (9, 0) rfl).2.2]⟩
    refine gm_sz (gm_p_load (pc := 5) (i := .iload_n 2) (sr := 0) (j := 2) (by decide +kernel) rfl rfl rfl) ?_
    refine gm_sz (gm_p_load (pc := 6) (i := .iload_n 1) (sr := 0) (j := 1) (by decide +kernel) rfl rfl rfl) ?_
    refine fw_ic (cc := .gt) (pc := 7) (off := 22) (by decide +kernel) (by decide) ⟨by omega, by omega⟩ ⟨by omega, by omega⟩ (fun hp => ?_) (fun hp => ?_)
    · refine gm_sz (gm_p_const (pc := 29) (i := .iconst (-1)) (v := gm_vi (-1)) (by decide +kernel) (by decide +kernel)) ?_
      exact gm_r_int (pc := 30) (by decide +kernel) (Or.inl (by decide +kernel)) (hq (-1) _ _ _ (Int.le_refl _) (by decide) hF hfr)
    · have hp : ¬ last < i := hp
      refine gm_sz (gm_p_load (pc := 10) (i := .aload_n 0) (sr := 2) (j := 0) (by decide +kernel) rfl rfl rfl) ?_
      refine gm_c_virt (k := 206) (ci := 5) (mj := 31) (ix := 68) (pc := 11) (as := []) (st := []) (d' := 0) (bc' := 0) (bs' := 0) (by decide +kernel) (by decide +kernel) (by decide +kernel) (by decide +kernel) kc.1 kc.2 (by decide) (by decide +kernel) (show 0 = gm_na 31 by decide +kernel) fw_c0 (show 0 + 1 ≤ gm_ml 31 by decide +kernel) (Nat.le_of_ble_eq_true rfl) (by omega) (Nat.zero_le _) (Nat.zero_le _) ?_
      refine q31_206_c hF (spc_b hs).1 (fun v K2 R2 M2 hv hF2 hf2 => ?_)
      show gm_Wp X LX d 0 0 30 14 [some (gm_vr 206), some (gm_vi last), some (gm_vi i)] [gm_vi v] 249 K2 R2 M2 Q
      have hfr2 := fr0_206 hfr hf2
      refine fw_if (cc := .eq) (pc := 14) (off := 5) (by decide +kernel) (by decide) (by rcases hv with rfl | rfl <;> exact ⟨by decide, by decide⟩) (fun hp2 => ?_) (fun hp2 => ?_)
      · refine gm_sz (gm_p_load (pc := 19) (i := .aload_n 0) (sr := 2) (j := 0) (by decide +kernel) rfl rfl rfl) ?_
        have kc2 : (1 ≤ 206 ∧ 206 ≤ 249) ∧ (K2 206).1 = 5 + 4 := ⟨⟨by decide, by decide⟩, by rw [(hF2.1 206 (9, 0) rfl).2.2]⟩
        refine gm_c_virt (k := 206) (ci := 5) (mj := 32) (ix := 112) (pc := 20) (as := []) (st := []) (d' := 13) (bc' := 0) (bs' := 0) (by decide +kernel) (by decide +kernel) (by decide +kernel) (by decide +kernel) kc2.1 kc2.2 (by decide) (by decide +kernel) (show 0 = gm_na 32 by decide +kernel) fw_c0 (show 0 + 1 ≤ gm_ml 32 by decide +kernel) (Nat.le_of_ble_eq_true rfl) (by omega) (Nat.zero_le _) (Nat.zero_le _) ?_
        have h82 : R2 3 8 = 246 := (hfr2.2.2.2 3 8 (by decide) (fun h => nomatch h)).trans h80
        refine q32_206_c hS (Nat.le_refl _) hF2 h82 (sp0_206 hf2 hs) (by omega) (fun K3 R3 M3 hF3 hf3 hs3 => ?_)
        show gm_Wp X LX d 0 0 30 23 [some (gm_vr 206), some (gm_vi last), some (gm_vi i)] [] 249 K3 R3 M3 Q
        refine gm_sz (gm_p_iinc (pc := 23) (j := 2) (z := 1) (by decide +kernel) rfl) ?_
        refine gm_sz (gm_p_goto (pc := 26) (off := (-21)) (by decide +kernel) (by decide)) ?_
        exact ih (i + 1) K3 R3 M3 (by omega) (by omega) hs3 hF3 (fr1_206 hfr2 hf3)
      · refine gm_sz (gm_p_load (pc := 17) (i := .iload_n 2) (sr := 0) (j := 2) (by decide +kernel) rfl rfl rfl) ?_
        exact gm_r_int (pc := 18) (by decide +kernel) (Or.inl (by decide +kernel)) (hq i _ _ _ (by omega) (by omega) hF2 hfr2)
theorem sp_f_206 {σ : Nat → Int} {n : Nat} (hf : ck_gf σ ([], [(3, 8, 246)], [(206, 2, 2, (0, 6, [])), (206, 5, 5, (0, 300, [])), (206, 7, 7, (0, 299, []))]) n K R M) : R 3 8 = 246 ∧ SPc 206 (M 206 7) M ∧ (0 ≤ M 206 7 ∧ M 206 7 ≤ 299) ∧ 0 ≤ M 206 2 := by
  have f2 := ((hf.2.2 (206, 2, 2, (0, 6, [])) List.mem_cons_self).2 2 (Int.le_refl _) (Int.le_refl _)).2
  have f5 := ((hf.2.2 (206, 5, 5, (0, 300, [])) (List.mem_cons_of_mem _ List.mem_cons_self)).2 5 (Int.le_refl _) (Int.le_refl _)).2
  have f7 := ((hf.2.2 (206, 7, 7, (0, 299, [])) (List.mem_cons_of_mem _ (List.mem_cons_of_mem _ List.mem_cons_self))).2 7 (Int.le_refl _) (Int.le_refl _)).2
  exact ⟨(hf.2.1 (3, 8, 246) List.mem_cons_self).2, ⟨Or.inl ⟨⟨f2.1, f2.2.1⟩, f5.1, f7.1⟩, f5.2.1, rfl⟩, ⟨f7.1, f7.2.1⟩, f2.1⟩
theorem sp_g_206 {σ : Nat → Int} {n : Nat} (hf : ck_gf σ ([], [(3, 8, 246)], [(206, 2, 2, ((-1), (-1), [])), (206, 5, 5, ((-1), 300, [])), (206, 7, 7, ((-1), 299, []))]) n K R M) : R 3 8 = 246 ∧ SPc 206 (M 206 7) M ∧ (-1 ≤ M 206 7 ∧ M 206 7 ≤ 299) ∧ M 206 2 = -1 := by
  have f2 := ((hf.2.2 (206, 2, 2, ((-1), (-1), [])) List.mem_cons_self).2 2 (Int.le_refl _) (Int.le_refl _)).2
  have f5 := ((hf.2.2 (206, 5, 5, ((-1), 300, [])) (List.mem_cons_of_mem _ List.mem_cons_self)).2 5 (Int.le_refl _) (Int.le_refl _)).2
  have f7 := ((hf.2.2 (206, 7, 7, ((-1), 299, [])) (List.mem_cons_of_mem _ (List.mem_cons_of_mem _ List.mem_cons_self))).2 7 (Int.le_refl _) (Int.le_refl _)).2
  exact ⟨(hf.2.1 (3, 8, 246) List.mem_cons_self).2, ⟨Or.inr ⟨Int.le_antisymm f2.2.1 f2.1, f5.1, f7.1⟩, f5.2.1, rfl⟩, ⟨f7.1, f7.2.1⟩, Int.le_antisymm f2.2.1 f2.1⟩
theorem q30_206_s (hS : s32_206 X LX) : ck_Ok qL_O X LX 30 q30_206 := by
  intro d σ vs n K R M hd hn hvs hσ hF hf
  obtain ⟨v0, w0, rfl, g0, v1, w1, rfl, ⟨l, rfl, hl, l0, l1, -⟩, g4⟩ := hvs
  have g4 : w1 = [] := g4
  subst g4
  have g0 : v0 = gm_vr 206 := g0
  subst g0
  have l0 : (0 : Int) ≤ l := l0
  have l1 : l ≤ (299 : Int) := l1
  have hn : n = 249 := hn
  subst hn
  obtain ⟨h8, hs, ⟨a0, a1⟩, a2⟩ := sp_f_206 hf
  refine gm_sz (gm_p_load (pc := 0) (i := .aload_n 0) (sr := 2) (j := 0) (by decide +kernel) rfl rfl rfl) ?_
  refine gm_sz (fw_gi (pc := 1) (ix := 28) (ci := 5) (j := 7) (x := M 206 7) (by decide +kernel) (e0k (e0F (pl_o (qL_p hF))) (k := 206) (c := 5) (by decide +kernel)) (by decide +kernel) (by decide +kernel) rfl) ?_
  refine gm_sz (gm_p_stor (pc := 4) (i := .istore_n 2) (sr := 0) (j := 2) (by decide +kernel) rfl (show 3 ≤ _ from Nat.le_of_ble_eq_true rfl) rfl) ?_
  exact q30_206_l hS hd ⟨l0, l1⟩ h8 (fun v K2 R2 M2 v0 v1 hF2 hfr2 => ⟨hF2, hfr2, _, List.mem_cons_self, ⟨v, rfl, ⟨by omega, by omega⟩, v0, v1, (fun _ h => nomatch h)⟩, rfl, (fun _ h => nomatch h), (fun _ h => nomatch h), (fun _ h => nomatch h)⟩) (300 - M 206 7).toNat (M 206 7) K R M (by omega) (by omega) hs hF ck_fr_0
def q30n_206 : ck_Sum := ((14, 0, 0), 249, [.inr (.inr (.inl 206)), .inl (0, 299, [])], ([], [(3, 8, 246)], [(206, 2, 2, ((-1), (-1), [])), (206, 5, 5, ((-1), 300, [])), (206, 7, 7, ((-1), 299, []))]), q32_206_W, [(.inr (some (.inl ((-1), 299, []))), 249, ([], [], []))])
theorem q30n_206_s (hS : s32_206 X LX) : ck_Ok qL_O X LX 30 q30n_206 := by
  intro d σ vs n K R M hd hn hvs hσ hF hf
  obtain ⟨v0, w0, rfl, g0, v1, w1, rfl, ⟨l, rfl, hl, l0, l1, -⟩, g4⟩ := hvs
  have g4 : w1 = [] := g4
  subst g4
  have g0 : v0 = gm_vr 206 := g0
  subst g0
  have l0 : (0 : Int) ≤ l := l0
  have l1 : l ≤ (299 : Int) := l1
  have hn : n = 249 := hn
  subst hn
  obtain ⟨h8, hs, ⟨a0, a1⟩, a2⟩ := sp_g_206 hf
  refine gm_sz (gm_p_load (pc := 0) (i := .aload_n 0) (sr := 2) (j := 0) (by decide +kernel) rfl rfl rfl) ?_
  refine gm_sz (fw_gi (pc := 1) (ix := 28) (ci := 5) (j := 7) (x := M 206 7) (by decide +kernel) (e0k (e0F (pl_o (qL_p hF))) (k := 206) (c := 5) (by decide +kernel)) (by decide +kernel) (by decide +kernel) rfl) ?_
  refine gm_sz (gm_p_stor (pc := 4) (i := .istore_n 2) (sr := 0) (j := 2) (by decide +kernel) rfl (show 3 ≤ _ from Nat.le_of_ble_eq_true rfl) rfl) ?_
  exact q30_206_l hS hd ⟨l0, l1⟩ h8 (fun v K2 R2 M2 v0 v1 hF2 hfr2 => ⟨hF2, hfr2, _, List.mem_cons_self, ⟨v, rfl, ⟨by omega, by omega⟩, v0, v1, (fun _ h => nomatch h)⟩, rfl, (fun _ h => nomatch h), (fun _ h => nomatch h), (fun _ h => nomatch h)⟩) (300 - M 206 7).toNat (M 206 7) K R M (by omega) (by omega) hs hF ck_fr_0
def q148_206 : ck_Sum := ((14, 0, 0), 249, [.inr (.inr (.inl 206)), .inl (0, 299, [])], ([], [(3, 8, 246)], [(206, 2, 2, (0, 6, [])), (206, 5, 5, (0, 300, [])), (206, 7, 7, (0, 299, []))]), q32_206_W, [(.inr none, 249, ([], [], [(206, 5, 5, (0, 300, [])), (206, 7, 7, (0, 299, []))]))])
theorem q148_206_l {mx : Int} (hS : s32_206 X LX) (hd : 14 ≤ d) (hl : 0 ≤ last ∧ last ≤ 299) (hmx : last ≤ mx) (h80 : R0 3 8 = 246) (hq : ∀ i K2 R2 M2, -1 ≤ i → i ≤ 299 → last ≤ i → i ≤ mx → SPc 206 i M2 → gm_Fx qL_O 249 K2 R2 M2 → ck_fr q32_206_W 249 K0 R0 M0 249 K2 R2 M2 → Q (.inl none) 249 K2 R2 M2) : ∀ (u : Nat) (i : Int) (K : gm_K) (R : gm_R) (M : gm_M), i + (u : Int) = 299 → -1 ≤ i → i ≤ mx → SPc 206 i M → gm_Fx qL_O 249 K R M → ck_fr q32_206_W 249 K0 R0 M0 249 K R M → gm_Wp X LX d 0 0 148 5 [some (gm_vr 206), some (gm_vi last), some (gm_vi i)] [] 249 K R M Q := by
  intro u
  induction u with
  | zero =>
    intro i K R M hu hi him hs hF hfr
    refine gm_sz (gm_p_load (pc := 5) (i := .iload_n 2) (sr := 0) (j := 2) (by decide +kernel) rfl rfl rfl) ?_
    refine gm_sz (gm_p_load (pc := 6) (i := .iload_n 1) (sr := 0) (j := 1) (by decide +kernel) rfl rfl rfl) ?_
    refine fw_ict (cc := .ge) (pc := 7) (off := 13) (by decide +kernel) (by decide) ⟨by omega, by omega⟩ ⟨by omega, by omega⟩ (show last ≤ i by omega) ?_
    exact gm_r_void (pc := 20) (by decide +kernel) (by decide +kernel) (hq i _ _ _ hi (by omega) (by omega) him hs hF hfr)
  | succ u ih =>
    intro i K R M hu hi him hs hF hfr
    refine gm_sz (gm_p_load (pc := 5) (i := .iload_n 2) (sr := 0) (j := 2) (by decide +kernel) rfl rfl rfl) ?_
    refine gm_sz (gm_p_load (pc := 6) (i := .iload_n 1) (sr := 0) (j := 1) (by decide +kernel) rfl rfl rfl) ?_
    refine fw_ic (cc := .ge) (pc := 7) (off := 13) (by decide +kernel) (by decide) ⟨by omega, by omega⟩ ⟨by omega, by omega⟩ (fun hp => ?_) (fun hp => ?_)
    · have hp : last ≤ i := hp
      exact gm_r_void (pc := 20) (by decide +kernel) (by decide +kernel) (hq i _ _ _ hi (by omega) hp him hs hF hfr)
    · have hp : ¬ last ≤ i := hp
      refine gm_sz (gm_p_load (pc := 10) (i := .aload_n 0) (sr := 2) (j := 0) (by decide +kernel) rfl rfl rfl) ?_
      have kc2 : (1 ≤ 206 ∧ 206 ≤ 249) ∧ (K 206).1 = 5 + 4 := ⟨⟨by decide, by decide⟩, by rw [(hF.1 206 (9, 0) rfl).2.2]⟩
      refine gm_c_virt (k := 206) (ci := 5) (mj := 32) (ix := 112) (pc := 11) (as := []) (st := []) (d' := 13) (bc' := 0) (bs' := 0) (by decide +kernel) (by decide +kernel) (by decide +kernel) (by decide +kernel) kc2.1 kc2.2 (by decide) (by decide +kernel) (show 0 = gm_na 32 by decide +kernel) fw_c0 (show 0 + 1 ≤ gm_ml 32 by decide +kernel) (Nat.le_of_ble_eq_true rfl) (by omega) (Nat.zero_le _) (Nat.zero_le _) ?_
      have h82 : R 3 8 = 246 := (hfr.2.2.2 3 8 (by decide) (fun h => nomatch h)).trans h80
      refine q32_206_c hS (Nat.le_refl _) hF h82 hs (by omega) (fun K3 R3 M3 hF3 hf3 hs3 => ?_)
      show gm_Wp X LX d 0 0 148 14 [some (gm_vr 206), some (gm_vi last), some (gm_vi i)] [] 249 K3 R3 M3 Q
      refine gm_sz (gm_p_iinc (pc := 14) (j := 2) (z := 1) (by decide +kernel) rfl) ?_
      refine gm_sz (gm_p_goto (pc := 17) (off := (-12)) (by decide +kernel) (by decide)) ?_
      exact ih (i + 1) K3 R3 M3 (by omega) (by omega) (by omega) hs3 hF3 (fr1_206 hfr hf3)
theorem q148_206_s (hS : s32_206 X LX) : ck_Ok qL_O X LX 148 q148_206 := by
  intro d σ vs n K R M hd hn hvs hσ hF hf
  obtain ⟨v0, w0, rfl, g0, v1, w1, rfl, ⟨l, rfl, hl, l0, l1, -⟩, g4⟩ := hvs
  have g4 : w1 = [] := g4
  subst g4
  have g0 : v0 = gm_vr 206 := g0
  subst g0
  have l0 : (0 : Int) ≤ l := l0
  have l1 : l ≤ (299 : Int) := l1
  have hn : n = 249 := hn
  subst hn
  obtain ⟨h8, hs, ⟨a0, a1⟩, a2⟩ := sp_f_206 hf
  refine gm_sz (gm_p_load (pc := 0) (i := .aload_n 0) (sr := 2) (j := 0) (by decide +kernel) rfl rfl rfl) ?_
  refine gm_sz (fw_gi (pc := 1) (ix := 28) (ci := 5) (j := 7) (x := M 206 7) (by decide +kernel) (e0k (e0F (pl_o (qL_p hF))) (k := 206) (c := 5) (by decide +kernel)) (by decide +kernel) (by decide +kernel) rfl) ?_
  refine gm_sz (gm_p_stor (pc := 4) (i := .istore_n 2) (sr := 0) (j := 2) (by decide +kernel) rfl (show 3 ≤ _ from Nat.le_of_ble_eq_true rfl) rfl) ?_
  refine q148_206_l (mx := 299) hS hd ⟨l0, l1⟩ l1 h8 (fun i K2 R2 M2 i0 i1 _ _ hs2 hF2 hfr2 => ⟨hF2, hfr2, _, List.mem_cons_self, trivial, rfl, (fun _ h => nomatch h), (fun _ h => nomatch h), fun q hq => ?_⟩) (299 - M 206 7).toNat (M 206 7) K R M (by omega) (by omega) (by omega) hs hF ck_fr_0
  have e2 : M2 206 2 = M 206 2 := hfr2.2.2.1 206 2 (by decide) (fun w hw hh => absurd hh (of_decide_eq_true (List.all_eq_true.mp (show q32_206_W.1.all (fun w => decide (¬ (w.1 = 206 ∧ w.2.1 ≤ 2 ∧ 2 ≤ w.2.2))) = true by decide) w hw)))
  have b5 : 0 ≤ M2 206 5 ∧ M2 206 5 ≤ 300 := by
    have z2 := hs.1
    have z3 := hs2
    unfold SPc at z3
    omega
  have b7 : M2 206 7 = i ∧ 0 ≤ i := by
    have z2 := hs.1
    have z3 := hs2
    unfold SPc at z3
    omega
  simp only [List.mem_cons, List.not_mem_nil, or_false] at hq
  rcases hq with rfl | rfl
  · refine ⟨by show 206 ≤ 249; decide, fun j j1 j2 => ?_⟩
    have ej : j = 5 := Int.le_antisymm j2 j1
    subst ej
    exact ⟨(show gm_ir (M2 206 5) from ⟨by omega, by omega⟩), b5.1, b5.2, fun _ h => nomatch h⟩
  · refine ⟨by show 206 ≤ 249; decide, fun j j1 j2 => ?_⟩
    have ej : j = 7 := Int.le_antisymm j2 j1
    subst ej
    exact ⟨(show gm_ir (M2 206 7) from ⟨by omega, by omega⟩), (show 0 ≤ M2 206 7 by omega), (show M2 206 7 ≤ 299 by omega), fun _ h => nomatch h⟩
def q148n_206 : ck_Sum := ((14, 0, 0), 249, [.inr (.inr (.inl 206)), .inl (0, 299, [])], ([], [(3, 8, 246)], [(206, 2, 2, ((-1), (-1), [])), (206, 5, 5, ((-1), 300, [])), (206, 7, 7, ((-1), 299, []))]), q32_206_W, [(.inr none, 249, ([], [], [(206, 5, 5, ((-1), 300, [])), (206, 7, 7, ((-1), 299, []))]))])
theorem q148n_206_s (hS : s32_206 X LX) : ck_Ok qL_O X LX 148 q148n_206 := by
  intro d σ vs n K R M hd hn hvs hσ hF hf
  obtain ⟨v0, w0, rfl, g0, v1, w1, rfl, ⟨l, rfl, hl, l0, l1, -⟩, g4⟩ := hvs
  have g4 : w1 = [] := g4
  subst g4
  have g0 : v0 = gm_vr 206 := g0
  subst g0
  have l0 : (0 : Int) ≤ l := l0
  have l1 : l ≤ (299 : Int) := l1
  have hn : n = 249 := hn
  subst hn
  obtain ⟨h8, hs, ⟨a0, a1⟩, a2⟩ := sp_g_206 hf
  refine gm_sz (gm_p_load (pc := 0) (i := .aload_n 0) (sr := 2) (j := 0) (by decide +kernel) rfl rfl rfl) ?_
  refine gm_sz (fw_gi (pc := 1) (ix := 28) (ci := 5) (j := 7) (x := M 206 7) (by decide +kernel) (e0k (e0F (pl_o (qL_p hF))) (k := 206) (c := 5) (by decide +kernel)) (by decide +kernel) (by decide +kernel) rfl) ?_
  refine gm_sz (gm_p_stor (pc := 4) (i := .istore_n 2) (sr := 0) (j := 2) (by decide +kernel) rfl (show 3 ≤ _ from Nat.le_of_ble_eq_true rfl) rfl) ?_
  refine q148_206_l (mx := 299) hS hd ⟨l0, l1⟩ l1 h8 (fun i K2 R2 M2 i0 i1 _ _ hs2 hF2 hfr2 => ⟨hF2, hfr2, _, List.mem_cons_self, trivial, rfl, (fun _ h => nomatch h), (fun _ h => nomatch h), fun q hq => ?_⟩) (299 - M 206 7).toNat (M 206 7) K R M (by omega) (by omega) (by omega) hs hF ck_fr_0
  have e2 : M2 206 2 = M 206 2 := hfr2.2.2.1 206 2 (by decide) (fun w hw hh => absurd hh (of_decide_eq_true (List.all_eq_true.mp (show q32_206_W.1.all (fun w => decide (¬ (w.1 = 206 ∧ w.2.1 ≤ 2 ∧ 2 ≤ w.2.2))) = true by decide) w hw)))
  have b5 : -1 ≤ M2 206 5 ∧ M2 206 5 ≤ 300 := by
    have z2 := hs.1
    have z3 := hs2
    unfold SPc at z3
    omega
  have b7 : M2 206 7 = i ∧ -1 ≤ i := by
    have z2 := hs.1
    have z3 := hs2
    unfold SPc at z3
    omega
  simp only [List.mem_cons, List.not_mem_nil, or_false] at hq
  rcases hq with rfl | rfl
  · refine ⟨by show 206 ≤ 249; decide, fun j j1 j2 => ?_⟩
    have ej : j = 5 := Int.le_antisymm j2 j1
    subst ej
    exact ⟨(show gm_ir (M2 206 5) from ⟨by omega, by omega⟩), b5.1, b5.2, fun _ h => nomatch h⟩
  · refine ⟨by show 206 ≤ 249; decide, fun j j1 j2 => ?_⟩
    have ej : j = 7 := Int.le_antisymm j2 j1
    subst ej
    exact ⟨(show gm_ir (M2 206 7) from ⟨by omega, by omega⟩), (show -1 ≤ M2 206 7 by omega), (show M2 206 7 ≤ 299 by omega), fun _ h => nomatch h⟩
def q32_207_W : List (Nat × Int × Int) × List (Nat × Int) := ([(200, 6, 6), (204, 0, 9), (205, 0, 14849), (207, 5, 8)], [])
theorem q32a_207_c (hS : ck_Ok qL_O X LX 32 q32_207) (hd : 13 ≤ d) (hF : gm_Fx qL_O 249 K R M) (h8 : R 3 8 = 246) (s2 : 0 ≤ M 207 2 ∧ M 207 2 ≤ 6) (s5 : 0 ≤ M 207 5 ∧ M 207 5 ≤ 300) (s7 : M 207 7 = i) (hi : 0 ≤ i ∧ i ≤ 299) (q : ∀ K2 R2 M2, gm_Fx qL_O 249 K2 R2 M2 → ck_fr q32_207_W 249 K R M 249 K2 R2 M2 → M2 207 2 = M 207 2 → (0 ≤ M2 207 5 ∧ M2 207 5 ≤ 300) → M2 207 7 = i + 1 → Q (.inl none) 249 K2 R2 M2) : gm_Wp X LX d 0 0 32 0 (gm_ent 32 [gm_vr 207]) [] 249 K R M Q := by
  have hσ := ck_sn_s (σ := fun _ => 0) (M := M) qL_nmu
  have hnm : ck_sn qL_O (fun _ => 0) M 29 = M 207 7 := hσ (29, 207, 7) (by decide)
  refine gm_Wp_mono (fun o n' K' R' M' hq => ?_) (hS d (ck_sn qL_O (fun _ => 0) M) [gm_vr 207] 249 K R M hd rfl ⟨_, _, rfl, rfl, rfl⟩ hσ hF ⟨(fun _ h => nomatch h), fun q hq => ?_, fun q hq => ?_⟩)
  · obtain ⟨hF2, hfr, oc, hoc, ho, hn, hf⟩ := hq
    have hoc := List.mem_singleton.mp hoc
    subst hoc
    have hn : n' = 249 := hn
    subst hn
    rcases o with (_ | v) | x
    · have f5 := ((hf.2.2 (207, 5, 5, (0, 300, [])) List.mem_cons_self).2 5 (Int.le_refl _) (Int.le_refl _)).2
      have f7 := ((hf.2.2 (207, 7, 7, (1, 300, [(29, 1)])) (List.mem_cons_of_mem _ List.mem_cons_self)).2 7 (Int.le_refl _) (Int.le_refl _)).2.2.2
      have e7 : M' 207 7 = ck_sn qL_O (fun _ => 0) M 29 + 1 := (f7 (29, 1) List.mem_cons_self).1 (by decide)
      have e2 : M' 207 2 = M 207 2 := hfr.2.2.1 207 2 (by decide) (fun w hw hh => absurd hh (of_decide_eq_true (List.all_eq_true.mp (show q32_207_W.1.all (fun w => decide (¬ (w.1 = 207 ∧ w.2.1 ≤ 2 ∧ 2 ≤ w.2.2))) = true by decide) w hw)))
      exact q _ _ _ hF2 hfr e2 ⟨f5.1, f5.2.1⟩ (by rw [e7, hnm, s7])
    · exact absurd ho id
    · exact absurd ho id
  · rw [List.mem_singleton.mp hq]
    exact ⟨by show 3 ≤ 249; decide, h8⟩
  · simp only [List.mem_cons, List.not_mem_nil, or_false, q32_207] at hq
    rcases hq with rfl | rfl | rfl
    · refine ⟨by show 207 ≤ 249; decide, fun j j1 j2 => ?_⟩
      have ej : j = 2 := Int.le_antisymm j2 j1
      subst ej
      exact ⟨(show gm_ir (M 207 2) from ⟨by omega, by omega⟩), s2.1, s2.2, fun _ h => nomatch h⟩
    · refine ⟨by show 207 ≤ 249; decide, fun j j1 j2 => ?_⟩
      have ej : j = 5 := Int.le_antisymm j2 j1
      subst ej
      exact ⟨(show gm_ir (M 207 5) from ⟨by omega, by omega⟩), s5.1, s5.2, fun _ h => nomatch h⟩
    · refine ⟨by show 207 ≤ 249; decide, fun j j1 j2 => ?_⟩
      have ej : j = 7 := Int.le_antisymm j2 j1
      subst ej
      exact ⟨(show gm_ir (M 207 7) from ⟨by omega, by omega⟩), (show 0 ≤ M 207 7 by omega), (show M 207 7 ≤ 299 by omega), ck_gt1 (s := 29) (z := 0) (by decide) (by rw [hnm, Int.add_zero])⟩
theorem q32b_207_c (hS : ck_Ok qL_O X LX 32 q32n_207) (hd : 13 ≤ d) (hF : gm_Fx qL_O 249 K R M) (h8 : R 3 8 = 246) (s2 : -1 ≤ M 207 2 ∧ M 207 2 ≤ -1) (s5 : -1 ≤ M 207 5 ∧ M 207 5 ≤ 300) (s7 : M 207 7 = i) (hi : 0 ≤ i ∧ i ≤ 299) (q : ∀ K2 R2 M2, gm_Fx qL_O 249 K2 R2 M2 → ck_fr q32_207_W 249 K R M 249 K2 R2 M2 → M2 207 2 = M 207 2 → (-1 ≤ M2 207 5 ∧ M2 207 5 ≤ 300) → M2 207 7 = i + 1 → Q (.inl none) 249 K2 R2 M2) : gm_Wp X LX d 0 0 32 0 (gm_ent 32 [gm_vr 207]) [] 249 K R M Q := by
  have hσ := ck_sn_s (σ := fun _ => 0) (M := M) qL_nmu
  have hnm : ck_sn qL_O (fun _ => 0) M 29 = M 207 7 := hσ (29, 207, 7) (by decide)
  refine gm_Wp_mono (fun o n' K' R' M' hq => ?_) (hS d (ck_sn qL_O (fun _ => 0) M) [gm_vr 207] 249 K R M hd rfl ⟨_, _, rfl, rfl, rfl⟩ hσ hF ⟨(fun _ h => nomatch h), fun q hq => ?_, fun q hq => ?_⟩)
  · obtain ⟨hF2, hfr, oc, hoc, ho, hn, hf⟩ := hq
    have hoc := List.mem_singleton.mp hoc
    subst hoc
    have hn : n' = 249 := hn
    subst hn
    rcases o with (_ | v) | x
    · have f5 := ((hf.2.2 (207, 5, 5, ((-1), 300, [])) List.mem_cons_self).2 5 (Int.le_refl _) (Int.le_refl _)).2
      have f7 := ((hf.2.2 (207, 7, 7, (1, 300, [(29, 1)])) (List.mem_cons_of_mem _ List.mem_cons_self)).2 7 (Int.le_refl _) (Int.le_refl _)).2.2.2
      have e7 : M' 207 7 = ck_sn qL_O (fun _ => 0) M 29 + 1 := (f7 (29, 1) List.mem_cons_self).1 (by decide)
      have e2 : M' 207 2 = M 207 2 := hfr.2.2.1 207 2 (by decide) (fun w hw hh => absurd hh (of_decide_eq_true (List.all_eq_true.mp (show q32_207_W.1.all (fun w => decide (¬ (w.1 = 207 ∧ w.2.1 ≤ 2 ∧ 2 ≤ w.2.2))) = true by decide) w hw)))
      exact q _ _ _ hF2 hfr e2 ⟨f5.1, f5.2.1⟩ (by rw [e7, hnm, s7])
    · exact absurd ho id
    · exact absurd ho id
  · rw [List.mem_singleton.mp hq]
    exact ⟨by show 3 ≤ 249; decide, h8⟩
  · simp only [List.mem_cons, List.not_mem_nil, or_false, q32n_207] at hq
    rcases hq with rfl | rfl | rfl
    · refine ⟨by show 207 ≤ 249; decide, fun j j1 j2 => ?_⟩
      have ej : j = 2 := Int.le_antisymm j2 j1
      subst ej
      exact ⟨(show gm_ir (M 207 2) from ⟨by omega, by omega⟩), s2.1, s2.2, fun _ h => nomatch h⟩
    · refine ⟨by show 207 ≤ 249; decide, fun j j1 j2 => ?_⟩
      have ej : j = 5 := Int.le_antisymm j2 j1
      subst ej
      exact ⟨(show gm_ir (M 207 5) from ⟨by omega, by omega⟩), s5.1, s5.2, fun _ h => nomatch h⟩
    · refine ⟨by show 207 ≤ 249; decide, fun j j1 j2 => ?_⟩
      have ej : j = 7 := Int.le_antisymm j2 j1
      subst ej
      exact ⟨(show gm_ir (M 207 7) from ⟨by omega, by omega⟩), (show 0 ≤ M 207 7 by omega), (show M 207 7 ≤ 299 by omega), ck_gt1 (s := 29) (z := 0) (by decide) (by rw [hnm, Int.add_zero])⟩
theorem q32d_207_c (hS : ck_Ok qL_O X LX 32 q32m_207) (hd : 13 ≤ d) (hF : gm_Fx qL_O 249 K R M) (h8 : R 3 8 = 246) (s2 : -1 ≤ M 207 2 ∧ M 207 2 ≤ -1) (s5 : -1 ≤ M 207 5 ∧ M 207 5 ≤ 300) (s7 : M 207 7 = i) (hi : -1 ≤ i ∧ i ≤ -1) (q : ∀ K2 R2 M2, gm_Fx qL_O 249 K2 R2 M2 → ck_fr q32_207_W 249 K R M 249 K2 R2 M2 → M2 207 2 = M 207 2 → (-1 ≤ M2 207 5 ∧ M2 207 5 ≤ 300) → M2 207 7 = i + 1 → Q (.inl none) 249 K2 R2 M2) : gm_Wp X LX d 0 0 32 0 (gm_ent 32 [gm_vr 207]) [] 249 K R M Q := by
  have hσ := ck_sn_s (σ := fun _ => 0) (M := M) qL_nmu
  refine gm_Wp_mono (fun o n' K' R' M' hq => ?_) (hS d (ck_sn qL_O (fun _ => 0) M) [gm_vr 207] 249 K R M hd rfl ⟨_, _, rfl, rfl, rfl⟩ hσ hF ⟨(fun _ h => nomatch h), fun q hq => ?_, fun q hq => ?_⟩)
  · obtain ⟨hF2, hfr, oc, hoc, ho, hn, hf⟩ := hq
    have hoc := List.mem_singleton.mp hoc
    subst hoc
    have hn : n' = 249 := hn
    subst hn
    rcases o with (_ | v) | x
    · have f5 := ((hf.2.2 (207, 5, 5, ((-1), 300, [])) List.mem_cons_self).2 5 (Int.le_refl _) (Int.le_refl _)).2
      have f7 := ((hf.2.2 (207, 7, 7, (0, 0, [])) (List.mem_cons_of_mem _ List.mem_cons_self)).2 7 (Int.le_refl _) (Int.le_refl _)).2
      have e7 : M' 207 7 = 0 := Int.le_antisymm f7.2.1 f7.1
      have e2 : M' 207 2 = M 207 2 := hfr.2.2.1 207 2 (by decide) (fun w hw hh => absurd hh (of_decide_eq_true (List.all_eq_true.mp (show q32_207_W.1.all (fun w => decide (¬ (w.1 = 207 ∧ w.2.1 ≤ 2 ∧ 2 ≤ w.2.2))) = true by decide) w hw)))
      exact q _ _ _ hF2 hfr e2 ⟨f5.1, f5.2.1⟩ (by rw [e7]; omega)
    · exact absurd ho id
    · exact absurd ho id
  · rw [List.mem_singleton.mp hq]
    exact ⟨by show 3 ≤ 249; decide, h8⟩
  · simp only [List.mem_cons, List.not_mem_nil, or_false, q32m_207] at hq
    rcases hq with rfl | rfl | rfl
    · refine ⟨by show 207 ≤ 249; decide, fun j j1 j2 => ?_⟩
      have ej : j = 2 := Int.le_antisymm j2 j1
      subst ej
      exact ⟨(show gm_ir (M 207 2) from ⟨by omega, by omega⟩), s2.1, s2.2, fun _ h => nomatch h⟩
    · refine ⟨by show 207 ≤ 249; decide, fun j j1 j2 => ?_⟩
      have ej : j = 5 := Int.le_antisymm j2 j1
      subst ej
      exact ⟨(show gm_ir (M 207 5) from ⟨by omega, by omega⟩), s5.1, s5.2, fun _ h => nomatch h⟩
    · refine ⟨by show 207 ≤ 249; decide, fun j j1 j2 => ?_⟩
      have ej : j = 7 := Int.le_antisymm j2 j1
      subst ej
      exact ⟨(show gm_ir (M 207 7) from ⟨by omega, by omega⟩), (show -1 ≤ M 207 7 by omega), (show M 207 7 ≤ -1 by omega), fun _ h => nomatch h⟩
/-- a step, however a traveller stands -/
noncomputable def s32_207 (X : Int → Int) (LX : Nat) : Prop := ck_Ok qL_O X LX 32 q32_207 ∧ ck_Ok qL_O X LX 32 q32n_207 ∧ ck_Ok qL_O X LX 32 q32m_207
theorem q32_207_c (hS : s32_207 X LX) (hd : 13 ≤ d) (hF : gm_Fx qL_O 249 K R M) (h8 : R 3 8 = 246) (hs : SPc 207 i M) (hi : i ≤ 299) (q : ∀ K2 R2 M2, gm_Fx qL_O 249 K2 R2 M2 → ck_fr q32_207_W 249 K R M 249 K2 R2 M2 → SPc 207 (i + 1) M2 → Q (.inl none) 249 K2 R2 M2) : gm_Wp X LX d 0 0 32 0 (gm_ent 32 [gm_vr 207]) [] 249 K R M Q := by
  obtain ⟨hc, s5, s7⟩ := hs
  rcases hc with ⟨s2, r0, i0⟩ | ⟨s2, r0, i0⟩
  · exact q32a_207_c hS.1 hd hF h8 s2 ⟨r0, s5⟩ s7 ⟨i0, hi⟩ (fun K2 R2 M2 hF2 hf2 e2 e5 e7 => q K2 R2 M2 hF2 hf2 ⟨Or.inl ⟨by rw [e2]; exact s2, e5.1, by omega⟩, e5.2, e7⟩)
  · by_cases hm : i = -1
    · exact q32d_207_c hS.2.2 hd hF h8 ⟨by omega, by omega⟩ ⟨r0, s5⟩ s7 ⟨by omega, by omega⟩ (fun K2 R2 M2 hF2 hf2 e2 e5 e7 => q K2 R2 M2 hF2 hf2 ⟨Or.inr ⟨by rw [e2]; exact s2, e5.1, by omega⟩, e5.2, e7⟩)
    · exact q32b_207_c hS.2.1 hd hF h8 ⟨by omega, by omega⟩ ⟨r0, s5⟩ s7 ⟨by omega, hi⟩ (fun K2 R2 M2 hF2 hf2 e2 e5 e7 => q K2 R2 M2 hF2 hf2 ⟨Or.inr ⟨by rw [e2]; exact s2, e5.1, by omega⟩, e5.2, e7⟩)
theorem fr1_207 {n2 : Nat} {K2 : gm_K} {R2 : gm_R} {M2 : gm_M} (h : ck_fr q32_207_W 249 K0 R0 M0 249 K R M) (h2 : ck_fr q32_207_W 249 K R M n2 K2 R2 M2) : ck_fr q32_207_W 249 K0 R0 M0 n2 K2 R2 M2 := ⟨h2.1, fun k hk => (h2.2.1 k hk).trans (h.2.1 k hk), fun k j hk hw => (h2.2.2.1 k j hk hw).trans (h.2.2.1 k j hk hw), fun k j hk hw => (h2.2.2.2 k j hk hw).trans (h.2.2.2 k j hk hw)⟩
theorem q148_207_l {mx : Int} (hS : s32_207 X LX) (hd : 14 ≤ d) (hl : 0 ≤ last ∧ last ≤ 299) (hmx : last ≤ mx) (h80 : R0 3 8 = 246) (hq : ∀ i K2 R2 M2, -1 ≤ i → i ≤ 299 → last ≤ i → i ≤ mx → SPc 207 i M2 → gm_Fx qL_O 249 K2 R2 M2 → ck_fr q32_207_W 249 K0 R0 M0 249 K2 R2 M2 → Q (.inl none) 249 K2 R2 M2) : ∀ (u : Nat) (i : Int) (K : gm_K) (R : gm_R) (M : gm_M), i + (u : Int) = 299 → -1 ≤ i → i ≤ mx → SPc 207 i M → gm_Fx qL_O 249 K R M → ck_fr q32_207_W 249 K0 R0 M0 249 K R M → gm_Wp X LX d 0 0 148 5 [some (gm_vr 207), some (gm_vi last), some (gm_vi i)] [] 249 K R M Q := by
  intro u
  induction u with
  | zero =>
    intro i K R M hu hi him hs hF hfr
    refine gm_sz (gm_p_load (pc := 5) (i := .iload_n 2) (sr := 0) (j := 2) (by decide +kernel) rfl rfl rfl) ?_
    refine gm_sz (gm_p_load (pc := 6) (i := .iload_n 1) (sr := 0) (j := 1) (by decide +kernel) rfl rfl rfl) ?_
    refine fw_ict (cc := .ge) (pc := 7) (off := 13) (by decide +kernel) (by decide) ⟨by omega, by omega⟩ ⟨by omega, by omega⟩ (show last ≤ i by omega) ?_
    exact gm_r_void (pc := 20) (by decide +kernel) (by decide +kernel) (hq i _ _ _ hi (by omega) (by omega) him hs hF hfr)
  | succ u ih =>
    intro i K R M hu hi him hs hF hfr
    refine gm_sz (gm_p_load (pc := 5) (i := .iload_n 2) (sr := 0) (j := 2) (by decide +kernel) rfl rfl rfl) ?_
    refine gm_sz (gm_p_load (pc := 6) (i := .iload_n 1) (sr := 0) (j := 1) (by decide +kernel) rfl rfl rfl) ?_
    refine fw_ic (cc := .ge) (pc := 7) (off := 13) (by decide +kernel) (by decide) ⟨by omega, by omega⟩ ⟨by omega, by omega⟩ (fun hp => ?_) (fun hp => ?_)
    · have hp : last ≤ i := hp
      exact gm_r_void (pc := 20) (by decide +kernel) (by decide +kernel) (hq i _ _ _ hi (by omega) hp him hs hF hfr)
    · have hp : ¬ last ≤ i := hp
      refine gm_sz (gm_p_load (pc := 10) (i := .aload_n 0) (sr := 2) (j := 0) (by decide +kernel) rfl rfl rfl) ?_
      have kc2 : (1 ≤ 207 ∧ 207 ≤ 249) ∧ (K 207).1 = 5 + 4 := ⟨⟨by decide, by decide⟩, by rw [(hF.1 207 (9, 0) rfl).2.2]⟩
      refine gm_c_virt (k := 207) (ci := 5) (mj := 32) (ix := 112) (pc := 11) (as := []) (st := []) (d' := 13) (bc' := 0) (bs' := 0) (by decide +kernel) (by decide +kernel) (by decide +kernel) (by decide +kernel) kc2.1 kc2.2 (by decide) (by decide +kernel) (show 0 = gm_na 32 by decide +kernel) fw_c0 (show 0 + 1 ≤ gm_ml 32 by decide +kernel) (Nat.le_of_ble_eq_true rfl) (by omega) (Nat.zero_le _) (Nat.zero_le _) ?_
      have h82 : R 3 8 = 246 := (hfr.2.2.2 3 8 (by decide) (fun h => nomatch h)).trans h80
      refine q32_207_c hS (Nat.le_refl _) hF h82 hs (by omega) (fun K3 R3 M3 hF3 hf3 hs3 => ?_)
      show gm_Wp X LX d 0 0 148 14 [some (gm_vr 207), some (gm_vi last), some (gm_vi i)] [] 249 K3 R3 M3 Q
      refine gm_sz (gm_p_iinc (pc := 14) (j := 2) (z := 1) (by decide +kernel) rfl) ?_
      refine gm_sz (gm_p_goto (pc := 17) (off := (-12)) (by decide +kernel) (by decide)) ?_
      exact ih (i + 1) K3 R3 M3 (by omega) (by omega) (by omega) hs3 hF3 (fr1_207 hfr hf3)
theorem q148_206_c (hS : s32_206 X LX) (hd : 14 ≤ d) (hF : gm_Fx qL_O 249 K R M) (h8 : R 3 8 = 246) (hs : SPc 206 i M) (hl : 0 ≤ last ∧ last ≤ 299) (hi : i ≤ last) (q : ∀ K2 R2 M2, gm_Fx qL_O 249 K2 R2 M2 → ck_fr q32_206_W 249 K R M 249 K2 R2 M2 → SPc 206 last M2 → Q (.inl none) 249 K2 R2 M2) : gm_Wp X LX d 0 0 148 0 (gm_ent 148 [gm_vr 206, gm_vi last]) [] 249 K R M Q := by
  have hb := spc_b hs
  have h7 : M 206 7 = i := hs.2.2
  refine gm_sz (gm_p_load (pc := 0) (i := .aload_n 0) (sr := 2) (j := 0) (by decide +kernel) rfl rfl rfl) ?_
  refine gm_sz (fw_gi (pc := 1) (ix := 28) (ci := 5) (j := 7) (x := i) (by decide +kernel) (e0k (e0F (pl_o (qL_p hF))) (k := 206) (c := 5) (by decide +kernel)) (by decide +kernel) (by decide +kernel) h7) ?_
  refine gm_sz (gm_p_stor (pc := 4) (i := .istore_n 2) (sr := 0) (j := 2) (by decide +kernel) rfl (show 3 ≤ _ from Nat.le_of_ble_eq_true rfl) rfl) ?_
  exact q148_206_l (mx := last) hS hd hl (Int.le_refl _) h8 (fun i2 K2 R2 M2 _ _ a b hs2 hF2 hfr2 => q K2 R2 M2 hF2 hfr2 (by rw [show i2 = last by omega] at hs2; exact hs2)) (299 - i).toNat i K R M (by omega) hb.2 hi hs hF ck_fr_0
theorem q148_207_c (hS : s32_207 X LX) (hd : 14 ≤ d) (hF : gm_Fx qL_O 249 K R M) (h8 : R 3 8 = 246) (hs : SPc 207 i M) (hl : 0 ≤ last ∧ last ≤ 299) (hi : i ≤ last) (q : ∀ K2 R2 M2, gm_Fx qL_O 249 K2 R2 M2 → ck_fr q32_207_W 249 K R M 249 K2 R2 M2 → SPc 207 last M2 → Q (.inl none) 249 K2 R2 M2) : gm_Wp X LX d 0 0 148 0 (gm_ent 148 [gm_vr 207, gm_vi last]) [] 249 K R M Q := by
  have hb := spc_b hs
  have h7 : M 207 7 = i := hs.2.2
  refine gm_sz (gm_p_load (pc := 0) (i := .aload_n 0) (sr := 2) (j := 0) (by decide +kernel) rfl rfl rfl) ?_
  refine gm_sz (fw_gi (pc := 1) (ix := 28) (ci := 5) (j := 7) (x := i) (by decide +kernel) (e0k (e0F (pl_o (qL_p hF))) (k := 207) (c := 5) (by decide +kernel)) (by decide +kernel) (by decide +kernel) h7) ?_
  refine gm_sz (gm_p_stor (pc := 4) (i := .istore_n 2) (sr := 0) (j := 2) (by decide +kernel) rfl (show 3 ≤ _ from Nat.le_of_ble_eq_true rfl) rfl) ?_
  exact q148_207_l (mx := last) hS hd hl (Int.le_refl _) h8 (fun i2 K2 R2 M2 _ _ a b hs2 hF2 hfr2 => q K2 R2 M2 hF2 hfr2 (by rw [show i2 = last by omega] at hs2; exact hs2)) (299 - i).toNat i K R M (by omega) hb.2 hi hs hF ck_fr_0
end RU27
end
/-! 7c28.sl -/
section
/-! WHERE A TRAVELLER STARTS: a letter's place, a person's; or -1 thrice, where there is none. -/
section SL28
variable {X : Int → Int} {LX d bc bs n : Nat} {K : gm_K} {R : gm_R} {M : gm_M} {Q : gm_Q} {lane row year speed l p y x z : Int} {N h : Int → Int} {sp : Int → Int → Int}
theorem ln_rock (hd : 1 ≤ d) (hE : E0 n K R) (hT : TI N h sp M) (hN : NR N) (h1 : N 4 ≤ l ∧ l < 100) (q0 : Q (.inl (some (gm_vi 1))) n K R (M)) : gm_Wp X LX d bc bs 28 0 (gm_ent 28 [gm_vr 3, gm_vi l]) [] n K R M Q := by
  obtain ⟨⟨⟨a0, b0⟩, ⟨a1, b1⟩, ⟨a10, b10⟩, ⟨a11, b11⟩, ⟨a12, b12⟩, a9, b9⟩, ⟨⟨a2, b2⟩, ⟨a5, b5⟩, ⟨a3, b3⟩, ⟨a4, b4⟩, ⟨a6, b6⟩, ⟨a14, b14⟩, ⟨a7, b7⟩, a13, b13⟩, rF, rP, rL⟩ := id hN
  refine gm_sz (gm_p_load (pc := 0) (i := .aload_n 0) (sr := 2) (j := 0) (by decide +kernel) rfl rfl rfl) ?_
  refine gm_sz (fw_gr (pc := 1) (ix := 55) (ci := 1) (j := 12) (r := 10) (by decide +kernel) (e0k hE (k := 3) (c := 1) (by decide +kernel)) (by decide +kernel) (by decide +kernel) (e0r hE (k := 3) (j := 12) (r := 10) (by decide +kernel))) ?_
  refine gm_sz (gm_p_load (pc := 4) (i := .iload_n 1) (sr := 0) (j := 1) (by decide +kernel) rfl rfl rfl) ?_
  refine gm_sz (gm_p_const (pc := 5) (i := .iconst 0) (v := gm_vi 0) (by decide +kernel) (by decide +kernel)) ?_
  refine gm_c_virt (k := 10) (ci := 2) (mj := 10) (ix := 72) (pc := 6) (as := [gm_vi l, gm_vi 0]) (st := []) (d' := d - 1) (bc' := 0) (bs' := 0) (by decide +kernel) (by decide +kernel) (by decide +kernel) (by decide +kernel) (e0k hE (k := 10) (c := 2) (by decide +kernel)).1 (e0k hE (k := 10) (c := 2) (by decide +kernel)).2 (by decide) (by decide +kernel) (show 2 = gm_na 10 by decide +kernel) (fw_c2 fw_si fw_si) (show 3 ≤ gm_ml 10 by decide +kernel) (Nat.le_of_ble_eq_true rfl) (by omega) (Nat.zero_le _) (Nat.zero_le _) ?_
  refine rw_none (s := N 4) (e0k hE (k := 10) (c := 2) (by decide +kernel)) (ti_let hT) (by omega) ⟨⟨by omega, by omega⟩, ⟨by omega, by omega⟩⟩ ?_
  show gm_Wp X LX d _ _ 28 9 _ [gm_vi (-1)] n K _ _ Q
  refine gm_sz (gm_p_const (pc := 9) (i := .iconst (-1)) (v := gm_vi (-1)) (by decide +kernel) (by decide +kernel)) ?_
  refine fw_icfd (cc := .ne) (pc := 10) (off := 7) (by decide +kernel) (by decide) ⟨by decide, by decide⟩ ⟨by decide, by decide⟩ (by decide) ?_
  refine gm_sz (gm_p_const (pc := 13) (i := .iconst 1) (v := gm_vi 1) (by decide +kernel) (by decide +kernel)) ?_
  refine gm_sz (gm_p_goto (pc := 14) (off := 4) (by decide +kernel) (by decide)) ?_
  exact gm_r_int (pc := 18) (by decide +kernel) (Or.inr ⟨(by decide +kernel), Or.inr rfl⟩) q0
def ln_l206 (M : gm_M) : gm_M := gm_uM (gm_uM (gm_uM (gm_uM (gm_uM (gm_uM (gm_uM M 206 2 (-1)) 206 5 (-1)) 206 7 (-1)) 206 3 1) 206 4 (-1)) 206 6 0) 206 8 0
theorem ln_let206 (hd : 2 ≤ d) (hE : E0 n K R) (hT : TI N h sp M) (hN : NR N) (h1 : N 4 ≤ l ∧ l < 100) (q0 : Q (.inl (none)) n K R (ln_l206 M)) : gm_Wp X LX d bc bs 27 0 (gm_ent 27 [gm_vr 206, gm_vi l]) [] n K R M Q := by
  obtain ⟨⟨⟨a0, b0⟩, ⟨a1, b1⟩, ⟨a10, b10⟩, ⟨a11, b11⟩, ⟨a12, b12⟩, a9, b9⟩, ⟨⟨a2, b2⟩, ⟨a5, b5⟩, ⟨a3, b3⟩, ⟨a4, b4⟩, ⟨a6, b6⟩, ⟨a14, b14⟩, ⟨a7, b7⟩, a13, b13⟩, rF, rP, rL⟩ := id hN
  refine gm_sz (gm_p_load (pc := 0) (i := .aload_n 0) (sr := 2) (j := 0) (by decide +kernel) rfl rfl rfl) ?_
  refine gm_sz (fw_gr (pc := 1) (ix := 34) (ci := 5) (j := 0) (r := 3) (by decide +kernel) (e0k hE (k := 206) (c := 5) (by decide +kernel)) (by decide +kernel) (by decide +kernel) (e0r hE (k := 206) (j := 0) (r := 3) (by decide +kernel))) ?_
  refine gm_sz (fw_gr (pc := 4) (ix := 42) (ci := 1) (j := 12) (r := 10) (by decide +kernel) (e0k hE (k := 3) (c := 1) (by decide +kernel)) (by decide +kernel) (by decide +kernel) (e0r hE (k := 3) (j := 12) (r := 10) (by decide +kernel))) ?_
  refine gm_sz (gm_p_stor (pc := 7) (i := .astore_n 2) (sr := 2) (j := 2) (by decide +kernel) rfl (show 3 ≤ _ from Nat.le_of_ble_eq_true rfl) rfl) ?_
  refine gm_sz (gm_p_load (pc := 8) (i := .aload_n 0) (sr := 2) (j := 0) (by decide +kernel) rfl rfl rfl) ?_
  refine gm_sz (gm_p_load (pc := 9) (i := .aload_n 2) (sr := 2) (j := 2) (by decide +kernel) rfl rfl rfl) ?_
  refine gm_sz (gm_p_load (pc := 10) (i := .iload_n 1) (sr := 0) (j := 1) (by decide +kernel) rfl rfl rfl) ?_
  refine gm_sz (gm_p_const (pc := 11) (i := .iconst 2) (v := gm_vi 2) (by decide +kernel) (by decide +kernel)) ?_
  refine gm_c_virt (k := 10) (ci := 2) (mj := 10) (ix := 48) (pc := 12) (as := [gm_vi l, gm_vi 2]) (st := [gm_vr 206]) (d' := d - 1) (bc' := 0) (bs' := 0) (by decide +kernel) (by decide +kernel) (by decide +kernel) (by decide +kernel) (e0k hE (k := 10) (c := 2) (by decide +kernel)).1 (e0k hE (k := 10) (c := 2) (by decide +kernel)).2 (by decide) (by decide +kernel) (show 2 = gm_na 10 by decide +kernel) (fw_c2 fw_si fw_si) (show 3 ≤ gm_ml 10 by decide +kernel) (Nat.le_of_ble_eq_true rfl) (by omega) (Nat.zero_le _) (Nat.zero_le _) ?_
  refine rw_none (s := N 4) (e0k hE (k := 10) (c := 2) (by decide +kernel)) (ti_let hT) (by omega) ⟨⟨by omega, by omega⟩, ⟨by omega, by omega⟩⟩ ?_
  show gm_Wp X LX d _ _ 27 15 _ [gm_vi (-1), gm_vr 206] n K _ _ Q
  refine gm_sz (gm_p_load (pc := 15) (i := .aload_n 2) (sr := 2) (j := 2) (by decide +kernel) rfl rfl rfl) ?_
  refine gm_sz (gm_p_load (pc := 16) (i := .iload_n 1) (sr := 0) (j := 1) (by decide +kernel) rfl rfl rfl) ?_
  refine gm_sz (gm_p_const (pc := 17) (i := .iconst 4) (v := gm_vi 4) (by decide +kernel) (by decide +kernel)) ?_
  refine gm_c_virt (k := 10) (ci := 2) (mj := 10) (ix := 48) (pc := 18) (as := [gm_vi l, gm_vi 4]) (st := [gm_vi (-1), gm_vr 206]) (d' := d - 1) (bc' := 0) (bs' := 0) (by decide +kernel) (by decide +kernel) (by decide +kernel) (by decide +kernel) (e0k hE (k := 10) (c := 2) (by decide +kernel)).1 (e0k hE (k := 10) (c := 2) (by decide +kernel)).2 (by decide) (by decide +kernel) (show 2 = gm_na 10 by decide +kernel) (fw_c2 fw_si fw_si) (show 3 ≤ gm_ml 10 by decide +kernel) (Nat.le_of_ble_eq_true rfl) (by omega) (Nat.zero_le _) (Nat.zero_le _) ?_
  refine rw_none (s := N 4) (e0k hE (k := 10) (c := 2) (by decide +kernel)) (ti_let hT) (by omega) ⟨⟨by omega, by omega⟩, ⟨by omega, by omega⟩⟩ ?_
  show gm_Wp X LX d _ _ 27 21 _ [gm_vi (-1), gm_vi (-1), gm_vr 206] n K _ _ Q
  refine gm_sz (gm_p_load (pc := 21) (i := .aload_n 2) (sr := 2) (j := 2) (by decide +kernel) rfl rfl rfl) ?_
  refine gm_sz (gm_p_load (pc := 22) (i := .iload_n 1) (sr := 0) (j := 1) (by decide +kernel) rfl rfl rfl) ?_
  refine gm_sz (gm_p_const (pc := 23) (i := .iconst 3) (v := gm_vi 3) (by decide +kernel) (by decide +kernel)) ?_
  refine gm_c_virt (k := 10) (ci := 2) (mj := 10) (ix := 48) (pc := 24) (as := [gm_vi l, gm_vi 3]) (st := [gm_vi (-1), gm_vi (-1), gm_vr 206]) (d' := d - 1) (bc' := 0) (bs' := 0) (by decide +kernel) (by decide +kernel) (by decide +kernel) (by decide +kernel) (e0k hE (k := 10) (c := 2) (by decide +kernel)).1 (e0k hE (k := 10) (c := 2) (by decide +kernel)).2 (by decide) (by decide +kernel) (show 2 = gm_na 10 by decide +kernel) (fw_c2 fw_si fw_si) (show 3 ≤ gm_ml 10 by decide +kernel) (Nat.le_of_ble_eq_true rfl) (by omega) (Nat.zero_le _) (Nat.zero_le _) ?_
  refine rw_none (s := N 4) (e0k hE (k := 10) (c := 2) (by decide +kernel)) (ti_let hT) (by omega) ⟨⟨by omega, by omega⟩, ⟨by omega, by omega⟩⟩ ?_
  show gm_Wp X LX d _ _ 27 27 _ [gm_vi (-1), gm_vi (-1), gm_vi (-1), gm_vr 206] n K _ _ Q
  refine gm_sz (gm_p_load (pc := 27) (i := .aload_n 0) (sr := 2) (j := 0) (by decide +kernel) rfl rfl rfl) ?_
  refine gm_sz (fw_gr (pc := 28) (ix := 34) (ci := 5) (j := 0) (r := 3) (by decide +kernel) (e0k hE (k := 206) (c := 5) (by decide +kernel)) (by decide +kernel) (by decide +kernel) (e0r hE (k := 206) (j := 0) (r := 3) (by decide +kernel))) ?_
  refine gm_sz (gm_p_load (pc := 31) (i := .iload_n 1) (sr := 0) (j := 1) (by decide +kernel) rfl rfl rfl) ?_
  refine gm_c_virt (k := 3) (ci := 1) (mj := 28) (ix := 54) (pc := 32) (as := [gm_vi l]) (st := [gm_vi (-1), gm_vi (-1), gm_vi (-1), gm_vr 206]) (d' := d - 1) (bc' := 0) (bs' := 0) (by decide +kernel) (by decide +kernel) (by decide +kernel) (by decide +kernel) (e0k hE (k := 3) (c := 1) (by decide +kernel)).1 (e0k hE (k := 3) (c := 1) (by decide +kernel)).2 (by decide) (by decide +kernel) (show 1 = gm_na 28 by decide +kernel) (fw_c1 fw_si) (show 2 ≤ gm_ml 28 by decide +kernel) (Nat.le_of_ble_eq_true rfl) (by omega) (Nat.zero_le _) (Nat.zero_le _) ?_
  refine ln_rock (by omega) hE hT hN ⟨by omega, by omega⟩ ?_
  show gm_Wp X LX d _ _ 27 35 _ [gm_vi 1, gm_vi (-1), gm_vi (-1), gm_vi (-1), gm_vr 206] n K _ _ Q
  refine gm_c_virt (k := 206) (ci := 5) (mj := 29) (ix := 58) (pc := 35) (as := [gm_vi (-1), gm_vi (-1), gm_vi (-1), gm_vi 1]) (st := []) (d' := d - 1) (bc' := 0) (bs' := 0) (by decide +kernel) (by decide +kernel) (by decide +kernel) (by decide +kernel) (e0k hE (k := 206) (c := 5) (by decide +kernel)).1 (e0k hE (k := 206) (c := 5) (by decide +kernel)).2 (by decide) (by decide +kernel) (show 4 = gm_na 29 by decide +kernel) (fw_c4 fw_si fw_si fw_si fw_si) (show 5 ≤ gm_ml 29 by decide +kernel) (Nat.le_of_ble_eq_true rfl) (by omega) (Nat.zero_le _) (Nat.zero_le _) ?_
  refine wy_st206 hE hT hN ⟨by decide, by decide⟩ ?_
  show gm_Wp X LX d _ _ 27 38 _ [] n K _ _ Q
  exact gm_r_void (pc := 38) (by decide +kernel) (by decide +kernel) q0
def ln_l207 (M : gm_M) : gm_M := gm_uM (gm_uM (gm_uM (gm_uM (gm_uM (gm_uM (gm_uM M 207 2 (-1)) 207 5 (-1)) 207 7 (-1)) 207 3 1) 207 4 (-1)) 207 6 0) 207 8 0
theorem ln_let207 (hd : 2 ≤ d) (hE : E0 n K R) (hT : TI N h sp M) (hN : NR N) (h1 : N 4 ≤ l ∧ l < 100) (q0 : Q (.inl (none)) n K R (ln_l207 M)) : gm_Wp X LX d bc bs 27 0 (gm_ent 27 [gm_vr 207, gm_vi l]) [] n K R M Q := by
  obtain ⟨⟨⟨a0, b0⟩, ⟨a1, b1⟩, ⟨a10, b10⟩, ⟨a11, b11⟩, ⟨a12, b12⟩, a9, b9⟩, ⟨⟨a2, b2⟩, ⟨a5, b5⟩, ⟨a3, b3⟩, ⟨a4, b4⟩, ⟨a6, b6⟩, ⟨a14, b14⟩, ⟨a7, b7⟩, a13, b13⟩, rF, rP, rL⟩ := id hN
  refine gm_sz (gm_p_load (pc := 0) (i := .aload_n 0) (sr := 2) (j := 0) (by decide +kernel) rfl rfl rfl) ?_
  refine gm_sz (fw_gr (pc := 1) (ix := 34) (ci := 5) (j := 0) (r := 3) (by decide +kernel) (e0k hE (k := 207) (c := 5) (by decide +kernel)) (by decide +kernel) (by decide +kernel) (e0r hE (k := 207) (j := 0) (r := 3) (by decide +kernel))) ?_
  refine gm_sz (fw_gr (pc := 4) (ix := 42) (ci := 1) (j := 12) (r := 10) (by decide +kernel) (e0k hE (k := 3) (c := 1) (by decide +kernel)) (by decide +kernel) (by decide +kernel) (e0r hE (k := 3) (j := 12) (r := 10) (by decide +kernel))) ?_
  refine gm_sz (gm_p_stor (pc := 7) (i := .astore_n 2) (sr := 2) (j := 2) (by decide +kernel) rfl (show 3 ≤ _ from Nat.le_of_ble_eq_true rfl) rfl) ?_
  refine gm_sz (gm_p_load (pc := 8) (i := .aload_n 0) (sr := 2) (j := 0) (by decide +kernel) rfl rfl rfl) ?_
  refine gm_sz (gm_p_load (pc := 9) (i := .aload_n 2) (sr := 2) (j := 2) (by decide +kernel) rfl rfl rfl) ?_
  refine gm_sz (gm_p_load (pc := 10) (i := .iload_n 1) (sr := 0) (j := 1) (by decide +kernel) rfl rfl rfl) ?_
  refine gm_sz (gm_p_const (pc := 11) (i := .iconst 2) (v := gm_vi 2) (by decide +kernel) (by decide +kernel)) ?_
  refine gm_c_virt (k := 10) (ci := 2) (mj := 10) (ix := 48) (pc := 12) (as := [gm_vi l, gm_vi 2]) (st := [gm_vr 207]) (d' := d - 1) (bc' := 0) (bs' := 0) (by decide +kernel) (by decide +kernel) (by decide +kernel) (by decide +kernel) (e0k hE (k := 10) (c := 2) (by decide +kernel)).1 (e0k hE (k := 10) (c := 2) (by decide +kernel)).2 (by decide) (by decide +kernel) (show 2 = gm_na 10 by decide +kernel) (fw_c2 fw_si fw_si) (show 3 ≤ gm_ml 10 by decide +kernel) (Nat.le_of_ble_eq_true rfl) (by omega) (Nat.zero_le _) (Nat.zero_le _) ?_
  refine rw_none (s := N 4) (e0k hE (k := 10) (c := 2) (by decide +kernel)) (ti_let hT) (by omega) ⟨⟨by omega, by omega⟩, ⟨by omega, by omega⟩⟩ ?_
  show gm_Wp X LX d _ _ 27 15 _ [gm_vi (-1), gm_vr 207] n K _ _ Q
  refine gm_sz (gm_p_load (pc := 15) (i := .aload_n 2) (sr := 2) (j := 2) (by decide +kernel) rfl rfl rfl) ?_
  refine gm_sz (gm_p_load (pc := 16) (i := .iload_n 1) (sr := 0) (j := 1) (by decide +kernel) rfl rfl rfl) ?_
  refine gm_sz (gm_p_const (pc := 17) (i := .iconst 4) (v := gm_vi 4) (by decide +kernel) (by decide +kernel)) ?_
  refine gm_c_virt (k := 10) (ci := 2) (mj := 10) (ix := 48) (pc := 18) (as := [gm_vi l, gm_vi 4]) (st := [gm_vi (-1), gm_vr 207]) (d' := d - 1) (bc' := 0) (bs' := 0) (by decide +kernel) (by decide +kernel) (by decide +kernel) (by decide +kernel) (e0k hE (k := 10) (c := 2) (by decide +kernel)).1 (e0k hE (k := 10) (c := 2) (by decide +kernel)).2 (by decide) (by decide +kernel) (show 2 = gm_na 10 by decide +kernel) (fw_c2 fw_si fw_si) (show 3 ≤ gm_ml 10 by decide +kernel) (Nat.le_of_ble_eq_true rfl) (by omega) (Nat.zero_le _) (Nat.zero_le _) ?_
  refine rw_none (s := N 4) (e0k hE (k := 10) (c := 2) (by decide +kernel)) (ti_let hT) (by omega) ⟨⟨by omega, by omega⟩, ⟨by omega, by omega⟩⟩ ?_
  show gm_Wp X LX d _ _ 27 21 _ [gm_vi (-1), gm_vi (-1), gm_vr 207] n K _ _ Q
  refine gm_sz (gm_p_load (pc := 21) (i := .aload_n 2) (sr := 2) (j := 2) (by decide +kernel) rfl rfl rfl) ?_
  refine gm_sz (gm_p_load (pc := 22) (i := .iload_n 1) (sr := 0) (j := 1) (by decide +kernel) rfl rfl rfl) ?_
  refine gm_sz (gm_p_const (pc := 23) (i := .iconst 3) (v := gm_vi 3) (by decide +kernel) (by decide +kernel)) ?_
  refine gm_c_virt (k := 10) (ci := 2) (mj := 10) (ix := 48) (pc := 24) (as := [gm_vi l, gm_vi 3]) (st := [gm_vi (-1), gm_vi (-1), gm_vr 207]) (d' := d - 1) (bc' := 0) (bs' := 0) (by decide +kernel) (by decide +kernel) (by decide +kernel) (by decide +kernel) (e0k hE (k := 10) (c := 2) (by decide +kernel)).1 (e0k hE (k := 10) (c := 2) (by decide +kernel)).2 (by decide) (by decide +kernel) (show 2 = gm_na 10 by decide +kernel) (fw_c2 fw_si fw_si) (show 3 ≤ gm_ml 10 by decide +kernel) (Nat.le_of_ble_eq_true rfl) (by omega) (Nat.zero_le _) (Nat.zero_le _) ?_
  refine rw_none (s := N 4) (e0k hE (k := 10) (c := 2) (by decide +kernel)) (ti_let hT) (by omega) ⟨⟨by omega, by omega⟩, ⟨by omega, by omega⟩⟩ ?_
  show gm_Wp X LX d _ _ 27 27 _ [gm_vi (-1), gm_vi (-1), gm_vi (-1), gm_vr 207] n K _ _ Q
  refine gm_sz (gm_p_load (pc := 27) (i := .aload_n 0) (sr := 2) (j := 0) (by decide +kernel) rfl rfl rfl) ?_
  refine gm_sz (fw_gr (pc := 28) (ix := 34) (ci := 5) (j := 0) (r := 3) (by decide +kernel) (e0k hE (k := 207) (c := 5) (by decide +kernel)) (by decide +kernel) (by decide +kernel) (e0r hE (k := 207) (j := 0) (r := 3) (by decide +kernel))) ?_
  refine gm_sz (gm_p_load (pc := 31) (i := .iload_n 1) (sr := 0) (j := 1) (by decide +kernel) rfl rfl rfl) ?_
  refine gm_c_virt (k := 3) (ci := 1) (mj := 28) (ix := 54) (pc := 32) (as := [gm_vi l]) (st := [gm_vi (-1), gm_vi (-1), gm_vi (-1), gm_vr 207]) (d' := d - 1) (bc' := 0) (bs' := 0) (by decide +kernel) (by decide +kernel) (by decide +kernel) (by decide +kernel) (e0k hE (k := 3) (c := 1) (by decide +kernel)).1 (e0k hE (k := 3) (c := 1) (by decide +kernel)).2 (by decide) (by decide +kernel) (show 1 = gm_na 28 by decide +kernel) (fw_c1 fw_si) (show 2 ≤ gm_ml 28 by decide +kernel) (Nat.le_of_ble_eq_true rfl) (by omega) (Nat.zero_le _) (Nat.zero_le _) ?_
  refine ln_rock (by omega) hE hT hN ⟨by omega, by omega⟩ ?_
  show gm_Wp X LX d _ _ 27 35 _ [gm_vi 1, gm_vi (-1), gm_vi (-1), gm_vi (-1), gm_vr 207] n K _ _ Q
  refine gm_c_virt (k := 207) (ci := 5) (mj := 29) (ix := 58) (pc := 35) (as := [gm_vi (-1), gm_vi (-1), gm_vi (-1), gm_vi 1]) (st := []) (d' := d - 1) (bc' := 0) (bs' := 0) (by decide +kernel) (by decide +kernel) (by decide +kernel) (by decide +kernel) (e0k hE (k := 207) (c := 5) (by decide +kernel)).1 (e0k hE (k := 207) (c := 5) (by decide +kernel)).2 (by decide) (by decide +kernel) (show 4 = gm_na 29 by decide +kernel) (fw_c4 fw_si fw_si fw_si fw_si) (show 5 ≤ gm_ml 29 by decide +kernel) (Nat.le_of_ble_eq_true rfl) (by omega) (Nat.zero_le _) (Nat.zero_le _) ?_
  refine wy_st207 hE hT hN ⟨by decide, by decide⟩ ?_
  show gm_Wp X LX d _ _ 27 38 _ [] n K _ _ Q
  exact gm_r_void (pc := 38) (by decide +kernel) (by decide +kernel) q0
def ln_h206 (M : gm_M) (year : Int) : gm_M := gm_uM (gm_uM (gm_uM (gm_uM (gm_uM (gm_uM (gm_uM M 206 2 (-1)) 206 5 (-1)) 206 7 year) 206 3 0) 206 4 (-1)) 206 6 0) 206 8 0
theorem ln_hut206 (hd : 2 ≤ d) (hE : E0 n K R) (hT : TI N h sp M) (hN : NR N) (h1 : N 3 ≤ p ∧ p < 100) (q0 : Q (.inl (none)) n K R (ln_h206 M year)) : gm_Wp X LX d bc bs 170 0 (gm_ent 170 [gm_vr 206, gm_vi p, gm_vi year]) [] n K R M Q := by
  obtain ⟨⟨⟨a0, b0⟩, ⟨a1, b1⟩, ⟨a10, b10⟩, ⟨a11, b11⟩, ⟨a12, b12⟩, a9, b9⟩, ⟨⟨a2, b2⟩, ⟨a5, b5⟩, ⟨a3, b3⟩, ⟨a4, b4⟩, ⟨a6, b6⟩, ⟨a14, b14⟩, ⟨a7, b7⟩, a13, b13⟩, rF, rP, rL⟩ := id hN
  refine gm_sz (gm_p_load (pc := 0) (i := .aload_n 0) (sr := 2) (j := 0) (by decide +kernel) rfl rfl rfl) ?_
  refine gm_sz (gm_p_load (pc := 1) (i := .aload_n 0) (sr := 2) (j := 0) (by decide +kernel) rfl rfl rfl) ?_
  refine gm_sz (fw_gr (pc := 2) (ix := 34) (ci := 5) (j := 0) (r := 3) (by decide +kernel) (e0k hE (k := 206) (c := 5) (by decide +kernel)) (by decide +kernel) (by decide +kernel) (e0r hE (k := 206) (j := 0) (r := 3) (by decide +kernel))) ?_
  refine gm_sz (fw_gr (pc := 5) (ix := 62) (ci := 1) (j := 11) (r := 8) (by decide +kernel) (e0k hE (k := 3) (c := 1) (by decide +kernel)) (by decide +kernel) (by decide +kernel) (e0r hE (k := 3) (j := 11) (r := 8) (by decide +kernel))) ?_
  refine gm_sz (gm_p_load (pc := 8) (i := .iload_n 1) (sr := 0) (j := 1) (by decide +kernel) rfl rfl rfl) ?_
  refine gm_sz (gm_p_const (pc := 9) (i := .iconst 0) (v := gm_vi 0) (by decide +kernel) (by decide +kernel)) ?_
  refine gm_c_virt (k := 8) (ci := 2) (mj := 10) (ix := 48) (pc := 10) (as := [gm_vi p, gm_vi 0]) (st := [gm_vr 206]) (d' := d - 1) (bc' := 0) (bs' := 0) (by decide +kernel) (by decide +kernel) (by decide +kernel) (by decide +kernel) (e0k hE (k := 8) (c := 2) (by decide +kernel)).1 (e0k hE (k := 8) (c := 2) (by decide +kernel)).2 (by decide) (by decide +kernel) (show 2 = gm_na 10 by decide +kernel) (fw_c2 fw_si fw_si) (show 3 ≤ gm_ml 10 by decide +kernel) (Nat.le_of_ble_eq_true rfl) (by omega) (Nat.zero_le _) (Nat.zero_le _) ?_
  refine rw_none (s := N 3) (e0k hE (k := 8) (c := 2) (by decide +kernel)) (ti_peo hT) (by omega) ⟨⟨by omega, by omega⟩, ⟨by omega, by omega⟩⟩ ?_
  show gm_Wp X LX d _ _ 170 13 _ [gm_vi (-1), gm_vr 206] n K _ _ Q
  refine gm_sz (gm_p_load (pc := 13) (i := .aload_n 0) (sr := 2) (j := 0) (by decide +kernel) rfl rfl rfl) ?_
  refine gm_sz (fw_gr (pc := 14) (ix := 34) (ci := 5) (j := 0) (r := 3) (by decide +kernel) (e0k hE (k := 206) (c := 5) (by decide +kernel)) (by decide +kernel) (by decide +kernel) (e0r hE (k := 206) (j := 0) (r := 3) (by decide +kernel))) ?_
  refine gm_sz (fw_gr (pc := 17) (ix := 62) (ci := 1) (j := 11) (r := 8) (by decide +kernel) (e0k hE (k := 3) (c := 1) (by decide +kernel)) (by decide +kernel) (by decide +kernel) (e0r hE (k := 3) (j := 11) (r := 8) (by decide +kernel))) ?_
  refine gm_sz (gm_p_load (pc := 20) (i := .iload_n 1) (sr := 0) (j := 1) (by decide +kernel) rfl rfl rfl) ?_
  refine gm_sz (gm_p_const (pc := 21) (i := .iconst 1) (v := gm_vi 1) (by decide +kernel) (by decide +kernel)) ?_
  refine gm_c_virt (k := 8) (ci := 2) (mj := 10) (ix := 48) (pc := 22) (as := [gm_vi p, gm_vi 1]) (st := [gm_vi (-1), gm_vr 206]) (d' := d - 1) (bc' := 0) (bs' := 0) (by decide +kernel) (by decide +kernel) (by decide +kernel) (by decide +kernel) (e0k hE (k := 8) (c := 2) (by decide +kernel)).1 (e0k hE (k := 8) (c := 2) (by decide +kernel)).2 (by decide) (by decide +kernel) (show 2 = gm_na 10 by decide +kernel) (fw_c2 fw_si fw_si) (show 3 ≤ gm_ml 10 by decide +kernel) (Nat.le_of_ble_eq_true rfl) (by omega) (Nat.zero_le _) (Nat.zero_le _) ?_
  refine rw_none (s := N 3) (e0k hE (k := 8) (c := 2) (by decide +kernel)) (ti_peo hT) (by omega) ⟨⟨by omega, by omega⟩, ⟨by omega, by omega⟩⟩ ?_
  show gm_Wp X LX d _ _ 170 25 _ [gm_vi (-1), gm_vi (-1), gm_vr 206] n K _ _ Q
  refine gm_sz (gm_p_load (pc := 25) (i := .iload_n 2) (sr := 0) (j := 2) (by decide +kernel) rfl rfl rfl) ?_
  refine gm_sz (gm_p_const (pc := 26) (i := .iconst 0) (v := gm_vi 0) (by decide +kernel) (by decide +kernel)) ?_
  refine gm_c_virt (k := 206) (ci := 5) (mj := 29) (ix := 58) (pc := 27) (as := [gm_vi (-1), gm_vi (-1), gm_vi year, gm_vi 0]) (st := []) (d' := d - 1) (bc' := 0) (bs' := 0) (by decide +kernel) (by decide +kernel) (by decide +kernel) (by decide +kernel) (e0k hE (k := 206) (c := 5) (by decide +kernel)).1 (e0k hE (k := 206) (c := 5) (by decide +kernel)).2 (by decide) (by decide +kernel) (show 4 = gm_na 29 by decide +kernel) (fw_c4 fw_si fw_si fw_si fw_si) (show 5 ≤ gm_ml 29 by decide +kernel) (Nat.le_of_ble_eq_true rfl) (by omega) (Nat.zero_le _) (Nat.zero_le _) ?_
  refine wy_st206 hE hT hN ⟨by decide, by decide⟩ ?_
  show gm_Wp X LX d _ _ 170 30 _ [] n K _ _ Q
  exact gm_r_void (pc := 30) (by decide +kernel) (by decide +kernel) q0
def q27_206p : ck_Sum := ((2, 0, 0), 249, [.inr (.inr (.inl 206)), .inl (0, 23, [])], ([], [], []), ([(206, 2, 8)], []), [(.inr none, 249, ([], [], [(206, 8, 8, ck_one 0), (206, 6, 6, ck_one 0), (206, 4, 4, ck_one (-1)), (206, 7, 7, ((-1), 299, [])), (206, 5, 5, ((-1), 299, [])), (206, 2, 2, ((-1), 299, []))]))])
def q27_206 : ck_Sum := ((2, 0, 0), 249, [.inr (.inr (.inl 206)), .inl (0, 23, [])], ([], [], []), ([(206, 2, 8)], []), [(.inr none, 249, ([], [], [(206, 8, 8, ck_one 0), (206, 6, 6, ck_one 0), (206, 4, 4, ck_one (-1)), (206, 7, 7, (0, 299, [])), (206, 5, 5, (0, 98, [])), (206, 2, 2, (0, 6, []))])), (.inr none, 249, ([], [], [(206, 8, 8, ck_one 0), (206, 6, 6, ck_one 0), (206, 4, 4, ck_one (-1)), (206, 7, 7, ((-1), (-1), [])), (206, 5, 5, ((-1), (-1), [])), (206, 2, 2, ((-1), (-1), []))]))])
theorem q27_206_s (hS : ck_Ok p2_OL X LX 27 q27_206p) : ck_Ok qL_O X LX 27 q27_206 := by
  intro d σ vs n K R M hd hn hvs hσ hF hf
  obtain ⟨v0, w0, rfl, g0, v1, w1, rfl, ⟨x0, rfl, r0, l0, u0, -⟩, g9⟩ := hvs
  have g9 : w1 = [] := g9
  subst g9
  have g0 : v0 = gm_vr 206 := g0
  subst g0
  have l0 : (0 : Int) ≤ x0 := l0
  have u0 : x0 ≤ (23 : Int) := u0
  have hn : n = 249 := hn
  subst hn
  have hd : 2 ≤ d := hd
  have F0 := pl_o (qL_p hF)
  have hrow := hS d σ [gm_vr 206, gm_vi x0] 249 K R M (show 2 ≤ d by omega) rfl ⟨_, _, rfl, rfl, _, _, rfl, ⟨x0, rfl, r0, l0, u0, fun _ h => nomatch h⟩, rfl⟩ (fun q hq => hσ q (List.mem_append_left _ hq)) (qL_p hF) ⟨(fun _ h => nomatch h), (fun _ h => nomatch h), (fun _ h => nomatch h)⟩
  have hq : ∃ N ls, qC (some ls) N M := by
    obtain ⟨hJ, N, ls, hq, -⟩ := hF.2.2.2.2
    exact ⟨N, ls, hq⟩
  obtain ⟨N, ls, hq⟩ := hq
  have hT := ti_x (cstF F0) hq.2.1
  have hN := hq.1.1.1
  have hE := e0F F0
  have hfun : gm_Wp X LX d 0 0 27 0 (gm_ent 27 [gm_vr 206, gm_vi x0]) [] 249 K R M (fun o n1 K1 R1 M1 => K1 = K ∧ (((0 ≤ M1 206 2 ∧ M1 206 2 ≤ 6) ∧ (0 ≤ M1 206 5 ∧ M1 206 5 ≤ 98) ∧ (0 ≤ M1 206 7 ∧ M1 206 7 ≤ 299)) ∨ (M1 206 2 = -1 ∧ M1 206 5 = -1 ∧ M1 206 7 = -1))) := by
    by_cases h4 : x0 < N 4
    · refine wy_let206 (by omega) hE hT hN ⟨l0, h4⟩ ⟨rfl, Or.inl ?_⟩
      have hB := hN.2.2.2.2 x0 l0 h4
      have b0 := hN.1.1
      have b1 := hN.1.2.1
      have b9 := hN.1.2.2.2.2.2
      have z2 : wy_l206 M N x0 206 2 = N (119 + (x0 * 7 + 2)) := by simp [wy_l206, gm_uM]
      have z5 : wy_l206 M N x0 206 5 = N (119 + (x0 * 7 + 4)) := by simp [wy_l206, gm_uM]
      have z7 : wy_l206 M N x0 206 7 = N (119 + (x0 * 7 + 3)) := by simp [wy_l206, gm_uM]
      rw [z2, z5, z7]
      obtain ⟨-, -, c2, c3, c4, -⟩ := hB
      exact ⟨⟨c2.1, by omega⟩, ⟨c4.1, by omega⟩, ⟨c3.1, by omega⟩⟩
    · refine ln_let206 (by omega) hE hT hN ⟨by omega, by omega⟩ ⟨rfl, Or.inr ?_⟩
      have z2 : ln_l206 M 206 2 = -1 := by simp [ln_l206, gm_uM]
      have z5 : ln_l206 M 206 5 = -1 := by simp [ln_l206, gm_uM]
      have z7 : ln_l206 M 206 7 = -1 := by simp [ln_l206, gm_uM]
      exact ⟨z2, z5, z7⟩
  refine gm_Wp_mono (fun o n2 K2 R2 M2 hh => ?_) (gm_Wp_and hrow hfun)
  obtain ⟨⟨hF2, hfr, oc, hoc, ho, hn2, hf2⟩, o3, n3, K3, R3, M3, ⟨rfl, hI⟩, -, hdt⟩ := hh
  have hKK : ∀ k, 1 ≤ k → k ≤ 249 → K3 k = K2 k := fun k _ hk => (hfr.2.1 k hk).symm
  have e1 : ∀ k j, k ≤ 249 → ¬ k = 206 → M2 k j = M k j := fun k j hk h => hfr.2.2.1 k j hk (fun w hw hh => by
    have := of_decide_eq_true (List.all_eq_true.mp (show q27_206p.2.2.2.2.1.1.all (fun w => decide (w.1 = 206)) = true by decide) w hw)
    omega)
  have e2 : M2 206 2 = gm_w (M3 206 2) := dw_f (dt_sym hdt) (by decide) hKK (pl_o hF2) (show tyF 206 5 2 = true by decide +kernel)
  rw [dw_i ⟨by omega, by omega⟩] at e2
  have e5 : M2 206 5 = gm_w (M3 206 5) := dw_f (dt_sym hdt) (by decide) hKK (pl_o hF2) (show tyF 206 5 5 = true by decide +kernel)
  rw [dw_i ⟨by omega, by omega⟩] at e5
  have e7 : M2 206 7 = gm_w (M3 206 7) := dw_f (dt_sym hdt) (by decide) hKK (pl_o hF2) (show tyF 206 5 7 = true by decide +kernel)
  rw [dw_i ⟨by omega, by omega⟩] at e7
  have ho2 := List.mem_singleton.mp hoc
  subst ho2
  have hF9 : gm_Fx qL_O n2 K2 R2 M2 := qL_b hF (by decide) hF2 hfr (fun N2 ls2 hq2 hk2 hw2 hlr2 => ⟨by
    rw [e1 1 15 (by decide) (by decide)]
    exact hq2.2.2.imp_right fun hh => ⟨hh.1, ends_x hh.2 (fun k j hk => e1 k j (by omega) (by omega))⟩, kfl_b hk2 ⟨by have := hq2.1.1.1.1.1; omega, by have := hq2.1.1.1.1.2.1; omega⟩ (e1 200 6 (by decide) (by decide)) (fun j _ _ => e1 205 j (by decide) (by decide))⟩)
  have hcn : 206 ≤ n2 := by have := hfr.1; omega
  have k8 := hf2.2.2 (206, 8, 8, ck_one 0) List.mem_cons_self
  have k6 := hf2.2.2 (206, 6, 6, ck_one 0) (List.mem_cons_of_mem _ List.mem_cons_self)
  have k4 := hf2.2.2 (206, 4, 4, ck_one (-1)) (List.mem_cons_of_mem _ (List.mem_cons_of_mem _ List.mem_cons_self))
  rcases hI with ⟨i2, i5, i7⟩ | ⟨i2, i5, i7⟩
  · refine ⟨hF9, hfr, _, List.mem_cons_self, ho, hn2, (fun _ h => nomatch h), (fun _ h => nomatch h), fun q hq9 => ?_⟩
    simp only [List.mem_cons, List.not_mem_nil, or_false] at hq9
    rcases hq9 with rfl | rfl | rfl | rfl | rfl | rfl
    · exact k8
    · exact k6
    · exact k4
    · refine ⟨hcn, fun j j1 j2 => ?_⟩
      have ej : j = 7 := Int.le_antisymm j2 j1
      subst ej
      exact ⟨(show gm_ir (M2 206 7) from ⟨by omega, by omega⟩), (show 0 ≤ M2 206 7 by omega), (show M2 206 7 ≤ 299 by omega), fun _ h => nomatch h⟩
    · refine ⟨hcn, fun j j1 j2 => ?_⟩
      have ej : j = 5 := Int.le_antisymm j2 j1
      subst ej
      exact ⟨(show gm_ir (M2 206 5) from ⟨by omega, by omega⟩), (show 0 ≤ M2 206 5 by omega), (show M2 206 5 ≤ 98 by omega), fun _ h => nomatch h⟩
    · refine ⟨hcn, fun j j1 j2 => ?_⟩
      have ej : j = 2 := Int.le_antisymm j2 j1
      subst ej
      exact ⟨(show gm_ir (M2 206 2) from ⟨by omega, by omega⟩), (show 0 ≤ M2 206 2 by omega), (show M2 206 2 ≤ 6 by omega), fun _ h => nomatch h⟩
  · refine ⟨hF9, hfr, _, (List.mem_cons_of_mem _ List.mem_cons_self), ho, hn2, (fun _ h => nomatch h), (fun _ h => nomatch h), fun q hq9 => ?_⟩
    simp only [List.mem_cons, List.not_mem_nil, or_false] at hq9
    rcases hq9 with rfl | rfl | rfl | rfl | rfl | rfl
    · exact k8
    · exact k6
    · exact k4
    · refine ⟨hcn, fun j j1 j2 => ?_⟩
      have ej : j = 7 := Int.le_antisymm j2 j1
      subst ej
      exact ⟨(show gm_ir (M2 206 7) from ⟨by omega, by omega⟩), (show -1 ≤ M2 206 7 by omega), (show M2 206 7 ≤ -1 by omega), fun _ h => nomatch h⟩
    · refine ⟨hcn, fun j j1 j2 => ?_⟩
      have ej : j = 5 := Int.le_antisymm j2 j1
      subst ej
      exact ⟨(show gm_ir (M2 206 5) from ⟨by omega, by omega⟩), (show -1 ≤ M2 206 5 by omega), (show M2 206 5 ≤ -1 by omega), fun _ h => nomatch h⟩
    · refine ⟨hcn, fun j j1 j2 => ?_⟩
      have ej : j = 2 := Int.le_antisymm j2 j1
      subst ej
      exact ⟨(show gm_ir (M2 206 2) from ⟨by omega, by omega⟩), (show -1 ≤ M2 206 2 by omega), (show M2 206 2 ≤ -1 by omega), fun _ h => nomatch h⟩
def q27_207p : ck_Sum := ((2, 0, 0), 249, [.inr (.inr (.inl 207)), .inl (0, 23, [])], ([], [], []), ([(207, 2, 8)], []), [(.inr none, 249, ([], [], [(207, 8, 8, ck_one 0), (207, 6, 6, ck_one 0), (207, 7, 7, ((-1), 299, [])), (207, 5, 5, ((-1), 299, []))]))])
def q27_207 : ck_Sum := ((2, 0, 0), 249, [.inr (.inr (.inl 207)), .inl (0, 23, [])], ([], [], []), ([(207, 2, 8)], []), [(.inr none, 249, ([], [], [(207, 8, 8, ck_one 0), (207, 6, 6, ck_one 0), (207, 7, 7, (0, 299, [])), (207, 5, 5, (0, 98, [])), (207, 2, 2, (0, 6, []))])), (.inr none, 249, ([], [], [(207, 8, 8, ck_one 0), (207, 6, 6, ck_one 0), (207, 7, 7, ((-1), (-1), [])), (207, 5, 5, ((-1), (-1), [])), (207, 2, 2, ((-1), (-1), []))]))])
theorem q27_207_s (hS : ck_Ok p2_OL X LX 27 q27_207p) : ck_Ok qL_O X LX 27 q27_207 := by
  intro d σ vs n K R M hd hn hvs hσ hF hf
  obtain ⟨v0, w0, rfl, g0, v1, w1, rfl, ⟨x0, rfl, r0, l0, u0, -⟩, g9⟩ := hvs
  have g9 : w1 = [] := g9
  subst g9
  have g0 : v0 = gm_vr 207 := g0
  subst g0
  have l0 : (0 : Int) ≤ x0 := l0
  have u0 : x0 ≤ (23 : Int) := u0
  have hn : n = 249 := hn
  subst hn
  have hd : 2 ≤ d := hd
  have F0 := pl_o (qL_p hF)
  have hrow := hS d σ [gm_vr 207, gm_vi x0] 249 K R M (show 2 ≤ d by omega) rfl ⟨_, _, rfl, rfl, _, _, rfl, ⟨x0, rfl, r0, l0, u0, fun _ h => nomatch h⟩, rfl⟩ (fun q hq => hσ q (List.mem_append_left _ hq)) (qL_p hF) ⟨(fun _ h => nomatch h), (fun _ h => nomatch h), (fun _ h => nomatch h)⟩
  have hq : ∃ N ls, qC (some ls) N M := by
    obtain ⟨hJ, N, ls, hq, -⟩ := hF.2.2.2.2
    exact ⟨N, ls, hq⟩
  obtain ⟨N, ls, hq⟩ := hq
  have hT := ti_x (cstF F0) hq.2.1
  have hN := hq.1.1.1
  have hE := e0F F0
  have hfun : gm_Wp X LX d 0 0 27 0 (gm_ent 27 [gm_vr 207, gm_vi x0]) [] 249 K R M (fun o n1 K1 R1 M1 => K1 = K ∧ (((0 ≤ M1 207 2 ∧ M1 207 2 ≤ 6) ∧ (0 ≤ M1 207 5 ∧ M1 207 5 ≤ 98) ∧ (0 ≤ M1 207 7 ∧ M1 207 7 ≤ 299)) ∨ (M1 207 2 = -1 ∧ M1 207 5 = -1 ∧ M1 207 7 = -1))) := by
    by_cases h4 : x0 < N 4
    · refine wy_let207 (by omega) hE hT hN ⟨l0, h4⟩ ⟨rfl, Or.inl ?_⟩
      have hB := hN.2.2.2.2 x0 l0 h4
      have b0 := hN.1.1
      have b1 := hN.1.2.1
      have b9 := hN.1.2.2.2.2.2
      have z2 : wy_l207 M N x0 207 2 = N (119 + (x0 * 7 + 2)) := by simp [wy_l207, gm_uM]
      have z5 : wy_l207 M N x0 207 5 = N (119 + (x0 * 7 + 4)) := by simp [wy_l207, gm_uM]
      have z7 : wy_l207 M N x0 207 7 = N (119 + (x0 * 7 + 3)) := by simp [wy_l207, gm_uM]
      rw [z2, z5, z7]
      obtain ⟨-, -, c2, c3, c4, -⟩ := hB
      exact ⟨⟨c2.1, by omega⟩, ⟨c4.1, by omega⟩, ⟨c3.1, by omega⟩⟩
    · refine ln_let207 (by omega) hE hT hN ⟨by omega, by omega⟩ ⟨rfl, Or.inr ?_⟩
      have z2 : ln_l207 M 207 2 = -1 := by simp [ln_l207, gm_uM]
      have z5 : ln_l207 M 207 5 = -1 := by simp [ln_l207, gm_uM]
      have z7 : ln_l207 M 207 7 = -1 := by simp [ln_l207, gm_uM]
      exact ⟨z2, z5, z7⟩
  refine gm_Wp_mono (fun o n2 K2 R2 M2 hh => ?_) (gm_Wp_and hrow hfun)
  obtain ⟨⟨hF2, hfr, oc, hoc, ho, hn2, hf2⟩, o3, n3, K3, R3, M3, ⟨rfl, hI⟩, -, hdt⟩ := hh
  have hKK : ∀ k, 1 ≤ k → k ≤ 249 → K3 k = K2 k := fun k _ hk => (hfr.2.1 k hk).symm
  have e1 : ∀ k j, k ≤ 249 → ¬ k = 207 → M2 k j = M k j := fun k j hk h => hfr.2.2.1 k j hk (fun w hw hh => by
    have := of_decide_eq_true (List.all_eq_true.mp (show q27_207p.2.2.2.2.1.1.all (fun w => decide (w.1 = 207)) = true by decide) w hw)
    omega)
  have e2 : M2 207 2 = gm_w (M3 207 2) := dw_f (dt_sym hdt) (by decide) hKK (pl_o hF2) (show tyF 207 5 2 = true by decide +kernel)
  rw [dw_i ⟨by omega, by omega⟩] at e2
  have e5 : M2 207 5 = gm_w (M3 207 5) := dw_f (dt_sym hdt) (by decide) hKK (pl_o hF2) (show tyF 207 5 5 = true by decide +kernel)
  rw [dw_i ⟨by omega, by omega⟩] at e5
  have e7 : M2 207 7 = gm_w (M3 207 7) := dw_f (dt_sym hdt) (by decide) hKK (pl_o hF2) (show tyF 207 5 7 = true by decide +kernel)
  rw [dw_i ⟨by omega, by omega⟩] at e7
  have ho2 := List.mem_singleton.mp hoc
  subst ho2
  have hF9 : gm_Fx qL_O n2 K2 R2 M2 := qL_b hF (by decide) hF2 hfr (fun N2 ls2 hq2 hk2 hw2 hlr2 => ⟨by
    rw [e1 1 15 (by decide) (by decide)]
    exact hq2.2.2.imp_right fun hh => ⟨hh.1, ends_x hh.2 (fun k j hk => e1 k j (by omega) (by omega))⟩, kfl_b hk2 ⟨by have := hq2.1.1.1.1.1; omega, by have := hq2.1.1.1.1.2.1; omega⟩ (e1 200 6 (by decide) (by decide)) (fun j _ _ => e1 205 j (by decide) (by decide))⟩)
  have hcn : 207 ≤ n2 := by have := hfr.1; omega
  have k8 := hf2.2.2 (207, 8, 8, ck_one 0) List.mem_cons_self
  have k6 := hf2.2.2 (207, 6, 6, ck_one 0) (List.mem_cons_of_mem _ List.mem_cons_self)
  rcases hI with ⟨i2, i5, i7⟩ | ⟨i2, i5, i7⟩
  · refine ⟨hF9, hfr, _, List.mem_cons_self, ho, hn2, (fun _ h => nomatch h), (fun _ h => nomatch h), fun q hq9 => ?_⟩
    simp only [List.mem_cons, List.not_mem_nil, or_false] at hq9
    rcases hq9 with rfl | rfl | rfl | rfl | rfl
    · exact k8
    · exact k6
    · refine ⟨hcn, fun j j1 j2 => ?_⟩
      have ej : j = 7 := Int.le_antisymm j2 j1
      subst ej
      exact ⟨(show gm_ir (M2 207 7) from ⟨by omega, by omega⟩), (show 0 ≤ M2 207 7 by omega), (show M2 207 7 ≤ 299 by omega), fun _ h => nomatch h⟩
    · refine ⟨hcn, fun j j1 j2 => ?_⟩
      have ej : j = 5 := Int.le_antisymm j2 j1
      subst ej
      exact ⟨(show gm_ir (M2 207 5) from ⟨by omega, by omega⟩), (show 0 ≤ M2 207 5 by omega), (show M2 207 5 ≤ 98 by omega), fun _ h => nomatch h⟩
    · refine ⟨hcn, fun j j1 j2 => ?_⟩
      have ej : j = 2 := Int.le_antisymm j2 j1
      subst ej
      exact ⟨(show gm_ir (M2 207 2) from ⟨by omega, by omega⟩), (show 0 ≤ M2 207 2 by omega), (show M2 207 2 ≤ 6 by omega), fun _ h => nomatch h⟩
  · refine ⟨hF9, hfr, _, (List.mem_cons_of_mem _ List.mem_cons_self), ho, hn2, (fun _ h => nomatch h), (fun _ h => nomatch h), fun q hq9 => ?_⟩
    simp only [List.mem_cons, List.not_mem_nil, or_false] at hq9
    rcases hq9 with rfl | rfl | rfl | rfl | rfl
    · exact k8
    · exact k6
    · refine ⟨hcn, fun j j1 j2 => ?_⟩
      have ej : j = 7 := Int.le_antisymm j2 j1
      subst ej
      exact ⟨(show gm_ir (M2 207 7) from ⟨by omega, by omega⟩), (show -1 ≤ M2 207 7 by omega), (show M2 207 7 ≤ -1 by omega), fun _ h => nomatch h⟩
    · refine ⟨hcn, fun j j1 j2 => ?_⟩
      have ej : j = 5 := Int.le_antisymm j2 j1
      subst ej
      exact ⟨(show gm_ir (M2 207 5) from ⟨by omega, by omega⟩), (show -1 ≤ M2 207 5 by omega), (show M2 207 5 ≤ -1 by omega), fun _ h => nomatch h⟩
    · refine ⟨hcn, fun j j1 j2 => ?_⟩
      have ej : j = 2 := Int.le_antisymm j2 j1
      subst ej
      exact ⟨(show gm_ir (M2 207 2) from ⟨by omega, by omega⟩), (show -1 ≤ M2 207 2 by omega), (show M2 207 2 ≤ -1 by omega), fun _ h => nomatch h⟩
def q170p : ck_Sum := ((1, 0, 0), 249, [.inr (.inr (.inl 206)), .inl (0, 7, []), .inl (0, 299, [])], ([], [], []), ([(206, 2, 8)], []), [(.inr none, 249, ([], [], [(206, 8, 8, ck_one 0), (206, 6, 6, ck_one 0), (206, 4, 4, ck_one (-1)), (206, 7, 7, (0, 299, []))]))])
def q170 : ck_Sum := ((2, 0, 0), 249, [.inr (.inr (.inl 206)), .inl (0, 7, []), .inl (0, 299, [])], ([], [], []), ([(206, 2, 8)], []), [(.inr none, 249, ([], [], [(206, 8, 8, ck_one 0), (206, 6, 6, ck_one 0), (206, 4, 4, ck_one (-1)), (206, 7, 7, (0, 299, [])), (206, 5, 5, (0, 98, [])), (206, 2, 2, (0, 6, []))])), (.inr none, 249, ([], [], [(206, 8, 8, ck_one 0), (206, 6, 6, ck_one 0), (206, 4, 4, ck_one (-1)), (206, 7, 7, (0, 299, [])), (206, 5, 5, ((-1), (-1), [])), (206, 2, 2, ((-1), (-1), []))]))])
theorem q170_s (hS : ck_Ok p2_OL X LX 170 q170p) : ck_Ok qL_O X LX 170 q170 := by
  intro d σ vs n K R M hd hn hvs hσ hF hf
  obtain ⟨v0, w0, rfl, g0, v1, w1, rfl, ⟨x0, rfl, r0, l0, u0, -⟩, v2, w2, rfl, ⟨x1, rfl, r1, l1, u1, -⟩, g9⟩ := hvs
  have g9 : w2 = [] := g9
  subst g9
  have g0 : v0 = gm_vr 206 := g0
  subst g0
  have l0 : (0 : Int) ≤ x0 := l0
  have u0 : x0 ≤ (7 : Int) := u0
  have l1 : (0 : Int) ≤ x1 := l1
  have u1 : x1 ≤ (299 : Int) := u1
  have hn : n = 249 := hn
  subst hn
  have hd : 2 ≤ d := hd
  have F0 := pl_o (qL_p hF)
  have hrow := hS d σ [gm_vr 206, gm_vi x0, gm_vi x1] 249 K R M (show 1 ≤ d by omega) rfl ⟨_, _, rfl, rfl, _, _, rfl, ⟨x0, rfl, r0, l0, u0, fun _ h => nomatch h⟩, _, _, rfl, ⟨x1, rfl, r1, l1, u1, fun _ h => nomatch h⟩, rfl⟩ (fun q hq => hσ q (List.mem_append_left _ hq)) (qL_p hF) ⟨(fun _ h => nomatch h), (fun _ h => nomatch h), (fun _ h => nomatch h)⟩
  have hq : ∃ N ls, qC (some ls) N M := by
    obtain ⟨hJ, N, ls, hq, -⟩ := hF.2.2.2.2
    exact ⟨N, ls, hq⟩
  obtain ⟨N, ls, hq⟩ := hq
  have hT := ti_x (cstF F0) hq.2.1
  have hN := hq.1.1.1
  have hE := e0F F0
  have hfun : gm_Wp X LX d 0 0 170 0 (gm_ent 170 [gm_vr 206, gm_vi x0, gm_vi x1]) [] 249 K R M (fun o n1 K1 R1 M1 => K1 = K ∧ (((0 ≤ M1 206 2 ∧ M1 206 2 ≤ 6) ∧ (0 ≤ M1 206 5 ∧ M1 206 5 ≤ 98) ∧ (0 ≤ M1 206 7 ∧ M1 206 7 ≤ 299)) ∨ (M1 206 2 = -1 ∧ M1 206 5 = -1 ∧ (0 ≤ M1 206 7 ∧ M1 206 7 ≤ 299)))) := by
    by_cases h4 : x0 < N 3
    · refine wy_hut206 (by omega) hE hT hN ⟨l0, h4⟩ ⟨rfl, Or.inl ?_⟩
      have hB := hN.2.2.2.1 x0 l0 h4
      have b0 := hN.1.1
      have b1 := hN.1.2.1
      have z2 : wy_h206 M N x0 x1 206 2 = N (95 + (x0 * 3 + 0)) := by simp [wy_h206, gm_uM]
      have z5 : wy_h206 M N x0 x1 206 5 = N (95 + (x0 * 3 + 1)) := by simp [wy_h206, gm_uM]
      have z7 : wy_h206 M N x0 x1 206 7 = x1 := by simp [wy_h206, gm_uM]
      rw [z2, z5, z7]
      obtain ⟨c2, c3, -⟩ := hB
      exact ⟨⟨c2.1, by omega⟩, ⟨c3.1, by omega⟩, ⟨l1, u1⟩⟩
    · refine ln_hut206 (by omega) hE hT hN ⟨by omega, by omega⟩ ⟨rfl, Or.inr ?_⟩
      have z2 : ln_h206 M x1 206 2 = -1 := by simp [ln_h206, gm_uM]
      have z5 : ln_h206 M x1 206 5 = -1 := by simp [ln_h206, gm_uM]
      have z7 : ln_h206 M x1 206 7 = x1 := by simp [ln_h206, gm_uM]
      exact ⟨z2, z5, by rw [z7]; exact ⟨l1, u1⟩⟩
  refine gm_Wp_mono (fun o n2 K2 R2 M2 hh => ?_) (gm_Wp_and hrow hfun)
  obtain ⟨⟨hF2, hfr, oc, hoc, ho, hn2, hf2⟩, o3, n3, K3, R3, M3, ⟨rfl, hI⟩, -, hdt⟩ := hh
  have hKK : ∀ k, 1 ≤ k → k ≤ 249 → K3 k = K2 k := fun k _ hk => (hfr.2.1 k hk).symm
  have e1 : ∀ k j, k ≤ 249 → ¬ k = 206 → M2 k j = M k j := fun k j hk h => hfr.2.2.1 k j hk (fun w hw hh => by
    have := of_decide_eq_true (List.all_eq_true.mp (show q170p.2.2.2.2.1.1.all (fun w => decide (w.1 = 206)) = true by decide) w hw)
    omega)
  have e2 : M2 206 2 = gm_w (M3 206 2) := dw_f (dt_sym hdt) (by decide) hKK (pl_o hF2) (show tyF 206 5 2 = true by decide +kernel)
  rw [dw_i ⟨by omega, by omega⟩] at e2
  have e5 : M2 206 5 = gm_w (M3 206 5) := dw_f (dt_sym hdt) (by decide) hKK (pl_o hF2) (show tyF 206 5 5 = true by decide +kernel)
  rw [dw_i ⟨by omega, by omega⟩] at e5
  have e7 : M2 206 7 = gm_w (M3 206 7) := dw_f (dt_sym hdt) (by decide) hKK (pl_o hF2) (show tyF 206 5 7 = true by decide +kernel)
  rw [dw_i ⟨by omega, by omega⟩] at e7
  have ho2 := List.mem_singleton.mp hoc
  subst ho2
  have hF9 : gm_Fx qL_O n2 K2 R2 M2 := qL_b hF (by decide) hF2 hfr (fun N2 ls2 hq2 hk2 hw2 hlr2 => ⟨by
    rw [e1 1 15 (by decide) (by decide)]
    exact hq2.2.2.imp_right fun hh => ⟨hh.1, ends_x hh.2 (fun k j hk => e1 k j (by omega) (by omega))⟩, kfl_b hk2 ⟨by have := hq2.1.1.1.1.1; omega, by have := hq2.1.1.1.1.2.1; omega⟩ (e1 200 6 (by decide) (by decide)) (fun j _ _ => e1 205 j (by decide) (by decide))⟩)
  have hcn : 206 ≤ n2 := by have := hfr.1; omega
  have k8 := hf2.2.2 (206, 8, 8, ck_one 0) List.mem_cons_self
  have k6 := hf2.2.2 (206, 6, 6, ck_one 0) (List.mem_cons_of_mem _ List.mem_cons_self)
  have k4 := hf2.2.2 (206, 4, 4, ck_one (-1)) (List.mem_cons_of_mem _ (List.mem_cons_of_mem _ List.mem_cons_self))
  rcases hI with ⟨i2, i5, i7⟩ | ⟨i2, i5, i7⟩
  · refine ⟨hF9, hfr, _, List.mem_cons_self, ho, hn2, (fun _ h => nomatch h), (fun _ h => nomatch h), fun q hq9 => ?_⟩
    simp only [List.mem_cons, List.not_mem_nil, or_false] at hq9
    rcases hq9 with rfl | rfl | rfl | rfl | rfl | rfl
    · exact k8
    · exact k6
    · exact k4
    · refine ⟨hcn, fun j j1 j2 => ?_⟩
      have ej : j = 7 := Int.le_antisymm j2 j1
      subst ej
      exact ⟨(show gm_ir (M2 206 7) from ⟨by omega, by omega⟩), (show 0 ≤ M2 206 7 by omega), (show M2 206 7 ≤ 299 by omega), fun _ h => nomatch h⟩
    · refine ⟨hcn, fun j j1 j2 => ?_⟩
      have ej : j = 5 := Int.le_antisymm j2 j1
      subst ej
      exact ⟨(show gm_ir (M2 206 5) from ⟨by omega, by omega⟩), (show 0 ≤ M2 206 5 by omega), (show M2 206 5 ≤ 98 by omega), fun _ h => nomatch h⟩
    · refine ⟨hcn, fun j j1 j2 => ?_⟩
      have ej : j = 2 := Int.le_antisymm j2 j1
      subst ej
      exact ⟨(show gm_ir (M2 206 2) from ⟨by omega, by omega⟩), (show 0 ≤ M2 206 2 by omega), (show M2 206 2 ≤ 6 by omega), fun _ h => nomatch h⟩
  · refine ⟨hF9, hfr, _, (List.mem_cons_of_mem _ List.mem_cons_self), ho, hn2, (fun _ h => nomatch h), (fun _ h => nomatch h), fun q hq9 => ?_⟩
    simp only [List.mem_cons, List.not_mem_nil, or_false] at hq9
    rcases hq9 with rfl | rfl | rfl | rfl | rfl | rfl
    · exact k8
    · exact k6
    · exact k4
    · refine ⟨hcn, fun j j1 j2 => ?_⟩
      have ej : j = 7 := Int.le_antisymm j2 j1
      subst ej
      exact ⟨(show gm_ir (M2 206 7) from ⟨by omega, by omega⟩), (show 0 ≤ M2 206 7 by omega), (show M2 206 7 ≤ 299 by omega), fun _ h => nomatch h⟩
    · refine ⟨hcn, fun j j1 j2 => ?_⟩
      have ej : j = 5 := Int.le_antisymm j2 j1
      subst ej
      exact ⟨(show gm_ir (M2 206 5) from ⟨by omega, by omega⟩), (show -1 ≤ M2 206 5 by omega), (show M2 206 5 ≤ -1 by omega), fun _ h => nomatch h⟩
    · refine ⟨hcn, fun j j1 j2 => ?_⟩
      have ej : j = 2 := Int.le_antisymm j2 j1
      subst ej
      exact ⟨(show gm_ir (M2 206 2) from ⟨by omega, by omega⟩), (show -1 ≤ M2 206 2 by omega), (show M2 206 2 ≤ -1 by omega), fun _ h => nomatch h⟩
def q29 : ck_Sum := ((0, 0, 0), 249, [.inr (.inr (.inl 206)), .inl (0, 6, []), .inl (0, 98, []), .inl (0, 299, []), .inl (0, 1, [])], ([], [], []), ([(206, 2, 8)], []), [(.inr none, 249, ([], [], [(206, 8, 8, ck_one 0), (206, 6, 6, ck_one 0), (206, 4, 4, ck_one (-1)), (206, 7, 7, (0, 299, [])), (206, 5, 5, (0, 98, [])), (206, 2, 2, (0, 6, []))]))])
theorem q29_s : ck_Ok qL_O X LX 29 q29 := ck_ok_s (O := qL_O) (X := X) (LX := LX) (E := []) (mi := 29) (cuts := []) (f := 100) (S := q29) (lx := none) (XF := []) ⟨qL_nmu, ck_E0⟩ ck_X0 ck_l0 (by decide +kernel)
end SL28
end
