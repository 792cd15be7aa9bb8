/-! LANE -1, which there isn't: FLOW asked of it keeps nothing. -/
section LN
variable {X : Int → Int} {LX d bc bs n NC : Nat} {K : gm_K} {R : gm_R} {M M2 : gm_M} {Q : gm_Q} {N h C Ln : Int → Int} {sp : Int → Int → Int} {m lane row year speed cell f : Int} {φ : Int → Int → Int → Int}
theorem ln_spd (hE : E0 n K R) (hT : TI N h sp M) (hN : NR N) (h1 : lane = -1) (h2 : -1 ≤ row ∧ row < 99) (q0 : Q (.inl (some (gm_vi 0))) n K R (M)) : gm_Wp X LX d bc bs 36 0 (gm_ent 36 [gm_vr 200, gm_vi lane, gm_vi row]) [] n K R M Q := by
  obtain ⟨⟨⟨a0, b0⟩, ⟨a1, b1⟩, ⟨a10, b10⟩, ⟨a11, b11⟩, ⟨a12, b12⟩, a9, b9⟩, ⟨⟨a2, b2⟩, ⟨a5, b5⟩, ⟨a3, b3⟩, ⟨a4, b4⟩, ⟨a6, b6⟩, ⟨a14, b14⟩, ⟨a7, b7⟩, a13, b13⟩, rF, rP, rL⟩ := id hN
  refine gm_sz (gm_p_load (pc := 0) (i := .iload_n 1) (sr := 0) (j := 1) (by decide +kernel) rfl rfl rfl) ?_
  refine gm_sz (gm_p_const (pc := 1) (i := .bipush 99) (v := gm_vi 99) (by decide +kernel) (by decide +kernel)) ?_
  refine gm_sz (gm_p_bin (pc := 3) (i := .imul) (f := fun x y => x * y) (by decide +kernel) rfl) ?_
  refine gm_sz (gm_p_load (pc := 4) (i := .iload_n 2) (sr := 0) (j := 2) (by decide +kernel) rfl rfl rfl) ?_
  refine gm_sz (gm_p_bin (pc := 5) (i := .iadd) (f := fun x y => x + y) (by decide +kernel) rfl) ?_
  refine gm_sz (gm_p_stor (pc := 6) (i := .istore_n 3) (sr := 0) (j := 3) (by decide +kernel) rfl (show 4 ≤ _ from Nat.le_of_ble_eq_true rfl) rfl) ?_
  refine gm_sz (gm_p_load (pc := 7) (i := .iload_n 3) (sr := 0) (j := 3) (by decide +kernel) rfl rfl rfl) ?_
  refine fw_ift (cc := .lt) (pc := 8) (off := 21) (by decide +kernel) (by decide) ⟨by omega, by omega⟩ (show ((lane * 99) + row) < 0 by omega) ?_
  refine gm_sz (gm_p_const (pc := 29) (i := .iconst 0) (v := gm_vi 0) (by decide +kernel) (by decide +kernel)) ?_
  exact gm_r_int (pc := 30) (by decide +kernel) (Or.inl (by decide +kernel)) q0
theorem ln_heat (hE : E0 n K R) (hT : TI N h sp M) (hN : NR N) (h1 : year = -1) (q0 : Q (.inl (some (gm_vi 0))) n K R (M)) : gm_Wp X LX d bc bs 34 0 (gm_ent 34 [gm_vr 200, gm_vi year]) [] n K R M Q := by
  obtain ⟨⟨⟨a0, b0⟩, ⟨a1, b1⟩, ⟨a10, b10⟩, ⟨a11, b11⟩, ⟨a12, b12⟩, a9, b9⟩, ⟨⟨a2, b2⟩, ⟨a5, b5⟩, ⟨a3, b3⟩, ⟨a4, b4⟩, ⟨a6, b6⟩, ⟨a14, b14⟩, ⟨a7, b7⟩, a13, b13⟩, rF, rP, rL⟩ := id hN
  refine gm_sz (gm_p_load (pc := 0) (i := .iload_n 1) (sr := 0) (j := 1) (by decide +kernel) rfl rfl rfl) ?_
  refine fw_ift (cc := .lt) (pc := 1) (off := 19) (by decide +kernel) (by decide) ⟨by omega, by omega⟩ (show year < 0 by omega) ?_
  refine gm_sz (gm_p_const (pc := 20) (i := .iconst 0) (v := gm_vi 0) (by decide +kernel) (by decide +kernel)) ?_
  exact gm_r_int (pc := 21) (by decide +kernel) (Or.inl (by decide +kernel)) q0
theorem ln_sf0 (hd : 1 ≤ d) (hE : E0 n K R) (hT : TI N h sp M) (hN : NR N) (h1 : lane = -1) (h2 : 0 ≤ year ∧ year < 300) (q0 : lane = 0 → (N 12) ≤ lane → Q (.inl (none)) n K R (gm_uM (gm_uM (gm_uM (gm_uM (gm_uM (gm_uM (gm_uM (gm_uM (gm_uM (gm_uM M 204 0 lane) 204 1 row) 204 2 year) 204 3 (h year)) 204 4 speed) 204 5 0) 204 6 0) 204 7 0) 204 8 1) 204 9 0)) (q1 : lane = 0 → ¬ (N 12) ≤ lane → Q (.inl (none)) n K R (gm_uM (gm_uM (gm_uM (gm_uM (gm_uM (gm_uM (gm_uM (gm_uM (gm_uM (gm_uM M 204 0 lane) 204 1 row) 204 2 year) 204 3 (h year)) 204 4 speed) 204 5 0) 204 6 0) 204 7 0) 204 8 1) 204 9 1)) (q2 : ¬ lane = 0 → ¬ lane = ((N 0) - 1) → (N 12) ≤ lane → Q (.inl (none)) n K R (gm_uM (gm_uM (gm_uM (gm_uM (gm_uM (gm_uM (gm_uM (gm_uM (gm_uM (gm_uM M 204 0 lane) 204 1 row) 204 2 year) 204 3 (h year)) 204 4 speed) 204 5 0) 204 6 0) 204 7 0) 204 8 0) 204 9 0)) (q3 : ¬ lane = 0 → ¬ lane = ((N 0) - 1) → ¬ (N 12) ≤ lane → Q (.inl (none)) n K R (gm_uM (gm_uM (gm_uM (gm_uM (gm_uM (gm_uM (gm_uM (gm_uM (gm_uM (gm_uM M 204 0 lane) 204 1 row) 204 2 year) 204 3 (h year)) 204 4 speed) 204 5 0) 204 6 0) 204 7 0) 204 8 0) 204 9 1)) (q4 : ¬ lane = 0 → lane = ((N 0) - 1) → (N 12) ≤ lane → Q (.inl (none)) n K R (gm_uM (gm_uM (gm_uM (gm_uM (gm_uM (gm_uM (gm_uM (gm_uM (gm_uM (gm_uM M 204 0 lane) 204 1 row) 204 2 year) 204 3 (h year)) 204 4 speed) 204 5 0) 204 6 0) 204 7 0) 204 8 1) 204 9 0)) (q5 : ¬ lane = 0 → lane = ((N 0) - 1) → ¬ (N 12) ≤ lane → Q (.inl (none)) n K R (gm_uM (gm_uM (gm_uM (gm_uM (gm_uM (gm_uM (gm_uM (gm_uM (gm_uM (gm_uM M 204 0 lane) 204 1 row) 204 2 year) 204 3 (h year)) 204 4 speed) 204 5 0) 204 6 0) 204 7 0) 204 8 1) 204 9 1)) : gm_Wp X LX d bc bs 39 0 (gm_ent 39 [gm_vr 200, gm_vi lane, gm_vi row, gm_vi year, gm_vi speed]) [] n K R M Q := by
  obtain ⟨⟨⟨a0, b0⟩, ⟨a1, b1⟩, ⟨a10, b10⟩, ⟨a11, b11⟩, ⟨a12, b12⟩, a9, b9⟩, ⟨⟨a2, b2⟩, ⟨a5, b5⟩, ⟨a3, b3⟩, ⟨a4, b4⟩, ⟨a6, b6⟩, ⟨a14, b14⟩, ⟨a7, b7⟩, a13, b13⟩, rF, rP, rL⟩ := id hN
  refine gm_sz (gm_p_load (pc := 0) (i := .aload_n 0) (sr := 2) (j := 0) (by decide +kernel) rfl rfl rfl) ?_
  refine gm_sz (fw_gr (pc := 1) (ix := 23) (ci := 4) (j := 4) (r := 204) (by decide +kernel) (e0k hE (k := 200) (c := 4) (by decide +kernel)) (by decide +kernel) (by decide +kernel) (e0r hE (k := 200) (j := 4) (r := 204) (by decide +kernel))) ?_
  refine gm_sz (gm_p_const (pc := 4) (i := .iconst 0) (v := gm_vi 0) (by decide +kernel) (by decide +kernel)) ?_
  refine gm_sz (gm_p_load (pc := 5) (i := .iload_n 1) (sr := 0) (j := 1) (by decide +kernel) rfl rfl rfl) ?_
  refine gm_sz (fw_is (pc := 6) (k := 204) (len := 10) (e0 := 0) (x := lane) (M' := gm_uM M 204 0 lane) (by decide +kernel) (e0a hE (k := 204) (q := (0, 10)) (by decide +kernel)).1 (e0a hE (k := 204) (q := (0, 10)) (by decide +kernel)).2 (by decide) ⟨by omega, by omega⟩ rfl) ?_
  refine gm_sz (gm_p_load (pc := 7) (i := .aload_n 0) (sr := 2) (j := 0) (by decide +kernel) rfl rfl rfl) ?_
  refine gm_sz (fw_gr (pc := 8) (ix := 23) (ci := 4) (j := 4) (r := 204) (by decide +kernel) (e0k hE (k := 200) (c := 4) (by decide +kernel)) (by decide +kernel) (by decide +kernel) (e0r hE (k := 200) (j := 4) (r := 204) (by decide +kernel))) ?_
  refine gm_sz (gm_p_const (pc := 11) (i := .iconst 1) (v := gm_vi 1) (by decide +kernel) (by decide +kernel)) ?_
  refine gm_sz (gm_p_load (pc := 12) (i := .iload_n 2) (sr := 0) (j := 2) (by decide +kernel) rfl rfl rfl) ?_
  refine gm_sz (fw_is (pc := 13) (k := 204) (len := 10) (e0 := 1) (x := row) (M' := gm_uM (gm_uM M 204 0 lane) 204 1 row) (by decide +kernel) (e0a hE (k := 204) (q := (0, 10)) (by decide +kernel)).1 (e0a hE (k := 204) (q := (0, 10)) (by decide +kernel)).2 (by decide) ⟨by omega, by omega⟩ rfl) ?_
  refine gm_sz (gm_p_load (pc := 14) (i := .aload_n 0) (sr := 2) (j := 0) (by decide +kernel) rfl rfl rfl) ?_
  refine gm_sz (fw_gr (pc := 15) (ix := 23) (ci := 4) (j := 4) (r := 204) (by decide +kernel) (e0k hE (k := 200) (c := 4) (by decide +kernel)) (by decide +kernel) (by decide +kernel) (e0r hE (k := 200) (j := 4) (r := 204) (by decide +kernel))) ?_
  refine gm_sz (gm_p_const (pc := 18) (i := .iconst 2) (v := gm_vi 2) (by decide +kernel) (by decide +kernel)) ?_
  refine gm_sz (gm_p_load (pc := 19) (i := .iload_n 3) (sr := 0) (j := 3) (by decide +kernel) rfl rfl rfl) ?_
  refine gm_sz (fw_is (pc := 20) (k := 204) (len := 10) (e0 := 2) (x := year) (M' := gm_uM (gm_uM (gm_uM M 204 0 lane) 204 1 row) 204 2 year) (by decide +kernel) (e0a hE (k := 204) (q := (0, 10)) (by decide +kernel)).1 (e0a hE (k := 204) (q := (0, 10)) (by decide +kernel)).2 (by decide) ⟨by omega, by omega⟩ rfl) ?_
  refine gm_sz (gm_p_load (pc := 21) (i := .aload_n 0) (sr := 2) (j := 0) (by decide +kernel) rfl rfl rfl) ?_
  refine gm_sz (fw_gr (pc := 22) (ix := 23) (ci := 4) (j := 4) (r := 204) (by decide +kernel) (e0k hE (k := 200) (c := 4) (by decide +kernel)) (by decide +kernel) (by decide +kernel) (e0r hE (k := 200) (j := 4) (r := 204) (by decide +kernel))) ?_
  refine gm_sz (gm_p_const (pc := 25) (i := .iconst 3) (v := gm_vi 3) (by decide +kernel) (by decide +kernel)) ?_
  refine gm_sz (gm_p_load (pc := 26) (i := .aload_n 0) (sr := 2) (j := 0) (by decide +kernel) rfl rfl rfl) ?_
  refine gm_sz (gm_p_load (pc := 27) (i := .iload_n 3) (sr := 0) (j := 3) (by decide +kernel) rfl rfl rfl) ?_
  refine gm_c_virt (k := 200) (ci := 4) (mj := 34) (ix := 123) (pc := 28) (as := [gm_vi year]) (st := [gm_vi 3, gm_vr 204]) (d' := d - 1) (bc' := 0) (bs' := 0) (by decide +kernel) (by decide +kernel) (by decide +kernel) (by decide +kernel) (e0k hE (k := 200) (c := 4) (by decide +kernel)).1 (e0k hE (k := 200) (c := 4) (by decide +kernel)).2 (by decide) (by decide +kernel) (show 1 = gm_na 34 by decide +kernel) (fw_c1 fw_si) (show 2 ≤ gm_ml 34 by decide +kernel) (Nat.le_of_ble_eq_true rfl) (by omega) (Nat.zero_le _) (Nat.zero_le _) ?_
  refine ic_heat hE (ti_fr (W := [(204, some 0), (204, some 1), (204, some 2)]) hT (fr_p (fr_p (fr_p fr_0 (Or.inr (by decide))) (Or.inr (by decide))) (Or.inr (by decide))) (by decide) (by decide +kernel)) hN ⟨by omega, by omega⟩ ?_
  show gm_Wp X LX d _ _ 39 31 _ [gm_vi (h year), gm_vi 3, gm_vr 204] n K _ _ Q
  refine gm_sz (fw_is (pc := 31) (k := 204) (len := 10) (e0 := 3) (x := h year) (M' := gm_uM (gm_uM (gm_uM (gm_uM M 204 0 lane) 204 1 row) 204 2 year) 204 3 (h year)) (by decide +kernel) (e0a hE (k := 204) (q := (0, 10)) (by decide +kernel)).1 (e0a hE (k := 204) (q := (0, 10)) (by decide +kernel)).2 (by decide) ⟨by omega, by omega⟩ rfl) ?_
  refine gm_sz (gm_p_load (pc := 32) (i := .aload_n 0) (sr := 2) (j := 0) (by decide +kernel) rfl rfl rfl) ?_
  refine gm_sz (fw_gr (pc := 33) (ix := 23) (ci := 4) (j := 4) (r := 204) (by decide +kernel) (e0k hE (k := 200) (c := 4) (by decide +kernel)) (by decide +kernel) (by decide +kernel) (e0r hE (k := 200) (j := 4) (r := 204) (by decide +kernel))) ?_
  refine gm_sz (gm_p_const (pc := 36) (i := .iconst 4) (v := gm_vi 4) (by decide +kernel) (by decide +kernel)) ?_
  refine gm_sz (gm_p_load (pc := 37) (i := .iload 4) (sr := 0) (j := 4) (by decide +kernel) rfl rfl rfl) ?_
  refine gm_sz (fw_is (pc := 39) (k := 204) (len := 10) (e0 := 4) (x := speed) (M' := gm_uM (gm_uM (gm_uM (gm_uM (gm_uM M 204 0 lane) 204 1 row) 204 2 year) 204 3 (h year)) 204 4 speed) (by decide +kernel) (e0a hE (k := 204) (q := (0, 10)) (by decide +kernel)).1 (e0a hE (k := 204) (q := (0, 10)) (by decide +kernel)).2 (by decide) ⟨by omega, by omega⟩ rfl) ?_
  refine gm_sz (gm_p_load (pc := 40) (i := .aload_n 0) (sr := 2) (j := 0) (by decide +kernel) rfl rfl rfl) ?_
  refine gm_sz (fw_gr (pc := 41) (ix := 23) (ci := 4) (j := 4) (r := 204) (by decide +kernel) (e0k hE (k := 200) (c := 4) (by decide +kernel)) (by decide +kernel) (by decide +kernel) (e0r hE (k := 200) (j := 4) (r := 204) (by decide +kernel))) ?_
  refine gm_sz (gm_p_const (pc := 44) (i := .iconst 5) (v := gm_vi 5) (by decide +kernel) (by decide +kernel)) ?_
  refine gm_sz (gm_p_const (pc := 45) (i := .iconst 0) (v := gm_vi 0) (by decide +kernel) (by decide +kernel)) ?_
  refine gm_sz (fw_is (pc := 46) (k := 204) (len := 10) (e0 := 5) (x := 0) (M' := gm_uM (gm_uM (gm_uM (gm_uM (gm_uM (gm_uM M 204 0 lane) 204 1 row) 204 2 year) 204 3 (h year)) 204 4 speed) 204 5 0) (by decide +kernel) (e0a hE (k := 204) (q := (0, 10)) (by decide +kernel)).1 (e0a hE (k := 204) (q := (0, 10)) (by decide +kernel)).2 (by decide) ⟨by omega, by omega⟩ rfl) ?_
  refine gm_sz (gm_p_load (pc := 47) (i := .aload_n 0) (sr := 2) (j := 0) (by decide +kernel) rfl rfl rfl) ?_
  refine gm_sz (fw_gr (pc := 48) (ix := 23) (ci := 4) (j := 4) (r := 204) (by decide +kernel) (e0k hE (k := 200) (c := 4) (by decide +kernel)) (by decide +kernel) (by decide +kernel) (e0r hE (k := 200) (j := 4) (r := 204) (by decide +kernel))) ?_
  refine gm_sz (gm_p_const (pc := 51) (i := .bipush 6) (v := gm_vi 6) (by decide +kernel) (by decide +kernel)) ?_
  refine gm_sz (gm_p_const (pc := 53) (i := .iconst 0) (v := gm_vi 0) (by decide +kernel) (by decide +kernel)) ?_
  refine gm_sz (fw_is (pc := 54) (k := 204) (len := 10) (e0 := 6) (x := 0) (M' := gm_uM (gm_uM (gm_uM (gm_uM (gm_uM (gm_uM (gm_uM M 204 0 lane) 204 1 row) 204 2 year) 204 3 (h year)) 204 4 speed) 204 5 0) 204 6 0) (by decide +kernel) (e0a hE (k := 204) (q := (0, 10)) (by decide +kernel)).1 (e0a hE (k := 204) (q := (0, 10)) (by decide +kernel)).2 (by decide) ⟨by omega, by omega⟩ rfl) ?_
  refine gm_sz (gm_p_load (pc := 55) (i := .aload_n 0) (sr := 2) (j := 0) (by decide +kernel) rfl rfl rfl) ?_
  refine gm_sz (fw_gr (pc := 56) (ix := 23) (ci := 4) (j := 4) (r := 204) (by decide +kernel) (e0k hE (k := 200) (c := 4) (by decide +kernel)) (by decide +kernel) (by decide +kernel) (e0r hE (k := 200) (j := 4) (r := 204) (by decide +kernel))) ?_
  refine gm_sz (gm_p_const (pc := 59) (i := .bipush 7) (v := gm_vi 7) (by decide +kernel) (by decide +kernel)) ?_
  refine gm_sz (gm_p_const (pc := 61) (i := .iconst 0) (v := gm_vi 0) (by decide +kernel) (by decide +kernel)) ?_
  refine gm_sz (fw_is (pc := 62) (k := 204) (len := 10) (e0 := 7) (x := 0) (M' := gm_uM (gm_uM (gm_uM (gm_uM (gm_uM (gm_uM (gm_uM (gm_uM M 204 0 lane) 204 1 row) 204 2 year) 204 3 (h year)) 204 4 speed) 204 5 0) 204 6 0) 204 7 0) (by decide +kernel) (e0a hE (k := 204) (q := (0, 10)) (by decide +kernel)).1 (e0a hE (k := 204) (q := (0, 10)) (by decide +kernel)).2 (by decide) ⟨by omega, by omega⟩ rfl) ?_
  refine gm_sz (gm_p_load (pc := 63) (i := .aload_n 0) (sr := 2) (j := 0) (by decide +kernel) rfl rfl rfl) ?_
  refine gm_sz (fw_gr (pc := 64) (ix := 23) (ci := 4) (j := 4) (r := 204) (by decide +kernel) (e0k hE (k := 200) (c := 4) (by decide +kernel)) (by decide +kernel) (by decide +kernel) (e0r hE (k := 200) (j := 4) (r := 204) (by decide +kernel))) ?_
  refine gm_sz (gm_p_const (pc := 67) (i := .bipush 8) (v := gm_vi 8) (by decide +kernel) (by decide +kernel)) ?_
  refine gm_sz (gm_p_load (pc := 69) (i := .iload_n 1) (sr := 0) (j := 1) (by decide +kernel) rfl rfl rfl) ?_
  refine fw_if (cc := .eq) (pc := 70) (off := 16) (by decide +kernel) (by decide) ⟨by omega, by omega⟩ (fun h70 => ?_) (fun h70 => ?_)
  · have h70 : lane = 0 := h70
    refine gm_sz (gm_p_const (pc := 86) (i := .iconst 1) (v := gm_vi 1) (by decide +kernel) (by decide +kernel)) ?_
    refine gm_sz (gm_p_goto (pc := 87) (off := 4) (by decide +kernel) (by decide)) ?_
    refine gm_sz (fw_is (pc := 91) (k := 204) (len := 10) (e0 := 8) (x := 1) (M' := gm_uM (gm_uM (gm_uM (gm_uM (gm_uM (gm_uM (gm_uM (gm_uM (gm_uM M 204 0 lane) 204 1 row) 204 2 year) 204 3 (h year)) 204 4 speed) 204 5 0) 204 6 0) 204 7 0) 204 8 1) (by decide +kernel) (e0a hE (k := 204) (q := (0, 10)) (by decide +kernel)).1 (e0a hE (k := 204) (q := (0, 10)) (by decide +kernel)).2 (by decide) ⟨by omega, by omega⟩ rfl) ?_
    refine gm_sz (gm_p_load (pc := 92) (i := .aload_n 0) (sr := 2) (j := 0) (by decide +kernel) rfl rfl rfl) ?_
    refine gm_sz (fw_gr (pc := 93) (ix := 23) (ci := 4) (j := 4) (r := 204) (by decide +kernel) (e0k hE (k := 200) (c := 4) (by decide +kernel)) (by decide +kernel) (by decide +kernel) (e0r hE (k := 200) (j := 4) (r := 204) (by decide +kernel))) ?_
    refine gm_sz (gm_p_const (pc := 96) (i := .bipush 9) (v := gm_vi 9) (by decide +kernel) (by decide +kernel)) ?_
    refine gm_sz (gm_p_load (pc := 98) (i := .iload_n 1) (sr := 0) (j := 1) (by decide +kernel) rfl rfl rfl) ?_
    refine gm_sz (gm_p_load (pc := 99) (i := .aload_n 0) (sr := 2) (j := 0) (by decide +kernel) rfl rfl rfl) ?_
    refine gm_sz (fw_gr (pc := 100) (ix := 34) (ci := 4) (j := 0) (r := 3) (by decide +kernel) (e0k hE (k := 200) (c := 4) (by decide +kernel)) (by decide +kernel) (by decide +kernel) (e0r hE (k := 200) (j := 0) (r := 3) (by decide +kernel))) ?_
    refine gm_sz (fw_gi (pc := 103) (ix := 126) (ci := 1) (j := 4) (x := N 12) (by decide +kernel) (e0k hE (k := 3) (c := 1) (by decide +kernel)) (by decide +kernel) (by decide +kernel) ((uM_ne (by omega)).trans ((uM_ne (by omega)).trans ((uM_ne (by omega)).trans ((uM_ne (by omega)).trans ((uM_ne (by omega)).trans ((uM_ne (by omega)).trans ((uM_ne (by omega)).trans ((uM_ne (by omega)).trans ((uM_ne (by omega)).trans (ti_str hT))))))))))) ?_
    refine fw_ic (cc := .ge) (pc := 106) (off := 7) (by decide +kernel) (by decide) ⟨by omega, by omega⟩ ⟨by omega, by omega⟩ (fun h106 => ?_) (fun h106 => ?_)
    · have h106 : (N 12) ≤ lane := h106
      refine gm_sz (gm_p_const (pc := 113) (i := .iconst 0) (v := gm_vi 0) (by decide +kernel) (by decide +kernel)) ?_
      refine gm_sz (fw_is (pc := 114) (k := 204) (len := 10) (e0 := 9) (x := 0) (M' := gm_uM (gm_uM (gm_uM (gm_uM (gm_uM (gm_uM (gm_uM (gm_uM (gm_uM (gm_uM M 204 0 lane) 204 1 row) 204 2 year) 204 3 (h year)) 204 4 speed) 204 5 0) 204 6 0) 204 7 0) 204 8 1) 204 9 0) (by decide +kernel) (e0a hE (k := 204) (q := (0, 10)) (by decide +kernel)).1 (e0a hE (k := 204) (q := (0, 10)) (by decide +kernel)).2 (by decide) ⟨by omega, by omega⟩ rfl) ?_
      exact gm_r_void (pc := 115) (by decide +kernel) (by decide +kernel) (q0 h70 h106)
    · have h106 : ¬ (N 12) ≤ lane := h106
      refine gm_sz (gm_p_const (pc := 109) (i := .iconst 1) (v := gm_vi 1) (by decide +kernel) (by decide +kernel)) ?_
      refine gm_sz (gm_p_goto (pc := 110) (off := 4) (by decide +kernel) (by decide)) ?_
      refine gm_sz (fw_is (pc := 114) (k := 204) (len := 10) (e0 := 9) (x := 1) (M' := gm_uM (gm_uM (gm_uM (gm_uM (gm_uM (gm_uM (gm_uM (gm_uM (gm_uM (gm_uM M 204 0 lane) 204 1 row) 204 2 year) 204 3 (h year)) 204 4 speed) 204 5 0) 204 6 0) 204 7 0) 204 8 1) 204 9 1) (by decide +kernel) (e0a hE (k := 204) (q := (0, 10)) (by decide +kernel)).1 (e0a hE (k := 204) (q := (0, 10)) (by decide +kernel)).2 (by decide) ⟨by omega, by omega⟩ rfl) ?_
      exact gm_r_void (pc := 115) (by decide +kernel) (by decide +kernel) (q1 h70 h106)
  · have h70 : ¬ lane = 0 := h70
    refine gm_sz (gm_p_load (pc := 73) (i := .iload_n 1) (sr := 0) (j := 1) (by decide +kernel) rfl rfl rfl) ?_
    refine gm_sz (gm_p_load (pc := 74) (i := .aload_n 0) (sr := 2) (j := 0) (by decide +kernel) rfl rfl rfl) ?_
    refine gm_sz (fw_gr (pc := 75) (ix := 34) (ci := 4) (j := 0) (r := 3) (by decide +kernel) (e0k hE (k := 200) (c := 4) (by decide +kernel)) (by decide +kernel) (by decide +kernel) (e0r hE (k := 200) (j := 0) (r := 3) (by decide +kernel))) ?_
    refine gm_sz (fw_gi (pc := 78) (ix := 82) (ci := 1) (j := 0) (x := N 0) (by decide +kernel) (e0k hE (k := 3) (c := 1) (by decide +kernel)) (by decide +kernel) (by decide +kernel) ((uM_ne (by omega)).trans ((uM_ne (by omega)).trans ((uM_ne (by omega)).trans ((uM_ne (by omega)).trans ((uM_ne (by omega)).trans ((uM_ne (by omega)).trans ((uM_ne (by omega)).trans ((uM_ne (by omega)).trans (ti_lan hT)))))))))) ?_
    refine gm_sz (gm_p_const (pc := 81) (i := .iconst 1) (v := gm_vi 1) (by decide +kernel) (by decide +kernel)) ?_
    refine gm_sz (gm_p_bin (pc := 82) (i := .isub) (f := fun x y => x - y) (by decide +kernel) rfl) ?_
    refine fw_ic (cc := .ne) (pc := 83) (off := 7) (by decide +kernel) (by decide) ⟨by omega, by omega⟩ ⟨by omega, by omega⟩ (fun h83 => ?_) (fun h83 => ?_)
    · have h83 : ¬ lane = ((N 0) - 1) := h83
      refine gm_sz (gm_p_const (pc := 90) (i := .iconst 0) (v := gm_vi 0) (by decide +kernel) (by decide +kernel)) ?_
      refine gm_sz (fw_is (pc := 91) (k := 204) (len := 10) (e0 := 8) (x := 0) (M' := gm_uM (gm_uM (gm_uM (gm_uM (gm_uM (gm_uM (gm_uM (gm_uM (gm_uM M 204 0 lane) 204 1 row) 204 2 year) 204 3 (h year)) 204 4 speed) 204 5 0) 204 6 0) 204 7 0) 204 8 0) (by decide +kernel) (e0a hE (k := 204) (q := (0, 10)) (by decide +kernel)).1 (e0a hE (k := 204) (q := (0, 10)) (by decide +kernel)).2 (by decide) ⟨by omega, by omega⟩ rfl) ?_
      refine gm_sz (gm_p_load (pc := 92) (i := .aload_n 0) (sr := 2) (j := 0) (by decide +kernel) rfl rfl rfl) ?_
      refine gm_sz (fw_gr (pc := 93) (ix := 23) (ci := 4) (j := 4) (r := 204) (by decide +kernel) (e0k hE (k := 200) (c := 4) (by decide +kernel)) (by decide +kernel) (by decide +kernel) (e0r hE (k := 200) (j := 4) (r := 204) (by decide +kernel))) ?_
      refine gm_sz (gm_p_const (pc := 96) (i := .bipush 9) (v := gm_vi 9) (by decide +kernel) (by decide +kernel)) ?_
      refine gm_sz (gm_p_load (pc := 98) (i := .iload_n 1) (sr := 0) (j := 1) (by decide +kernel) rfl rfl rfl) ?_
      refine gm_sz (gm_p_load (pc := 99) (i := .aload_n 0) (sr := 2) (j := 0) (by decide +kernel) rfl rfl rfl) ?_
      refine gm_sz (fw_gr (pc := 100) (ix := 34) (ci := 4) (j := 0) (r := 3) (by decide +kernel) (e0k hE (k := 200) (c := 4) (by decide +kernel)) (by decide +kernel) (by decide +kernel) (e0r hE (k := 200) (j := 0) (r := 3) (by decide +kernel))) ?_
      refine gm_sz (fw_gi (pc := 103) (ix := 126) (ci := 1) (j := 4) (x := N 12) (by decide +kernel) (e0k hE (k := 3) (c := 1) (by decide +kernel)) (by decide +kernel) (by decide +kernel) ((uM_ne (by omega)).trans ((uM_ne (by omega)).trans ((uM_ne (by omega)).trans ((uM_ne (by omega)).trans ((uM_ne (by omega)).trans ((uM_ne (by omega)).trans ((uM_ne (by omega)).trans ((uM_ne (by omega)).trans ((uM_ne (by omega)).trans (ti_str hT))))))))))) ?_
      refine fw_ic (cc := .ge) (pc := 106) (off := 7) (by decide +kernel) (by decide) ⟨by omega, by omega⟩ ⟨by omega, by omega⟩ (fun h106 => ?_) (fun h106 => ?_)
      · have h106 : (N 12) ≤ lane := h106
        refine gm_sz (gm_p_const (pc := 113) (i := .iconst 0) (v := gm_vi 0) (by decide +kernel) (by decide +kernel)) ?_
        refine gm_sz (fw_is (pc := 114) (k := 204) (len := 10) (e0 := 9) (x := 0) (M' := gm_uM (gm_uM (gm_uM (gm_uM (gm_uM (gm_uM (gm_uM (gm_uM (gm_uM (gm_uM M 204 0 lane) 204 1 row) 204 2 year) 204 3 (h year)) 204 4 speed) 204 5 0) 204 6 0) 204 7 0) 204 8 0) 204 9 0) (by decide +kernel) (e0a hE (k := 204) (q := (0, 10)) (by decide +kernel)).1 (e0a hE (k := 204) (q := (0, 10)) (by decide +kernel)).2 (by decide) ⟨by omega, by omega⟩ rfl) ?_
        exact gm_r_void (pc := 115) (by decide +kernel) (by decide +kernel) (q2 h70 h83 h106)
      · have h106 : ¬ (N 12) ≤ lane := h106
        refine gm_sz (gm_p_const (pc := 109) (i := .iconst 1) (v := gm_vi 1) (by decide +kernel) (by decide +kernel)) ?_
        refine gm_sz (gm_p_goto (pc := 110) (off := 4) (by decide +kernel) (by decide)) ?_
        refine gm_sz (fw_is (pc := 114) (k := 204) (len := 10) (e0 := 9) (x := 1) (M' := gm_uM (gm_uM (gm_uM (gm_uM (gm_uM (gm_uM (gm_uM (gm_uM (gm_uM (gm_uM M 204 0 lane) 204 1 row) 204 2 year) 204 3 (h year)) 204 4 speed) 204 5 0) 204 6 0) 204 7 0) 204 8 0) 204 9 1) (by decide +kernel) (e0a hE (k := 204) (q := (0, 10)) (by decide +kernel)).1 (e0a hE (k := 204) (q := (0, 10)) (by decide +kernel)).2 (by decide) ⟨by omega, by omega⟩ rfl) ?_
        exact gm_r_void (pc := 115) (by decide +kernel) (by decide +kernel) (q3 h70 h83 h106)
    · have h83 : lane = ((N 0) - 1) := Classical.not_not.mp h83
      refine gm_sz (gm_p_const (pc := 86) (i := .iconst 1) (v := gm_vi 1) (by decide +kernel) (by decide +kernel)) ?_
      refine gm_sz (gm_p_goto (pc := 87) (off := 4) (by decide +kernel) (by decide)) ?_
      refine gm_sz (fw_is (pc := 91) (k := 204) (len := 10) (e0 := 8) (x := 1) (M' := gm_uM (gm_uM (gm_uM (gm_uM (gm_uM (gm_uM (gm_uM (gm_uM (gm_uM M 204 0 lane) 204 1 row) 204 2 year) 204 3 (h year)) 204 4 speed) 204 5 0) 204 6 0) 204 7 0) 204 8 1) (by decide +kernel) (e0a hE (k := 204) (q := (0, 10)) (by decide +kernel)).1 (e0a hE (k := 204) (q := (0, 10)) (by decide +kernel)).2 (by decide) ⟨by omega, by omega⟩ rfl) ?_
      refine gm_sz (gm_p_load (pc := 92) (i := .aload_n 0) (sr := 2) (j := 0) (by decide +kernel) rfl rfl rfl) ?_
      refine gm_sz (fw_gr (pc := 93) (ix := 23) (ci := 4) (j := 4) (r := 204) (by decide +kernel) (e0k hE (k := 200) (c := 4) (by decide +kernel)) (by decide +kernel) (by decide +kernel) (e0r hE (k := 200) (j := 4) (r := 204) (by decide +kernel))) ?_
      refine gm_sz (gm_p_const (pc := 96) (i := .bipush 9) (v := gm_vi 9) (by decide +kernel) (by decide +kernel)) ?_
      refine gm_sz (gm_p_load (pc := 98) (i := .iload_n 1) (sr := 0) (j := 1) (by decide +kernel) rfl rfl rfl) ?_
      refine gm_sz (gm_p_load (pc := 99) (i := .aload_n 0) (sr := 2) (j := 0) (by decide +kernel) rfl rfl rfl) ?_
      refine gm_sz (fw_gr (pc := 100) (ix := 34) (ci := 4) (j := 0) (r := 3) (by decide +kernel) (e0k hE (k := 200) (c := 4) (by decide +kernel)) (by decide +kernel) (by decide +kernel) (e0r hE (k := 200) (j := 0) (r := 3) (by decide +kernel))) ?_
      refine gm_sz (fw_gi (pc := 103) (ix := 126) (ci := 1) (j := 4) (x := N 12) (by decide +kernel) (e0k hE (k := 3) (c := 1) (by decide +kernel)) (by decide +kernel) (by decide +kernel) ((uM_ne (by omega)).trans ((uM_ne (by omega)).trans ((uM_ne (by omega)).trans ((uM_ne (by omega)).trans ((uM_ne (by omega)).trans ((uM_ne (by omega)).trans ((uM_ne (by omega)).trans ((uM_ne (by omega)).trans ((uM_ne (by omega)).trans (ti_str hT))))))))))) ?_
      refine fw_ic (cc := .ge) (pc := 106) (off := 7) (by decide +kernel) (by decide) ⟨by omega, by omega⟩ ⟨by omega, by omega⟩ (fun h106 => ?_) (fun h106 => ?_)
      · have h106 : (N 12) ≤ lane := h106
        refine gm_sz (gm_p_const (pc := 113) (i := .iconst 0) (v := gm_vi 0) (by decide +kernel) (by decide +kernel)) ?_
        refine gm_sz (fw_is (pc := 114) (k := 204) (len := 10) (e0 := 9) (x := 0) (M' := gm_uM (gm_uM (gm_uM (gm_uM (gm_uM (gm_uM (gm_uM (gm_uM (gm_uM (gm_uM M 204 0 lane) 204 1 row) 204 2 year) 204 3 (h year)) 204 4 speed) 204 5 0) 204 6 0) 204 7 0) 204 8 1) 204 9 0) (by decide +kernel) (e0a hE (k := 204) (q := (0, 10)) (by decide +kernel)).1 (e0a hE (k := 204) (q := (0, 10)) (by decide +kernel)).2 (by decide) ⟨by omega, by omega⟩ rfl) ?_
        exact gm_r_void (pc := 115) (by decide +kernel) (by decide +kernel) (q4 h70 h83 h106)
      · have h106 : ¬ (N 12) ≤ lane := h106
        refine gm_sz (gm_p_const (pc := 109) (i := .iconst 1) (v := gm_vi 1) (by decide +kernel) (by decide +kernel)) ?_
        refine gm_sz (gm_p_goto (pc := 110) (off := 4) (by decide +kernel) (by decide)) ?_
        refine gm_sz (fw_is (pc := 114) (k := 204) (len := 10) (e0 := 9) (x := 1) (M' := gm_uM (gm_uM (gm_uM (gm_uM (gm_uM (gm_uM (gm_uM (gm_uM (gm_uM (gm_uM M 204 0 lane) 204 1 row) 204 2 year) 204 3 (h year)) 204 4 speed) 204 5 0) 204 6 0) 204 7 0) 204 8 1) 204 9 1) (by decide +kernel) (e0a hE (k := 204) (q := (0, 10)) (by decide +kernel)).1 (e0a hE (k := 204) (q := (0, 10)) (by decide +kernel)).2 (by decide) ⟨by omega, by omega⟩ rfl) ?_
        exact gm_r_void (pc := 115) (by decide +kernel) (by decide +kernel) (q5 h70 h83 h106)
theorem ln_sf (hd : 1 ≤ d) (hE : E0 n K R) (hT : TI N h sp M) (hN : NR N) (h1 : lane = -1) (h2 : 0 ≤ year ∧ year < 300) (hq : Q (.inl none) n K R (ic_fa M N h lane row year speed)) : gm_Wp X LX d bc bs 39 0 (gm_ent 39 [gm_vr 200, gm_vi lane, gm_vi row, gm_vi year, gm_vi speed]) [] n K R M Q := by
  unfold ic_fa at hq
  refine ln_sf0 hd hE hT hN h1 h2 (fun g0 g1 => ?_) (fun g0 g1 => ?_) (fun g0 g1 g2 => ?_) (fun g0 g1 g2 => ?_) (fun g0 g1 g2 => ?_) (fun g0 g1 g2 => ?_)
  · rw [if_pos (by omega), if_neg (by omega)] at hq
    exact hq
  · rw [if_pos (by omega), if_pos (by omega)] at hq
    exact hq
  · rw [if_neg (by omega), if_neg (by omega)] at hq
    exact hq
  · rw [if_neg (by omega), if_pos (by omega)] at hq
    exact hq
  · rw [if_pos (by omega), if_neg (by omega)] at hq
    exact hq
  · rw [if_pos (by omega), if_pos (by omega)] at hq
    exact hq
theorem ln_sf0m (hd : 1 ≤ d) (hE : E0 n K R) (hT : TI N h sp M) (hN : NR N) (h1 : lane = -1) (h2 : year = -1) (q0 : lane = 0 → (N 12) ≤ lane → Q (.inl (none)) n K R (gm_uM (gm_uM (gm_uM (gm_uM (gm_uM (gm_uM (gm_uM (gm_uM (gm_uM (gm_uM M 204 0 lane) 204 1 row) 204 2 year) 204 3 0) 204 4 speed) 204 5 0) 204 6 0) 204 7 0) 204 8 1) 204 9 0)) (q1 : lane = 0 → ¬ (N 12) ≤ lane → Q (.inl (none)) n K R (gm_uM (gm_uM (gm_uM (gm_uM (gm_uM (gm_uM (gm_uM (gm_uM (gm_uM (gm_uM M 204 0 lane) 204 1 row) 204 2 year) 204 3 0) 204 4 speed) 204 5 0) 204 6 0) 204 7 0) 204 8 1) 204 9 1)) (q2 : ¬ lane = 0 → ¬ lane = ((N 0) - 1) → (N 12) ≤ lane → Q (.inl (none)) n K R (gm_uM (gm_uM (gm_uM (gm_uM (gm_uM (gm_uM (gm_uM (gm_uM (gm_uM (gm_uM M 204 0 lane) 204 1 row) 204 2 year) 204 3 0) 204 4 speed) 204 5 0) 204 6 0) 204 7 0) 204 8 0) 204 9 0)) (q3 : ¬ lane = 0 → ¬ lane = ((N 0) - 1) → ¬ (N 12) ≤ lane → Q (.inl (none)) n K R (gm_uM (gm_uM (gm_uM (gm_uM (gm_uM (gm_uM (gm_uM (gm_uM (gm_uM (gm_uM M 204 0 lane) 204 1 row) 204 2 year) 204 3 0) 204 4 speed) 204 5 0) 204 6 0) 204 7 0) 204 8 0) 204 9 1)) (q4 : ¬ lane = 0 → lane = ((N 0) - 1) → (N 12) ≤ lane → Q (.inl (none)) n K R (gm_uM (gm_uM (gm_uM (gm_uM (gm_uM (gm_uM (gm_uM (gm_uM (gm_uM (gm_uM M 204 0 lane) 204 1 row) 204 2 year) 204 3 0) 204 4 speed) 204 5 0) 204 6 0) 204 7 0) 204 8 1) 204 9 0)) (q5 : ¬ lane = 0 → lane = ((N 0) - 1) → ¬ (N 12) ≤ lane → Q (.inl (none)) n K R (gm_uM (gm_uM (gm_uM (gm_uM (gm_uM (gm_uM (gm_uM (gm_uM (gm_uM (gm_uM M 204 0 lane) 204 1 row) 204 2 year) 204 3 0) 204 4 speed) 204 5 0) 204 6 0) 204 7 0) 204 8 1) 204 9 1)) : gm_Wp X LX d bc bs 39 0 (gm_ent 39 [gm_vr 200, gm_vi lane, gm_vi row, gm_vi year, gm_vi speed]) [] n K R M Q := by
  obtain ⟨⟨⟨a0, b0⟩, ⟨a1, b1⟩, ⟨a10, b10⟩, ⟨a11, b11⟩, ⟨a12, b12⟩, a9, b9⟩, ⟨⟨a2, b2⟩, ⟨a5, b5⟩, ⟨a3, b3⟩, ⟨a4, b4⟩, ⟨a6, b6⟩, ⟨a14, b14⟩, ⟨a7, b7⟩, a13, b13⟩, rF, rP, rL⟩ := id hN
  refine gm_sz (gm_p_load (pc := 0) (i := .aload_n 0) (sr := 2) (j := 0) (by decide +kernel) rfl rfl rfl) ?_
  refine gm_sz (fw_gr (pc := 1) (ix := 23) (ci := 4) (j := 4) (r := 204) (by decide +kernel) (e0k hE (k := 200) (c := 4) (by decide +kernel)) (by decide +kernel) (by decide +kernel) (e0r hE (k := 200) (j := 4) (r := 204) (by decide +kernel))) ?_
  refine gm_sz (gm_p_const (pc := 4) (i := .iconst 0) (v := gm_vi 0) (by decide +kernel) (by decide +kernel)) ?_
  refine gm_sz (gm_p_load (pc := 5) (i := .iload_n 1) (sr := 0) (j := 1) (by decide +kernel) rfl rfl rfl) ?_
  refine gm_sz (fw_is (pc := 6) (k := 204) (len := 10) (e0 := 0) (x := lane) (M' := gm_uM M 204 0 lane) (by decide +kernel) (e0a hE (k := 204) (q := (0, 10)) (by decide +kernel)).1 (e0a hE (k := 204) (q := (0, 10)) (by decide +kernel)).2 (by decide) ⟨by omega, by omega⟩ rfl) ?_
  refine gm_sz (gm_p_load (pc := 7) (i := .aload_n 0) (sr := 2) (j := 0) (by decide +kernel) rfl rfl rfl) ?_
  refine gm_sz (fw_gr (pc := 8) (ix := 23) (ci := 4) (j := 4) (r := 204) (by decide +kernel) (e0k hE (k := 200) (c := 4) (by decide +kernel)) (by decide +kernel) (by decide +kernel) (e0r hE (k := 200) (j := 4) (r := 204) (by decide +kernel))) ?_
  refine gm_sz (gm_p_const (pc := 11) (i := .iconst 1) (v := gm_vi 1) (by decide +kernel) (by decide +kernel)) ?_
  refine gm_sz (gm_p_load (pc := 12) (i := .iload_n 2) (sr := 0) (j := 2) (by decide +kernel) rfl rfl rfl) ?_
  refine gm_sz (fw_is (pc := 13) (k := 204) (len := 10) (e0 := 1) (x := row) (M' := gm_uM (gm_uM M 204 0 lane) 204 1 row) (by decide +kernel) (e0a hE (k := 204) (q := (0, 10)) (by decide +kernel)).1 (e0a hE (k := 204) (q := (0, 10)) (by decide +kernel)).2 (by decide) ⟨by omega, by omega⟩ rfl) ?_
  refine gm_sz (gm_p_load (pc := 14) (i := .aload_n 0) (sr := 2) (j := 0) (by decide +kernel) rfl rfl rfl) ?_
  refine gm_sz (fw_gr (pc := 15) (ix := 23) (ci := 4) (j := 4) (r := 204) (by decide +kernel) (e0k hE (k := 200) (c := 4) (by decide +kernel)) (by decide +kernel) (by decide +kernel) (e0r hE (k := 200) (j := 4) (r := 204) (by decide +kernel))) ?_
  refine gm_sz (gm_p_const (pc := 18) (i := .iconst 2) (v := gm_vi 2) (by decide +kernel) (by decide +kernel)) ?_
  refine gm_sz (gm_p_load (pc := 19) (i := .iload_n 3) (sr := 0) (j := 3) (by decide +kernel) rfl rfl rfl) ?_
  refine gm_sz (fw_is (pc := 20) (k := 204) (len := 10) (e0 := 2) (x := year) (M' := gm_uM (gm_uM (gm_uM M 204 0 lane) 204 1 row) 204 2 year) (by decide +kernel) (e0a hE (k := 204) (q := (0, 10)) (by decide +kernel)).1 (e0a hE (k := 204) (q := (0, 10)) (by decide +kernel)).2 (by decide) ⟨by omega, by omega⟩ rfl) ?_
  refine gm_sz (gm_p_load (pc := 21) (i := .aload_n 0) (sr := 2) (j := 0) (by decide +kernel) rfl rfl rfl) ?_
  refine gm_sz (fw_gr (pc := 22) (ix := 23) (ci := 4) (j := 4) (r := 204) (by decide +kernel) (e0k hE (k := 200) (c := 4) (by decide +kernel)) (by decide +kernel) (by decide +kernel) (e0r hE (k := 200) (j := 4) (r := 204) (by decide +kernel))) ?_
  refine gm_sz (gm_p_const (pc := 25) (i := .iconst 3) (v := gm_vi 3) (by decide +kernel) (by decide +kernel)) ?_
  refine gm_sz (gm_p_load (pc := 26) (i := .aload_n 0) (sr := 2) (j := 0) (by decide +kernel) rfl rfl rfl) ?_
  refine gm_sz (gm_p_load (pc := 27) (i := .iload_n 3) (sr := 0) (j := 3) (by decide +kernel) rfl rfl rfl) ?_
  refine gm_c_virt (k := 200) (ci := 4) (mj := 34) (ix := 123) (pc := 28) (as := [gm_vi year]) (st := [gm_vi 3, gm_vr 204]) (d' := d - 1) (bc' := 0) (bs' := 0) (by decide +kernel) (by decide +kernel) (by decide +kernel) (by decide +kernel) (e0k hE (k := 200) (c := 4) (by decide +kernel)).1 (e0k hE (k := 200) (c := 4) (by decide +kernel)).2 (by decide) (by decide +kernel) (show 1 = gm_na 34 by decide +kernel) (fw_c1 fw_si) (show 2 ≤ gm_ml 34 by decide +kernel) (Nat.le_of_ble_eq_true rfl) (by omega) (Nat.zero_le _) (Nat.zero_le _) ?_
  refine ln_heat hE (ti_fr (W := [(204, some 0), (204, some 1), (204, some 2)]) hT (fr_p (fr_p (fr_p fr_0 (Or.inr (by decide))) (Or.inr (by decide))) (Or.inr (by decide))) (by decide) (by decide +kernel)) hN h2 ?_
  show gm_Wp X LX d _ _ 39 31 _ [gm_vi 0, gm_vi 3, gm_vr 204] n K _ _ Q
  refine gm_sz (fw_is (pc := 31) (k := 204) (len := 10) (e0 := 3) (x := 0) (M' := gm_uM (gm_uM (gm_uM (gm_uM M 204 0 lane) 204 1 row) 204 2 year) 204 3 0) (by decide +kernel) (e0a hE (k := 204) (q := (0, 10)) (by decide +kernel)).1 (e0a hE (k := 204) (q := (0, 10)) (by decide +kernel)).2 (by decide) ⟨by omega, by omega⟩ rfl) ?_
  refine gm_sz (gm_p_load (pc := 32) (i := .aload_n 0) (sr := 2) (j := 0) (by decide +kernel) rfl rfl rfl) ?_
  refine gm_sz (fw_gr (pc := 33) (ix := 23) (ci := 4) (j := 4) (r := 204) (by decide +kernel) (e0k hE (k := 200) (c := 4) (by decide +kernel)) (by decide +kernel) (by decide +kernel) (e0r hE (k := 200) (j := 4) (r := 204) (by decide +kernel))) ?_
  refine gm_sz (gm_p_const (pc := 36) (i := .iconst 4) (v := gm_vi 4) (by decide +kernel) (by decide +kernel)) ?_
  refine gm_sz (gm_p_load (pc := 37) (i := .iload 4) (sr := 0) (j := 4) (by decide +kernel) rfl rfl rfl) ?_
  refine gm_sz (fw_is (pc := 39) (k := 204) (len := 10) (e0 := 4) (x := speed) (M' := gm_uM (gm_uM (gm_uM (gm_uM (gm_uM M 204 0 lane) 204 1 row) 204 2 year) 204 3 0) 204 4 speed) (by decide +kernel) (e0a hE (k := 204) (q := (0, 10)) (by decide +kernel)).1 (e0a hE (k := 204) (q := (0, 10)) (by decide +kernel)).2 (by decide) ⟨by omega, by omega⟩ rfl) ?_
  refine gm_sz (gm_p_load (pc := 40) (i := .aload_n 0) (sr := 2) (j := 0) (by decide +kernel) rfl rfl rfl) ?_
  refine gm_sz (fw_gr (pc := 41) (ix := 23) (ci := 4) (j := 4) (r := 204) (by decide +kernel) (e0k hE (k := 200) (c := 4) (by decide +kernel)) (by decide +kernel) (by decide +kernel) (e0r hE (k := 200) (j := 4) (r := 204) (by decide +kernel))) ?_
  refine gm_sz (gm_p_const (pc := 44) (i := .iconst 5) (v := gm_vi 5) (by decide +kernel) (by decide +kernel)) ?_
  refine gm_sz (gm_p_const (pc := 45) (i := .iconst 0) (v := gm_vi 0) (by decide +kernel) (by decide +kernel)) ?_
  refine gm_sz (fw_is (pc := 46) (k := 204) (len := 10) (e0 := 5) (x := 0) (M' := gm_uM (gm_uM (gm_uM (gm_uM (gm_uM (gm_uM M 204 0 lane) 204 1 row) 204 2 year) 204 3 0) 204 4 speed) 204 5 0) (by decide +kernel) (e0a hE (k := 204) (q := (0, 10)) (by decide +kernel)).1 (e0a hE (k := 204) (q := (0, 10)) (by decide +kernel)).2 (by decide) ⟨by omega, by omega⟩ rfl) ?_
  refine gm_sz (gm_p_load (pc := 47) (i := .aload_n 0) (sr := 2) (j := 0) (by decide +kernel) rfl rfl rfl) ?_
  refine gm_sz (fw_gr (pc := 48) (ix := 23) (ci := 4) (j := 4) (r := 204) (by decide +kernel) (e0k hE (k := 200) (c := 4) (by decide +kernel)) (by decide +kernel) (by decide +kernel) (e0r hE (k := 200) (j := 4) (r := 204) (by decide +kernel))) ?_
  refine gm_sz (gm_p_const (pc := 51) (i := .bipush 6) (v := gm_vi 6) (by decide +kernel) (by decide +kernel)) ?_
  refine gm_sz (gm_p_const (pc := 53) (i := .iconst 0) (v := gm_vi 0) (by decide +kernel) (by decide +kernel)) ?_
  refine gm_sz (fw_is (pc := 54) (k := 204) (len := 10) (e0 := 6) (x := 0) (M' := gm_uM (gm_uM (gm_uM (gm_uM (gm_uM (gm_uM (gm_uM M 204 0 lane) 204 1 row) 204 2 year) 204 3 0) 204 4 speed) 204 5 0) 204 6 0) (by decide +kernel) (e0a hE (k := 204) (q := (0, 10)) (by decide +kernel)).1 (e0a hE (k := 204) (q := (0, 10)) (by decide +kernel)).2 (by decide) ⟨by omega, by omega⟩ rfl) ?_
  refine gm_sz (gm_p_load (pc := 55) (i := .aload_n 0) (sr := 2) (j := 0) (by decide +kernel) rfl rfl rfl) ?_
  refine gm_sz (fw_gr (pc := 56) (ix := 23) (ci := 4) (j := 4) (r := 204) (by decide +kernel) (e0k hE (k := 200) (c := 4) (by decide +kernel)) (by decide +kernel) (by decide +kernel) (e0r hE (k := 200) (j := 4) (r := 204) (by decide +kernel))) ?_
  refine gm_sz (gm_p_const (pc := 59) (i := .bipush 7) (v := gm_vi 7) (by decide +kernel) (by decide +kernel)) ?_
  refine gm_sz (gm_p_const (pc := 61) (i := .iconst 0) (v := gm_vi 0) (by decide +kernel) (by decide +kernel)) ?_
  refine gm_sz (fw_is (pc := 62) (k := 204) (len := 10) (e0 := 7) (x := 0) (M' := gm_uM (gm_uM (gm_uM (gm_uM (gm_uM (gm_uM (gm_uM (gm_uM M 204 0 lane) 204 1 row) 204 2 year) 204 3 0) 204 4 speed) 204 5 0) 204 6 0) 204 7 0) (by decide +kernel) (e0a hE (k := 204) (q := (0, 10)) (by decide +kernel)).1 (e0a hE (k := 204) (q := (0, 10)) (by decide +kernel)).2 (by decide) ⟨by omega, by omega⟩ rfl) ?_
  refine gm_sz (gm_p_load (pc := 63) (i := .aload_n 0) (sr := 2) (j := 0) (by decide +kernel) rfl rfl rfl) ?_
  refine gm_sz (fw_gr (pc := 64) (ix := 23) (ci := 4) (j := 4) (r := 204) (by decide +kernel) (e0k hE (k := 200) (c := 4) (by decide +kernel)) (by decide +kernel) (by decide +kernel) (e0r hE (k := 200) (j := 4) (r := 204) (by decide +kernel))) ?_
  refine gm_sz (gm_p_const (pc := 67) (i := .bipush 8) (v := gm_vi 8) (by decide +kernel) (by decide +kernel)) ?_
  refine gm_sz (gm_p_load (pc := 69) (i := .iload_n 1) (sr := 0) (j := 1) (by decide +kernel) rfl rfl rfl) ?_
  refine fw_if (cc := .eq) (pc := 70) (off := 16) (by decide +kernel) (by decide) ⟨by omega, by omega⟩ (fun h70 => ?_) (fun h70 => ?_)
  · have h70 : lane = 0 := h70
    refine gm_sz (gm_p_const (pc := 86) (i := .iconst 1) (v := gm_vi 1) (by decide +kernel) (by decide +kernel)) ?_
    refine gm_sz (gm_p_goto (pc := 87) (off := 4) (by decide +kernel) (by decide)) ?_
    refine gm_sz (fw_is (pc := 91) (k := 204) (len := 10) (e0 := 8) (x := 1) (M' := gm_uM (gm_uM (gm_uM (gm_uM (gm_uM (gm_uM (gm_uM (gm_uM (gm_uM M 204 0 lane) 204 1 row) 204 2 year) 204 3 0) 204 4 speed) 204 5 0) 204 6 0) 204 7 0) 204 8 1) (by decide +kernel) (e0a hE (k := 204) (q := (0, 10)) (by decide +kernel)).1 (e0a hE (k := 204) (q := (0, 10)) (by decide +kernel)).2 (by decide) ⟨by omega, by omega⟩ rfl) ?_
    refine gm_sz (gm_p_load (pc := 92) (i := .aload_n 0) (sr := 2) (j := 0) (by decide +kernel) rfl rfl rfl) ?_
    refine gm_sz (fw_gr (pc := 93) (ix := 23) (ci := 4) (j := 4) (r := 204) (by decide +kernel) (e0k hE (k := 200) (c := 4) (by decide +kernel)) (by decide +kernel) (by decide +kernel) (e0r hE (k := 200) (j := 4) (r := 204) (by decide +kernel))) ?_
    refine gm_sz (gm_p_const (pc := 96) (i := .bipush 9) (v := gm_vi 9) (by decide +kernel) (by decide +kernel)) ?_
    refine gm_sz (gm_p_load (pc := 98) (i := .iload_n 1) (sr := 0) (j := 1) (by decide +kernel) rfl rfl rfl) ?_
    refine gm_sz (gm_p_load (pc := 99) (i := .aload_n 0) (sr := 2) (j := 0) (by decide +kernel) rfl rfl rfl) ?_
    refine gm_sz (fw_gr (pc := 100) (ix := 34) (ci := 4) (j := 0) (r := 3) (by decide +kernel) (e0k hE (k := 200) (c := 4) (by decide +kernel)) (by decide +kernel) (by decide +kernel) (e0r hE (k := 200) (j := 0) (r := 3) (by decide +kernel))) ?_
    refine gm_sz (fw_gi (pc := 103) (ix := 126) (ci := 1) (j := 4) (x := N 12) (by decide +kernel) (e0k hE (k := 3) (c := 1) (by decide +kernel)) (by decide +kernel) (by decide +kernel) ((uM_ne (by omega)).trans ((uM_ne (by omega)).trans ((uM_ne (by omega)).trans ((uM_ne (by omega)).trans ((uM_ne (by omega)).trans ((uM_ne (by omega)).trans ((uM_ne (by omega)).trans ((uM_ne (by omega)).trans ((uM_ne (by omega)).trans (ti_str hT))))))))))) ?_
    refine fw_ic (cc := .ge) (pc := 106) (off := 7) (by decide +kernel) (by decide) ⟨by omega, by omega⟩ ⟨by omega, by omega⟩ (fun h106 => ?_) (fun h106 => ?_)
    · have h106 : (N 12) ≤ lane := h106
      refine gm_sz (gm_p_const (pc := 113) (i := .iconst 0) (v := gm_vi 0) (by decide +kernel) (by decide +kernel)) ?_
      refine gm_sz (fw_is (pc := 114) (k := 204) (len := 10) (e0 := 9) (x := 0) (M' := gm_uM (gm_uM (gm_uM (gm_uM (gm_uM (gm_uM (gm_uM (gm_uM (gm_uM (gm_uM M 204 0 lane) 204 1 row) 204 2 year) 204 3 0) 204 4 speed) 204 5 0) 204 6 0) 204 7 0) 204 8 1) 204 9 0) (by decide +kernel) (e0a hE (k := 204) (q := (0, 10)) (by decide +kernel)).1 (e0a hE (k := 204) (q := (0, 10)) (by decide +kernel)).2 (by decide) ⟨by omega, by omega⟩ rfl) ?_
      exact gm_r_void (pc := 115) (by decide +kernel) (by decide +kernel) (q0 h70 h106)
    · have h106 : ¬ (N 12) ≤ lane := h106
      refine gm_sz (gm_p_const (pc := 109) (i := .iconst 1) (v := gm_vi 1) (by decide +kernel) (by decide +kernel)) ?_
      refine gm_sz (gm_p_goto (pc := 110) (off := 4) (by decide +kernel) (by decide)) ?_
      refine gm_sz (fw_is (pc := 114) (k := 204) (len := 10) (e0 := 9) (x := 1) (M' := gm_uM (gm_uM (gm_uM (gm_uM (gm_uM (gm_uM (gm_uM (gm_uM (gm_uM (gm_uM M 204 0 lane) 204 1 row) 204 2 year) 204 3 0) 204 4 speed) 204 5 0) 204 6 0) 204 7 0) 204 8 1) 204 9 1) (by decide +kernel) (e0a hE (k := 204) (q := (0, 10)) (by decide +kernel)).1 (e0a hE (k := 204) (q := (0, 10)) (by decide +kernel)).2 (by decide) ⟨by omega, by omega⟩ rfl) ?_
      exact gm_r_void (pc := 115) (by decide +kernel) (by decide +kernel) (q1 h70 h106)
  · have h70 : ¬ lane = 0 := h70
    refine gm_sz (gm_p_load (pc := 73) (i := .iload_n 1) (sr := 0) (j := 1) (by decide +kernel) rfl rfl rfl) ?_
    refine gm_sz (gm_p_load (pc := 74) (i := .aload_n 0) (sr := 2) (j := 0) (by decide +kernel) rfl rfl rfl) ?_
    refine gm_sz (fw_gr (pc := 75) (ix := 34) (ci := 4) (j := 0) (r := 3) (by decide +kernel) (e0k hE (k := 200) (c := 4) (by decide +kernel)) (by decide +kernel) (by decide +kernel) (e0r hE (k := 200) (j := 0) (r := 3) (by decide +kernel))) ?_
    refine gm_sz (fw_gi (pc := 78) (ix := 82) (ci := 1) (j := 0) (x := N 0) (by decide +kernel) (e0k hE (k := 3) (c := 1) (by decide +kernel)) (by decide +kernel) (by decide +kernel) ((uM_ne (by omega)).trans ((uM_ne (by omega)).trans ((uM_ne (by omega)).trans ((uM_ne (by omega)).trans ((uM_ne (by omega)).trans ((uM_ne (by omega)).trans ((uM_ne (by omega)).trans ((uM_ne (by omega)).trans (ti_lan hT)))))))))) ?_
    refine gm_sz (gm_p_const (pc := 81) (i := .iconst 1) (v := gm_vi 1) (by decide +kernel) (by decide +kernel)) ?_
    refine gm_sz (gm_p_bin (pc := 82) (i := .isub) (f := fun x y => x - y) (by decide +kernel) rfl) ?_
    refine fw_ic (cc := .ne) (pc := 83) (off := 7) (by decide +kernel) (by decide) ⟨by omega, by omega⟩ ⟨by omega, by omega⟩ (fun h83 => ?_) (fun h83 => ?_)
    · have h83 : ¬ lane = ((N 0) - 1) := h83
      refine gm_sz (gm_p_const (pc := 90) (i := .iconst 0) (v := gm_vi 0) (by decide +kernel) (by decide +kernel)) ?_
      refine gm_sz (fw_is (pc := 91) (k := 204) (len := 10) (e0 := 8) (x := 0) (M' := gm_uM (gm_uM (gm_uM (gm_uM (gm_uM (gm_uM (gm_uM (gm_uM (gm_uM M 204 0 lane) 204 1 row) 204 2 year) 204 3 0) 204 4 speed) 204 5 0) 204 6 0) 204 7 0) 204 8 0) (by decide +kernel) (e0a hE (k := 204) (q := (0, 10)) (by decide +kernel)).1 (e0a hE (k := 204) (q := (0, 10)) (by decide +kernel)).2 (by decide) ⟨by omega, by omega⟩ rfl) ?_
      refine gm_sz (gm_p_load (pc := 92) (i := .aload_n 0) (sr := 2) (j := 0) (by decide +kernel) rfl rfl rfl) ?_
      refine gm_sz (fw_gr (pc := 93) (ix := 23) (ci := 4) (j := 4) (r := 204) (by decide +kernel) (e0k hE (k := 200) (c := 4) (by decide +kernel)) (by decide +kernel) (by decide +kernel) (e0r hE (k := 200) (j := 4) (r := 204) (by decide +kernel))) ?_
      refine gm_sz (gm_p_const (pc := 96) (i := .bipush 9) (v := gm_vi 9) (by decide +kernel) (by decide +kernel)) ?_
      refine gm_sz (gm_p_load (pc := 98) (i := .iload_n 1) (sr := 0) (j := 1) (by decide +kernel) rfl rfl rfl) ?_
      refine gm_sz (gm_p_load (pc := 99) (i := .aload_n 0) (sr := 2) (j := 0) (by decide +kernel) rfl rfl rfl) ?_
      refine gm_sz (fw_gr (pc := 100) (ix := 34) (ci := 4) (j := 0) (r := 3) (by decide +kernel) (e0k hE (k := 200) (c := 4) (by decide +kernel)) (by decide +kernel) (by decide +kernel) (e0r hE (k := 200) (j := 0) (r := 3) (by decide +kernel))) ?_
      refine gm_sz (fw_gi (pc := 103) (ix := 126) (ci := 1) (j := 4) (x := N 12) (by decide +kernel) (e0k hE (k := 3) (c := 1) (by decide +kernel)) (by decide +kernel) (by decide +kernel) ((uM_ne (by omega)).trans ((uM_ne (by omega)).trans ((uM_ne (by omega)).trans ((uM_ne (by omega)).trans ((uM_ne (by omega)).trans ((uM_ne (by omega)).trans ((uM_ne (by omega)).trans ((uM_ne (by omega)).trans ((uM_ne (by omega)).trans (ti_str hT))))))))))) ?_
      refine fw_ic (cc := .ge) (pc := 106) (off := 7) (by decide +kernel) (by decide) ⟨by omega, by omega⟩ ⟨by omega, by omega⟩ (fun h106 => ?_) (fun h106 => ?_)
      · have h106 : (N 12) ≤ lane := h106
        refine gm_sz (gm_p_const (pc := 113) (i := .iconst 0) (v := gm_vi 0) (by decide +kernel) (by decide +kernel)) ?_
        refine gm_sz (fw_is (pc := 114) (k := 204) (len := 10) (e0 := 9) (x := 0) (M' := gm_uM (gm_uM (gm_uM (gm_uM (gm_uM (gm_uM (gm_uM (gm_uM (gm_uM (gm_uM M 204 0 lane) 204 1 row) 204 2 year) 204 3 0) 204 4 speed) 204 5 0) 204 6 0) 204 7 0) 204 8 0) 204 9 0) (by decide +kernel) (e0a hE (k := 204) (q := (0, 10)) (by decide +kernel)).1 (e0a hE (k := 204) (q := (0, 10)) (by decide +kernel)).2 (by decide) ⟨by omega, by omega⟩ rfl) ?_
        exact gm_r_void (pc := 115) (by decide +kernel) (by decide +kernel) (q2 h70 h83 h106)
      · have h106 : ¬ (N 12) ≤ lane := h106
        refine gm_sz (gm_p_const (pc := 109) (i := .iconst 1) (v := gm_vi 1) (by decide +kernel) (by decide +kernel)) ?_
        refine gm_sz (gm_p_goto (pc := 110) (off := 4) (by decide +kernel) (by decide)) ?_
        refine gm_sz (fw_is (pc := 114) (k := 204) (len := 10) (e0 := 9) (x := 1) (M' := gm_uM (gm_uM (gm_uM (gm_uM (gm_uM (gm_uM (gm_uM (gm_uM (gm_uM (gm_uM M 204 0 lane) 204 1 row) 204 2 year) 204 3 0) 204 4 speed) 204 5 0) 204 6 0) 204 7 0) 204 8 0) 204 9 1) (by decide +kernel) (e0a hE (k := 204) (q := (0, 10)) (by decide +kernel)).1 (e0a hE (k := 204) (q := (0, 10)) (by decide +kernel)).2 (by decide) ⟨by omega, by omega⟩ rfl) ?_
        exact gm_r_void (pc := 115) (by decide +kernel) (by decide +kernel) (q3 h70 h83 h106)
    · have h83 : lane = ((N 0) - 1) := Classical.not_not.mp h83
      refine gm_sz (gm_p_const (pc := 86) (i := .iconst 1) (v := gm_vi 1) (by decide +kernel) (by decide +kernel)) ?_
      refine gm_sz (gm_p_goto (pc := 87) (off := 4) (by decide +kernel) (by decide)) ?_
      refine gm_sz (fw_is (pc := 91) (k := 204) (len := 10) (e0 := 8) (x := 1) (M' := gm_uM (gm_uM (gm_uM (gm_uM (gm_uM (gm_uM (gm_uM (gm_uM (gm_uM M 204 0 lane) 204 1 row) 204 2 year) 204 3 0) 204 4 speed) 204 5 0) 204 6 0) 204 7 0) 204 8 1) (by decide +kernel) (e0a hE (k := 204) (q := (0, 10)) (by decide +kernel)).1 (e0a hE (k := 204) (q := (0, 10)) (by decide +kernel)).2 (by decide) ⟨by omega, by omega⟩ rfl) ?_
      refine gm_sz (gm_p_load (pc := 92) (i := .aload_n 0) (sr := 2) (j := 0) (by decide +kernel) rfl rfl rfl) ?_
      refine gm_sz (fw_gr (pc := 93) (ix := 23) (ci := 4) (j := 4) (r := 204) (by decide +kernel) (e0k hE (k := 200) (c := 4) (by decide +kernel)) (by decide +kernel) (by decide +kernel) (e0r hE (k := 200) (j := 4) (r := 204) (by decide +kernel))) ?_
      refine gm_sz (gm_p_const (pc := 96) (i := .bipush 9) (v := gm_vi 9) (by decide +kernel) (by decide +kernel)) ?_
      refine gm_sz (gm_p_load (pc := 98) (i := .iload_n 1) (sr := 0) (j := 1) (by decide +kernel) rfl rfl rfl) ?_
      refine gm_sz (gm_p_load (pc := 99) (i := .aload_n 0) (sr := 2) (j := 0) (by decide +kernel) rfl rfl rfl) ?_
      refine gm_sz (fw_gr (pc := 100) (ix := 34) (ci := 4) (j := 0) (r := 3) (by decide +kernel) (e0k hE (k := 200) (c := 4) (by decide +kernel)) (by decide +kernel) (by decide +kernel) (e0r hE (k := 200) (j := 0) (r := 3) (by decide +kernel))) ?_
      refine gm_sz (fw_gi (pc := 103) (ix := 126) (ci := 1) (j := 4) (x := N 12) (by decide +kernel) (e0k hE (k := 3) (c := 1) (by decide +kernel)) (by decide +kernel) (by decide +kernel) ((uM_ne (by omega)).trans ((uM_ne (by omega)).trans ((uM_ne (by omega)).trans ((uM_ne (by omega)).trans ((uM_ne (by omega)).trans ((uM_ne (by omega)).trans ((uM_ne (by omega)).trans ((uM_ne (by omega)).trans ((uM_ne (by omega)).trans (ti_str hT))))))))))) ?_
      refine fw_ic (cc := .ge) (pc := 106) (off := 7) (by decide +kernel) (by decide) ⟨by omega, by omega⟩ ⟨by omega, by omega⟩ (fun h106 => ?_) (fun h106 => ?_)
      · have h106 : (N 12) ≤ lane := h106
        refine gm_sz (gm_p_const (pc := 113) (i := .iconst 0) (v := gm_vi 0) (by decide +kernel) (by decide +kernel)) ?_
        refine gm_sz (fw_is (pc := 114) (k := 204) (len := 10) (e0 := 9) (x := 0) (M' := gm_uM (gm_uM (gm_uM (gm_uM (gm_uM (gm_uM (gm_uM (gm_uM (gm_uM (gm_uM M 204 0 lane) 204 1 row) 204 2 year) 204 3 0) 204 4 speed) 204 5 0) 204 6 0) 204 7 0) 204 8 1) 204 9 0) (by decide +kernel) (e0a hE (k := 204) (q := (0, 10)) (by decide +kernel)).1 (e0a hE (k := 204) (q := (0, 10)) (by decide +kernel)).2 (by decide) ⟨by omega, by omega⟩ rfl) ?_
        exact gm_r_void (pc := 115) (by decide +kernel) (by decide +kernel) (q4 h70 h83 h106)
      · have h106 : ¬ (N 12) ≤ lane := h106
        refine gm_sz (gm_p_const (pc := 109) (i := .iconst 1) (v := gm_vi 1) (by decide +kernel) (by decide +kernel)) ?_
        refine gm_sz (gm_p_goto (pc := 110) (off := 4) (by decide +kernel) (by decide)) ?_
        refine gm_sz (fw_is (pc := 114) (k := 204) (len := 10) (e0 := 9) (x := 1) (M' := gm_uM (gm_uM (gm_uM (gm_uM (gm_uM (gm_uM (gm_uM (gm_uM (gm_uM (gm_uM M 204 0 lane) 204 1 row) 204 2 year) 204 3 0) 204 4 speed) 204 5 0) 204 6 0) 204 7 0) 204 8 1) 204 9 1) (by decide +kernel) (e0a hE (k := 204) (q := (0, 10)) (by decide +kernel)).1 (e0a hE (k := 204) (q := (0, 10)) (by decide +kernel)).2 (by decide) ⟨by omega, by omega⟩ rfl) ?_
        exact gm_r_void (pc := 115) (by decide +kernel) (by decide +kernel) (q5 h70 h83 h106)
theorem ln_sfm (hd : 1 ≤ d) (hE : E0 n K R) (hT : TI N h sp M) (hN : NR N) (h1 : lane = -1) (h2 : year = -1) (hm : h year = 0) (hq : Q (.inl none) n K R (ic_fa M N h lane row year speed)) : gm_Wp X LX d bc bs 39 0 (gm_ent 39 [gm_vr 200, gm_vi lane, gm_vi row, gm_vi year, gm_vi speed]) [] n K R M Q := by
  unfold ic_fa at hq
  rw [hm] at hq
  refine ln_sf0m hd hE hT hN h1 h2 (fun g0 g1 => ?_) (fun g0 g1 => ?_) (fun g0 g1 g2 => ?_) (fun g0 g1 g2 => ?_) (fun g0 g1 g2 => ?_) (fun g0 g1 g2 => ?_)
  · rw [if_pos (by omega), if_neg (by omega)] at hq
    exact hq
  · rw [if_pos (by omega), if_pos (by omega)] at hq
    exact hq
  · rw [if_neg (by omega), if_neg (by omega)] at hq
    exact hq
  · rw [if_neg (by omega), if_pos (by omega)] at hq
    exact hq
  · rw [if_pos (by omega), if_neg (by omega)] at hq
    exact hq
  · rw [if_pos (by omega), if_pos (by omega)] at hq
    exact hq
theorem ln_rc (hd : 1 ≤ d) (hE : E0 n K R) (hb : gm_ir (M 200 6)) (h0 : -100000 ≤ cell ∧ cell < 0) (hq : ∀ M2, fr [(200, some 6), (205, none)] M M2 → M2 200 6 = 0 → (∀ c, 0 ≤ c → c < 178200 → kv M2 c = kv M c) → Q (.inl (some (gm_vi 31))) n K R M2) : gm_Wp X LX d bc bs 37 0 (gm_ent 37 [gm_vr 200, gm_vi cell]) [] n K R M Q := by
  refine gm_sz (gm_p_load (pc := 0) (i := .aload_n 0) (sr := 2) (j := 0) (by decide +kernel) rfl rfl rfl) ?_
  refine gm_sz (fw_gi (pc := 1) (ix := 30) (ci := 4) (j := 6) (x := M 200 6) (by decide +kernel) (e0k hE (k := 200) (c := 4) (by decide +kernel)) (by decide +kernel) (by decide +kernel) rfl) ?_
  refine fw_if (cc := .eq) (pc := 4) (off := 18) (by decide +kernel) (by decide) hb (fun h4 => ?_) (fun h4 => ?_)
  · have h4 : (M 200 6) = 0 := h4
    refine gm_sz (gm_p_load (pc := 22) (i := .iload_n 1) (sr := 0) (j := 1) (by decide +kernel) rfl rfl rfl) ?_
    refine gm_sz (gm_p_const (pc := 23) (i := .bipush 12) (v := gm_vi 12) (by decide +kernel) (by decide +kernel)) ?_
    refine gm_sz (gm_p_div (pc := 25) (by decide +kernel) (by decide)) ?_
    refine gm_sz (gm_p_stor (pc := 26) (i := .istore_n 2) (sr := 0) (j := 2) (by decide +kernel) rfl (show 3 ≤ _ from Nat.le_of_ble_eq_true rfl) rfl) ?_
    refine gm_sz (gm_p_load (pc := 27) (i := .iload_n 1) (sr := 0) (j := 1) (by decide +kernel) rfl rfl rfl) ?_
    refine fw_ift (cc := .lt) (pc := 28) (off := 12) (by decide +kernel) (by decide) ⟨by omega, by omega⟩ (show cell < 0 by omega) ?_
    refine gm_sz (gm_p_const (pc := 40) (i := .bipush 31) (v := gm_vi 31) (by decide +kernel) (by decide +kernel)) ?_
    have q := hq M fr_0 h4 (fun _ _ _ => rfl)
    exact gm_r_int (pc := 42) (by decide +kernel) (Or.inl (by decide +kernel)) q
  · have h4 : ¬ (M 200 6) = 0 := h4
    refine gm_sz (gm_p_load (pc := 7) (i := .aload_n 0) (sr := 2) (j := 0) (by decide +kernel) rfl rfl rfl) ?_
    refine gm_sz (fw_gr (pc := 8) (ix := 26) (ci := 4) (j := 5) (r := 205) (by decide +kernel) (e0k hE (k := 200) (c := 4) (by decide +kernel)) (by decide +kernel) (by decide +kernel) (e0r hE (k := 200) (j := 5) (r := 205) (by decide +kernel))) ?_
    refine gm_sz (gm_p_ldcl (pc := 11) (ix := 116) (v := (-1)) (by decide +kernel) (by decide +kernel)) ?_
    refine gm_c_stat2 (mj := 38) (ix := 118) (pc := 14) (u0 := gm_vr 205) (u1 := gm_vl (-1)) (st := []) (d' := d - 1) (bc' := 0) (bs' := 0) (by decide +kernel) (by decide +kernel) (by decide +kernel) (by decide +kernel) (show 2 = gm_na 38 by decide +kernel) fw_sr (show 3 ≤ gm_ml 38 by decide +kernel) (Nat.le_of_ble_eq_true rfl) (by omega) (Nat.zero_le _) (Nat.zero_le _) ?_
    refine fl_c38 (e0a hE (k := 205) (q := (2, 14850)) (by decide +kernel)) (by decide) ?_
    show gm_Wp X LX d _ _ 37 17 _ [] n K _ _ Q
    refine gm_sz (gm_p_load (pc := 17) (i := .aload_n 0) (sr := 2) (j := 0) (by decide +kernel) rfl rfl rfl) ?_
    refine gm_sz (gm_p_const (pc := 18) (i := .iconst 0) (v := gm_vi 0) (by decide +kernel) (by decide +kernel)) ?_
    refine gm_sz (fw_pz (pc := 19) (ix := 30) (ci := 4) (j := 6) (M' := gm_uM (gm_fil M 205 ((14850 : Nat) : Int) (-1)) 200 6 0) (by decide +kernel) (e0k hE (k := 200) (c := 4) (by decide +kernel)) (by decide +kernel) (by decide +kernel) (by decide +kernel) (Or.inl rfl) rfl) ?_
    refine gm_sz (gm_p_load (pc := 22) (i := .iload_n 1) (sr := 0) (j := 1) (by decide +kernel) rfl rfl rfl) ?_
    refine gm_sz (gm_p_const (pc := 23) (i := .bipush 12) (v := gm_vi 12) (by decide +kernel) (by decide +kernel)) ?_
    refine gm_sz (gm_p_div (pc := 25) (by decide +kernel) (by decide)) ?_
    refine gm_sz (gm_p_stor (pc := 26) (i := .istore_n 2) (sr := 0) (j := 2) (by decide +kernel) rfl (show 3 ≤ _ from Nat.le_of_ble_eq_true rfl) rfl) ?_
    refine gm_sz (gm_p_load (pc := 27) (i := .iload_n 1) (sr := 0) (j := 1) (by decide +kernel) rfl rfl rfl) ?_
    refine fw_ift (cc := .lt) (pc := 28) (off := 12) (by decide +kernel) (by decide) ⟨by omega, by omega⟩ (show cell < 0 by omega) ?_
    refine gm_sz (gm_p_const (pc := 40) (i := .bipush 31) (v := gm_vi 31) (by decide +kernel) (by decide +kernel)) ?_
    have k9 : ∀ c, 0 ≤ c → c < 178200 → kv (gm_uM (gm_fil M 205 ((14850 : Nat) : Int) (-1)) 200 6 0) c = kv M c := fun c c0 c1 => by
      obtain ⟨k, hk, -⟩ := sh12_s (c := c % 12) ⟨by omega, by omega⟩
      have e6 : gm_uM (gm_fil M 205 ((14850 : Nat) : Int) (-1)) 200 6 0 200 6 = 0 := uM_at
      have e5 : gm_uM (gm_fil M 205 ((14850 : Nat) : Int) (-1)) 200 6 0 205 (c / 12) = -1 := ((uM_ne (by omega)).trans (gm_fil_in (by omega) (by omega)))
      unfold kv
      rw [if_pos e6, if_neg h4, e5]
      exact fld_m1 hk
    have q := hq (gm_uM (gm_fil M 205 ((14850 : Nat) : Int) (-1)) 200 6 0) (fr_p (fr_t fr_0 gm_fil_fr (by decide)) (Or.inr (by decide))) uM_at k9
    exact gm_r_int (pc := 42) (by decide +kernel) (Or.inl (by decide +kernel)) q
theorem ln_kp (hE : E0 n K R) (h0 : -100000 ≤ cell ∧ cell < 0) (hq : Q (.inl none) n K R M) : gm_Wp X LX d bc bs 42 0 (gm_ent 42 [gm_vr 200, gm_vi cell, gm_vi f]) [] n K R M Q := by
  refine gm_sz (gm_p_load (pc := 0) (i := .iload_n 1) (sr := 0) (j := 1) (by decide +kernel) rfl rfl rfl) ?_
  refine gm_sz (gm_p_const (pc := 1) (i := .bipush 12) (v := gm_vi 12) (by decide +kernel) (by decide +kernel)) ?_
  refine gm_sz (gm_p_div (pc := 3) (by decide +kernel) (by decide)) ?_
  refine gm_sz (gm_p_stor (pc := 4) (i := .istore_n 3) (sr := 0) (j := 3) (by decide +kernel) rfl (show 4 ≤ _ from Nat.le_of_ble_eq_true rfl) rfl) ?_
  refine gm_sz (gm_p_load (pc := 5) (i := .iload_n 1) (sr := 0) (j := 1) (by decide +kernel) rfl rfl rfl) ?_
  refine fw_ift (cc := .lt) (pc := 6) (off := 53) (by decide +kernel) (by decide) ⟨by omega, by omega⟩ (show cell < 0 by omega) ?_
  exact gm_r_void (pc := 59) (by decide +kernel) (by decide +kernel) hq
theorem ic_fln (hE : E0 n K R) (hL : LE n K R NC) (hlw : R 3 ((8 : Nat) : Int) = 246) (hN : NR N) : ∀ (d bc bs : Nat) (M : gm_M) (Q : gm_Q) (lane row year : Int), 12 ≤ d → lane = -1 → -1 ≤ row ∧ row < 99 → 0 ≤ year ∧ year < 300 → TI N h sp M → (LB NC C Ln m M ∧ KFL N φ M) → (∀ M2 v, fr [(200, some 6), (204, none), (205, none)] M M2 → (LB NC C Ln m M2 ∧ KFL N φ M2) → Q (.inl (some (gm_vi v))) n K R M2) → gm_Wp X LX d bc bs 35 0 (gm_ent 35 [gm_vr 200, gm_vi lane, gm_vi row, gm_vi year]) [] n K R M Q := by
  intro d bc bs M Q lane row year hd hl h2 h3 hT hI hq
  obtain ⟨hB, ⟨k6, k7⟩, hk⟩ := hI
  have hB9 := lb_lines hB
  obtain ⟨⟨⟨a0, b0⟩, ⟨a1, b1⟩, ⟨a10, b10⟩, ⟨a11, b11⟩, ⟨a12, b12⟩, a9, b9⟩, ⟨⟨a2, b2⟩, ⟨a5, b5⟩, ⟨a3, b3⟩, ⟨a4, b4⟩, ⟨a6, b6⟩, ⟨a14, b14⟩, ⟨a7, b7⟩, a13, b13⟩, rF, rP, rL⟩ := id hN
  refine gm_sz (gm_p_load (pc := 0) (i := .aload_n 0) (sr := 2) (j := 0) (by decide +kernel) rfl rfl rfl) ?_
  refine gm_sz (gm_p_load (pc := 1) (i := .iload_n 1) (sr := 0) (j := 1) (by decide +kernel) rfl rfl rfl) ?_
  refine gm_sz (gm_p_load (pc := 2) (i := .iload_n 2) (sr := 0) (j := 2) (by decide +kernel) rfl rfl rfl) ?_
  refine gm_c_virt (k := 200) (ci := 4) (mj := 36) (ix := 90) (pc := 3) (as := [gm_vi lane, gm_vi row]) (st := []) (d' := d - 1) (bc' := 0) (bs' := 0) (by decide +kernel) (by decide +kernel) (by decide +kernel) (by decide +kernel) (e0k hE (k := 200) (c := 4) (by decide +kernel)).1 (e0k hE (k := 200) (c := 4) (by decide +kernel)).2 (by decide) (by decide +kernel) (show 2 = gm_na 36 by decide +kernel) (fw_c2 fw_si fw_si) (show 3 ≤ gm_ml 36 by decide +kernel) (Nat.le_of_ble_eq_true rfl) (by omega) (Nat.zero_le _) (Nat.zero_le _) ?_
  refine ln_spd hE hT hN hl ⟨by omega, by omega⟩ ?_
  show gm_Wp X LX d _ _ 35 6 _ [gm_vi 0] n K _ _ Q
  refine gm_sz (gm_p_stor (pc := 6) (i := .istore 4) (sr := 0) (j := 4) (by decide +kernel) rfl (show 5 ≤ _ from Nat.le_of_ble_eq_true rfl) rfl) ?_
  refine gm_sz (gm_p_load (pc := 8) (i := .aload_n 0) (sr := 2) (j := 0) (by decide +kernel) rfl rfl rfl) ?_
  refine gm_sz (fw_gr (pc := 9) (ix := 34) (ci := 4) (j := 0) (r := 3) (by decide +kernel) (e0k hE (k := 200) (c := 4) (by decide +kernel)) (by decide +kernel) (by decide +kernel) (e0r hE (k := 200) (j := 0) (r := 3) (by decide +kernel))) ?_
  refine gm_sz (fw_gr (pc := 12) (ix := 93) (ci := 1) (j := 8) (r := 246) (by decide +kernel) (e0k hE (k := 3) (c := 1) (by decide +kernel)) (by decide +kernel) (by decide +kernel) hlw) ?_
  refine gm_b_nnul (pc := 15) (off := 6) (k0 := 246) (by decide) (by decide +kernel) (by decide) (fun _ => ?_) (fun h => absurd h (by decide))
  refine gm_sz (gm_p_load (pc := 21) (i := .iload_n 1) (sr := 0) (j := 1) (by decide +kernel) rfl rfl rfl) ?_
  refine gm_sz (gm_p_const (pc := 22) (i := .bipush 99) (v := gm_vi 99) (by decide +kernel) (by decide +kernel)) ?_
  refine gm_sz (gm_p_bin (pc := 24) (i := .imul) (f := fun x y => x * y) (by decide +kernel) rfl) ?_
  refine gm_sz (gm_p_load (pc := 25) (i := .iload_n 2) (sr := 0) (j := 2) (by decide +kernel) rfl rfl rfl) ?_
  refine gm_sz (gm_p_bin (pc := 26) (i := .iadd) (f := fun x y => x + y) (by decide +kernel) rfl) ?_
  refine gm_sz (gm_p_const (pc := 27) (i := .sipush 300) (v := gm_vi 300) (by decide +kernel) (by decide +kernel)) ?_
  refine gm_sz (gm_p_bin (pc := 30) (i := .imul) (f := fun x y => x * y) (by decide +kernel) rfl) ?_
  refine gm_sz (gm_p_load (pc := 31) (i := .iload_n 3) (sr := 0) (j := 3) (by decide +kernel) rfl rfl rfl) ?_
  refine gm_sz (gm_p_bin (pc := 32) (i := .iadd) (f := fun x y => x + y) (by decide +kernel) rfl) ?_
  refine gm_sz (gm_p_stor (pc := 33) (i := .istore 5) (sr := 0) (j := 5) (by decide +kernel) rfl (show 6 ≤ _ from Nat.le_of_ble_eq_true rfl) rfl) ?_
  refine gm_sz (gm_p_load (pc := 35) (i := .aload_n 0) (sr := 2) (j := 0) (by decide +kernel) rfl rfl rfl) ?_
  refine gm_sz (gm_p_load (pc := 36) (i := .iload 5) (sr := 0) (j := 5) (by decide +kernel) rfl rfl rfl) ?_
  refine gm_c_virt (k := 200) (ci := 4) (mj := 37) (ix := 97) (pc := 38) (as := [gm_vi ((((lane * 99) + row) * 300) + year)]) (st := []) (d' := d - 1) (bc' := 0) (bs' := 0) (by decide +kernel) (by decide +kernel) (by decide +kernel) (by decide +kernel) (e0k hE (k := 200) (c := 4) (by decide +kernel)).1 (e0k hE (k := 200) (c := 4) (by decide +kernel)).2 (by decide) (by decide +kernel) (show 1 = gm_na 37 by decide +kernel) (fw_c1 fw_si) (show 2 ≤ gm_ml 37 by decide +kernel) (Nat.le_of_ble_eq_true rfl) (by omega) (Nat.zero_le _) (Nat.zero_le _) ?_
  refine ln_rc (cell := (((lane * 99) + row) * 300) + year) (by omega) hE ⟨by omega, by omega⟩ ⟨by omega, by omega⟩ (fun M37 hf37 h637 hk37 => ?_)
  show gm_Wp X LX d _ _ 35 41 _ [gm_vi 31] n K _ _ Q
  refine gm_sz (gm_p_stor (pc := 41) (i := .istore 6) (sr := 0) (j := 6) (by decide +kernel) rfl (show 7 ≤ _ from Nat.le_of_ble_eq_true rfl) rfl) ?_
  refine gm_sz (gm_p_load (pc := 43) (i := .iload 6) (sr := 0) (j := 6) (by decide +kernel) rfl rfl rfl) ?_
  refine gm_sz (gm_p_const (pc := 45) (i := .bipush 31) (v := gm_vi 31) (by decide +kernel) (by decide +kernel)) ?_
  refine fw_icfd (cc := .ne) (pc := 47) (off := 48) (by decide +kernel) (by decide) ⟨by decide, by decide⟩ ⟨by decide, by decide⟩ (by decide) ?_
  refine gm_sz (gm_p_load (pc := 50) (i := .aload_n 0) (sr := 2) (j := 0) (by decide +kernel) rfl rfl rfl) ?_
  refine gm_sz (gm_p_load (pc := 51) (i := .iload_n 1) (sr := 0) (j := 1) (by decide +kernel) rfl rfl rfl) ?_
  refine gm_sz (gm_p_load (pc := 52) (i := .iload_n 2) (sr := 0) (j := 2) (by decide +kernel) rfl rfl rfl) ?_
  refine gm_sz (gm_p_load (pc := 53) (i := .iload_n 3) (sr := 0) (j := 3) (by decide +kernel) rfl rfl rfl) ?_
  refine gm_sz (gm_p_load (pc := 54) (i := .iload 4) (sr := 0) (j := 4) (by decide +kernel) rfl rfl rfl) ?_
  refine gm_c_virt (k := 200) (ci := 4) (mj := 39) (ix := 101) (pc := 56) (as := [gm_vi lane, gm_vi row, gm_vi year, gm_vi 0]) (st := []) (d' := d - 1) (bc' := 0) (bs' := 0) (by decide +kernel) (by decide +kernel) (by decide +kernel) (by decide +kernel) (e0k hE (k := 200) (c := 4) (by decide +kernel)).1 (e0k hE (k := 200) (c := 4) (by decide +kernel)).2 (by decide) (by decide +kernel) (show 4 = gm_na 39 by decide +kernel) (fw_c4 fw_si fw_si fw_si fw_si) (show 5 ≤ gm_ml 39 by decide +kernel) (Nat.le_of_ble_eq_true rfl) (by omega) (Nat.zero_le _) (Nat.zero_le _) ?_
  refine ln_sf (by omega) hE (ti_fr (W := [(200, some 6), (205, none)]) hT (fr_t fr_0 hf37 (by decide)) (by decide) (by decide +kernel)) hN hl ⟨by omega, by omega⟩ ?_
  show gm_Wp X LX d _ _ 35 59 _ [] n K _ _ Q
  refine gm_sz (gm_p_const (pc := 59) (i := .iconst 0) (v := gm_vi 0) (by decide +kernel) (by decide +kernel)) ?_
  refine gm_sz (gm_p_const (pc := 60) (i := .bipush 30) (v := gm_vi 30) (by decide +kernel) (by decide +kernel)) ?_
  refine gm_sz (gm_p_load (pc := 62) (i := .iload 4) (sr := 0) (j := 4) (by decide +kernel) rfl rfl rfl) ?_
  refine gm_sz (gm_p_load (pc := 64) (i := .aload_n 0) (sr := 2) (j := 0) (by decide +kernel) rfl rfl rfl) ?_
  refine gm_sz (fw_gr (pc := 65) (ix := 34) (ci := 4) (j := 0) (r := 3) (by decide +kernel) (e0k hE (k := 200) (c := 4) (by decide +kernel)) (by decide +kernel) (by decide +kernel) (e0r hE (k := 200) (j := 0) (r := 3) (by decide +kernel))) ?_
  refine gm_sz (fw_gr (pc := 68) (ix := 93) (ci := 1) (j := 8) (r := 246) (by decide +kernel) (e0k hE (k := 3) (c := 1) (by decide +kernel)) (by decide +kernel) (by decide +kernel) hlw) ?_
  refine gm_sz (gm_p_load (pc := 71) (i := .aload_n 0) (sr := 2) (j := 0) (by decide +kernel) rfl rfl rfl) ?_
  refine gm_sz (fw_gr (pc := 72) (ix := 23) (ci := 4) (j := 4) (r := 204) (by decide +kernel) (e0k hE (k := 200) (c := 4) (by decide +kernel)) (by decide +kernel) (by decide +kernel) (e0r hE (k := 200) (j := 4) (r := 204) (by decide +kernel))) ?_
  refine gm_c_virt (k := 246) (ci := 10) (mj := 40) (ix := 105) (pc := 75) (as := [gm_vr 204]) (st := [gm_vi 0, gm_vi 30, gm_vi 0]) (d' := d - 1) (bc' := 0) (bs' := 0) (by decide +kernel) (by decide +kernel) (by decide +kernel) (by decide +kernel) (lk6 hL).1 (lk6 hL).2 (by decide) (by decide +kernel) (show 1 = gm_na 40 by decide +kernel) (fw_c1 fw_sr) (show 2 ≤ gm_ml 40 by decide +kernel) (Nat.le_of_ble_eq_true rfl) (by omega) (Nat.zero_le _) (Nat.zero_le _) ?_
  refine fa_c40 (F := (fcts N h lane row year 0 0 0 0)) (C := C) (L := Ln) (m := m) (by omega) hE hL (lb_fr (W := [(200, some 6), (205, none), (204, some 0), (204, some 1), (204, some 2), (204, some 3), (204, some 4), (204, some 5), (204, some 6), (204, some 7), (204, some 8), (204, some 9)]) (fr_p (fr_p (fr_p (fr_p (fr_p (fr_p (fr_p (fr_p (fr_p (fr_p (fr_t fr_0 hf37 (by decide)) (Or.inr (by decide))) (Or.inr (by decide))) (Or.inr (by decide))) (Or.inr (by decide))) (Or.inr (by decide))) (Or.inr (by decide))) (Or.inr (by decide))) (Or.inr (by decide))) (Or.inr (by decide))) (Or.inr (by decide))) (by decide) hB).1 (fun j j0 j1 => ic_fa_s j j0 j1) (lb_fr (W := [(200, some 6), (205, none), (204, some 0), (204, some 1), (204, some 2), (204, some 3), (204, some 4), (204, some 5), (204, some 6), (204, some 7), (204, some 8), (204, some 9)]) (fr_p (fr_p (fr_p (fr_p (fr_p (fr_p (fr_p (fr_p (fr_p (fr_p (fr_t fr_0 hf37 (by decide)) (Or.inr (by decide))) (Or.inr (by decide))) (Or.inr (by decide))) (Or.inr (by decide))) (Or.inr (by decide))) (Or.inr (by decide))) (Or.inr (by decide))) (Or.inr (by decide))) (Or.inr (by decide))) (Or.inr (by decide))) (by decide) hB).2.1 (lb_fr (W := [(200, some 6), (205, none), (204, some 0), (204, some 1), (204, some 2), (204, some 3), (204, some 4), (204, some 5), (204, some 6), (204, some 7), (204, some 8), (204, some 9)]) (fr_p (fr_p (fr_p (fr_p (fr_p (fr_p (fr_p (fr_p (fr_p (fr_p (fr_t fr_0 hf37 (by decide)) (Or.inr (by decide))) (Or.inr (by decide))) (Or.inr (by decide))) (Or.inr (by decide))) (Or.inr (by decide))) (Or.inr (by decide))) (Or.inr (by decide))) (Or.inr (by decide))) (Or.inr (by decide))) (Or.inr (by decide))) (by decide) hB).2.2.1 (lb_fr (W := [(200, some 6), (205, none), (204, some 0), (204, some 1), (204, some 2), (204, some 3), (204, some 4), (204, some 5), (204, some 6), (204, some 7), (204, some 8), (204, some 9)]) (fr_p (fr_p (fr_p (fr_p (fr_p (fr_p (fr_p (fr_p (fr_p (fr_p (fr_t fr_0 hf37 (by decide)) (Or.inr (by decide))) (Or.inr (by decide))) (Or.inr (by decide))) (Or.inr (by decide))) (Or.inr (by decide))) (Or.inr (by decide))) (Or.inr (by decide))) (Or.inr (by decide))) (Or.inr (by decide))) (Or.inr (by decide))) (by decide) hB).2.2.2 ?_
  show gm_Wp X LX d _ _ 35 78 _ [gm_vi (lfas (fcts N h lane row year 0 0 0 0) C Ln m.toNat), gm_vi 0, gm_vi 30, gm_vi 0] n K _ _ Q
  have hl9 := lfas_b (C := C) (F := (fcts N h lane row year 0 0 0 0)) hB9.2 m.toNat (by omega)
  refine gm_sz (gm_p_bin (pc := 78) (i := .iadd) (f := fun x y => x + y) (by decide +kernel) rfl) ?_
  refine gm_sz (gm_p_min (pc := 79) (ix := 109) (x := 30) (y := 0 + (lfas (fcts N h lane row year 0 0 0 0) C Ln m.toNat)) (by decide +kernel) (by decide +kernel) (gm_w_id (by omega) (by omega)) (gm_w_id (by omega) (by omega)) (Nat.le_of_ble_eq_true rfl) (by omega)) ?_
  refine gm_sz (gm_p_max (pc := 82) (ix := 77) (x := 0) (y := min 30 (0 + (lfas (fcts N h lane row year 0 0 0 0) C Ln m.toNat))) (by decide +kernel) (by decide +kernel) (gm_w_id (by omega) (by omega)) (gm_w_id (by omega) (by omega)) (Nat.le_of_ble_eq_true rfl) (by omega)) ?_
  refine gm_sz (gm_p_stor (pc := 85) (i := .istore 6) (sr := 0) (j := 6) (by decide +kernel) rfl (show 7 ≤ _ from Nat.le_of_ble_eq_true rfl) rfl) ?_
  refine gm_sz (gm_p_load (pc := 87) (i := .aload_n 0) (sr := 2) (j := 0) (by decide +kernel) rfl rfl rfl) ?_
  refine gm_sz (gm_p_load (pc := 88) (i := .iload 5) (sr := 0) (j := 5) (by decide +kernel) rfl rfl rfl) ?_
  refine gm_sz (gm_p_load (pc := 90) (i := .iload 6) (sr := 0) (j := 6) (by decide +kernel) rfl rfl rfl) ?_
  refine gm_c_virt (k := 200) (ci := 4) (mj := 42) (ix := 112) (pc := 92) (as := [gm_vi ((((lane * 99) + row) * 300) + year), gm_vi (max 0 (min 30 (0 + (lfas (fcts N h lane row year 0 0 0 0) C Ln m.toNat))))]) (st := []) (d' := d - 1) (bc' := 0) (bs' := 0) (by decide +kernel) (by decide +kernel) (by decide +kernel) (by decide +kernel) (e0k hE (k := 200) (c := 4) (by decide +kernel)).1 (e0k hE (k := 200) (c := 4) (by decide +kernel)).2 (by decide) (by decide +kernel) (show 2 = gm_na 42 by decide +kernel) (fw_c2 fw_si fw_si) (show 3 ≤ gm_ml 42 by decide +kernel) (Nat.le_of_ble_eq_true rfl) (by omega) (Nat.zero_le _) (Nat.zero_le _) ?_
  refine ln_kp (cell := (((lane * 99) + row) * 300) + year) (f := max 0 (min 30 (0 + (lfas (fcts N h lane row year 0 0 0 0) C Ln m.toNat)))) hE ⟨by omega, by omega⟩ ?_
  show gm_Wp X LX d _ _ 35 95 _ [] n K _ _ Q
  refine gm_sz (gm_p_load (pc := 95) (i := .iload 6) (sr := 0) (j := 6) (by decide +kernel) rfl rfl rfl) ?_
  have ke : ∀ c, kv (gm_uM (gm_uM (gm_uM (gm_uM (gm_uM (gm_uM (gm_uM (gm_uM (gm_uM (gm_uM M37 204 0 lane) 204 1 row) 204 2 year) 204 3 (h year)) 204 4 0) 204 5 0) 204 6 0) 204 7 0) 204 8 (if lane = 0 ∨ lane = N 0 - 1 then 1 else 0)) 204 9 (if lane < N 12 then 1 else 0)) c = kv M37 c := kv_e ((uM_ne (by omega)).trans ((uM_ne (by omega)).trans ((uM_ne (by omega)).trans ((uM_ne (by omega)).trans ((uM_ne (by omega)).trans ((uM_ne (by omega)).trans ((uM_ne (by omega)).trans ((uM_ne (by omega)).trans ((uM_ne (by omega)).trans ((uM_ne (by omega)).trans rfl)))))))))) (fun j => ((uM_ne (by omega)).trans ((uM_ne (by omega)).trans ((uM_ne (by omega)).trans ((uM_ne (by omega)).trans ((uM_ne (by omega)).trans ((uM_ne (by omega)).trans ((uM_ne (by omega)).trans ((uM_ne (by omega)).trans ((uM_ne (by omega)).trans ((uM_ne (by omega)).trans rfl)))))))))))
  have kf : KFL N φ (gm_uM (gm_uM (gm_uM (gm_uM (gm_uM (gm_uM (gm_uM (gm_uM (gm_uM (gm_uM M37 204 0 lane) 204 1 row) 204 2 year) 204 3 (h year)) 204 4 0) 204 5 0) 204 6 0) 204 7 0) 204 8 (if lane = 0 ∨ lane = N 0 - 1 then 1 else 0)) 204 9 (if lane < N 12 then 1 else 0)) := by
    refine ⟨?_, fun l r y l0 l1 r0 r1 y0 y1 => ?_⟩
    · rw [show (gm_uM (gm_uM (gm_uM (gm_uM (gm_uM (gm_uM (gm_uM (gm_uM (gm_uM (gm_uM M37 204 0 lane) 204 1 row) 204 2 year) 204 3 (h year)) 204 4 0) 204 5 0) 204 6 0) 204 7 0) 204 8 (if lane = 0 ∨ lane = N 0 - 1 then 1 else 0)) 204 9 (if lane < N 12 then 1 else 0)) 200 6 = 0 from ((uM_ne (by omega)).trans ((uM_ne (by omega)).trans ((uM_ne (by omega)).trans ((uM_ne (by omega)).trans ((uM_ne (by omega)).trans ((uM_ne (by omega)).trans ((uM_ne (by omega)).trans ((uM_ne (by omega)).trans ((uM_ne (by omega)).trans ((uM_ne (by omega)).trans h637))))))))))]
      exact ⟨by decide, by decide⟩
    · rw [ke _, hk37 _ (by omega) (by omega)]
      exact hk l r y l0 l1 r0 r1 y0 y1
  exact gm_r_int (pc := 97) (by decide +kernel) (Or.inl (by decide +kernel)) (hq _ _ (fr_p (fr_p (fr_p (fr_p (fr_p (fr_p (fr_p (fr_p (fr_p (fr_p (fr_t fr_0 hf37 (by decide)) (Or.inl (by decide))) (Or.inl (by decide))) (Or.inl (by decide))) (Or.inl (by decide))) (Or.inl (by decide))) (Or.inl (by decide))) (Or.inl (by decide))) (Or.inl (by decide))) (Or.inl (by decide))) (Or.inl (by decide))) ⟨(lb_fr (W := [(200, some 6), (205, none), (204, some 0), (204, some 1), (204, some 2), (204, some 3), (204, some 4), (204, some 5), (204, some 6), (204, some 7), (204, some 8), (204, some 9)]) (fr_p (fr_p (fr_p (fr_p (fr_p (fr_p (fr_p (fr_p (fr_p (fr_p (fr_t fr_0 hf37 (by decide)) (Or.inr (by decide))) (Or.inr (by decide))) (Or.inr (by decide))) (Or.inr (by decide))) (Or.inr (by decide))) (Or.inr (by decide))) (Or.inr (by decide))) (Or.inr (by decide))) (Or.inr (by decide))) (Or.inr (by decide))) (by decide) hB), kf⟩)
theorem ic_flm (hE : E0 n K R) (hL : LE n K R NC) (hlw : R 3 ((8 : Nat) : Int) = 246) (hN : NR N) : ∀ (d bc bs : Nat) (M : gm_M) (Q : gm_Q) (lane row year : Int), 12 ≤ d → lane = -1 → -1 ≤ row ∧ row < 99 → year = -1 → h year = 0 → TI N h sp M → (LB NC C Ln m M ∧ KFL N φ M) → (∀ M2 v, fr [(200, some 6), (204, none), (205, none)] M M2 → (LB NC C Ln m M2 ∧ KFL N φ M2) → Q (.inl (some (gm_vi v))) n K R M2) → gm_Wp X LX d bc bs 35 0 (gm_ent 35 [gm_vr 200, gm_vi lane, gm_vi row, gm_vi year]) [] n K R M Q := by
  intro d bc bs M Q lane row year hd hl h2 hy hm hT hI hq
  obtain ⟨hB, ⟨k6, k7⟩, hk⟩ := hI
  have hB9 := lb_lines hB
  obtain ⟨⟨⟨a0, b0⟩, ⟨a1, b1⟩, ⟨a10, b10⟩, ⟨a11, b11⟩, ⟨a12, b12⟩, a9, b9⟩, ⟨⟨a2, b2⟩, ⟨a5, b5⟩, ⟨a3, b3⟩, ⟨a4, b4⟩, ⟨a6, b6⟩, ⟨a14, b14⟩, ⟨a7, b7⟩, a13, b13⟩, rF, rP, rL⟩ := id hN
  refine gm_sz (gm_p_load (pc := 0) (i := .aload_n 0) (sr := 2) (j := 0) (by decide +kernel) rfl rfl rfl) ?_
  refine gm_sz (gm_p_load (pc := 1) (i := .iload_n 1) (sr := 0) (j := 1) (by decide +kernel) rfl rfl rfl) ?_
  refine gm_sz (gm_p_load (pc := 2) (i := .iload_n 2) (sr := 0) (j := 2) (by decide +kernel) rfl rfl rfl) ?_
  refine gm_c_virt (k := 200) (ci := 4) (mj := 36) (ix := 90) (pc := 3) (as := [gm_vi lane, gm_vi row]) (st := []) (d' := d - 1) (bc' := 0) (bs' := 0) (by decide +kernel) (by decide +kernel) (by decide +kernel) (by decide +kernel) (e0k hE (k := 200) (c := 4) (by decide +kernel)).1 (e0k hE (k := 200) (c := 4) (by decide +kernel)).2 (by decide) (by decide +kernel) (show 2 = gm_na 36 by decide +kernel) (fw_c2 fw_si fw_si) (show 3 ≤ gm_ml 36 by decide +kernel) (Nat.le_of_ble_eq_true rfl) (by omega) (Nat.zero_le _) (Nat.zero_le _) ?_
  refine ln_spd hE hT hN hl ⟨by omega, by omega⟩ ?_
  show gm_Wp X LX d _ _ 35 6 _ [gm_vi 0] n K _ _ Q
  refine gm_sz (gm_p_stor (pc := 6) (i := .istore 4) (sr := 0) (j := 4) (by decide +kernel) rfl (show 5 ≤ _ from Nat.le_of_ble_eq_true rfl) rfl) ?_
  refine gm_sz (gm_p_load (pc := 8) (i := .aload_n 0) (sr := 2) (j := 0) (by decide +kernel) rfl rfl rfl) ?_
  refine gm_sz (fw_gr (pc := 9) (ix := 34) (ci := 4) (j := 0) (r := 3) (by decide +kernel) (e0k hE (k := 200) (c := 4) (by decide +kernel)) (by decide +kernel) (by decide +kernel) (e0r hE (k := 200) (j := 0) (r := 3) (by decide +kernel))) ?_
  refine gm_sz (fw_gr (pc := 12) (ix := 93) (ci := 1) (j := 8) (r := 246) (by decide +kernel) (e0k hE (k := 3) (c := 1) (by decide +kernel)) (by decide +kernel) (by decide +kernel) hlw) ?_
  refine gm_b_nnul (pc := 15) (off := 6) (k0 := 246) (by decide) (by decide +kernel) (by decide) (fun _ => ?_) (fun h => absurd h (by decide))
  refine gm_sz (gm_p_load (pc := 21) (i := .iload_n 1) (sr := 0) (j := 1) (by decide +kernel) rfl rfl rfl) ?_
  refine gm_sz (gm_p_const (pc := 22) (i := .bipush 99) (v := gm_vi 99) (by decide +kernel) (by decide +kernel)) ?_
  refine gm_sz (gm_p_bin (pc := 24) (i := .imul) (f := fun x y => x * y) (by decide +kernel) rfl) ?_
  refine gm_sz (gm_p_load (pc := 25) (i := .iload_n 2) (sr := 0) (j := 2) (by decide +kernel) rfl rfl rfl) ?_
  refine gm_sz (gm_p_bin (pc := 26) (i := .iadd) (f := fun x y => x + y) (by decide +kernel) rfl) ?_
  refine gm_sz (gm_p_const (pc := 27) (i := .sipush 300) (v := gm_vi 300) (by decide +kernel) (by decide +kernel)) ?_
  refine gm_sz (gm_p_bin (pc := 30) (i := .imul) (f := fun x y => x * y) (by decide +kernel) rfl) ?_
  refine gm_sz (gm_p_load (pc := 31) (i := .iload_n 3) (sr := 0) (j := 3) (by decide +kernel) rfl rfl rfl) ?_
  refine gm_sz (gm_p_bin (pc := 32) (i := .iadd) (f := fun x y => x + y) (by decide +kernel) rfl) ?_
  refine gm_sz (gm_p_stor (pc := 33) (i := .istore 5) (sr := 0) (j := 5) (by decide +kernel) rfl (show 6 ≤ _ from Nat.le_of_ble_eq_true rfl) rfl) ?_
  refine gm_sz (gm_p_load (pc := 35) (i := .aload_n 0) (sr := 2) (j := 0) (by decide +kernel) rfl rfl rfl) ?_
  refine gm_sz (gm_p_load (pc := 36) (i := .iload 5) (sr := 0) (j := 5) (by decide +kernel) rfl rfl rfl) ?_
  refine gm_c_virt (k := 200) (ci := 4) (mj := 37) (ix := 97) (pc := 38) (as := [gm_vi ((((lane * 99) + row) * 300) + year)]) (st := []) (d' := d - 1) (bc' := 0) (bs' := 0) (by decide +kernel) (by decide +kernel) (by decide +kernel) (by decide +kernel) (e0k hE (k := 200) (c := 4) (by decide +kernel)).1 (e0k hE (k := 200) (c := 4) (by decide +kernel)).2 (by decide) (by decide +kernel) (show 1 = gm_na 37 by decide +kernel) (fw_c1 fw_si) (show 2 ≤ gm_ml 37 by decide +kernel) (Nat.le_of_ble_eq_true rfl) (by omega) (Nat.zero_le _) (Nat.zero_le _) ?_
  refine ln_rc (cell := (((lane * 99) + row) * 300) + year) (by omega) hE ⟨by omega, by omega⟩ ⟨by omega, by omega⟩ (fun M37 hf37 h637 hk37 => ?_)
  show gm_Wp X LX d _ _ 35 41 _ [gm_vi 31] n K _ _ Q
  refine gm_sz (gm_p_stor (pc := 41) (i := .istore 6) (sr := 0) (j := 6) (by decide +kernel) rfl (show 7 ≤ _ from Nat.le_of_ble_eq_true rfl) rfl) ?_
  refine gm_sz (gm_p_load (pc := 43) (i := .iload 6) (sr := 0) (j := 6) (by decide +kernel) rfl rfl rfl) ?_
  refine gm_sz (gm_p_const (pc := 45) (i := .bipush 31) (v := gm_vi 31) (by decide +kernel) (by decide +kernel)) ?_
  refine fw_icfd (cc := .ne) (pc := 47) (off := 48) (by decide +kernel) (by decide) ⟨by decide, by decide⟩ ⟨by decide, by decide⟩ (by decide) ?_
  refine gm_sz (gm_p_load (pc := 50) (i := .aload_n 0) (sr := 2) (j := 0) (by decide +kernel) rfl rfl rfl) ?_
  refine gm_sz (gm_p_load (pc := 51) (i := .iload_n 1) (sr := 0) (j := 1) (by decide +kernel) rfl rfl rfl) ?_
  refine gm_sz (gm_p_load (pc := 52) (i := .iload_n 2) (sr := 0) (j := 2) (by decide +kernel) rfl rfl rfl) ?_
  refine gm_sz (gm_p_load (pc := 53) (i := .iload_n 3) (sr := 0) (j := 3) (by decide +kernel) rfl rfl rfl) ?_
  refine gm_sz (gm_p_load (pc := 54) (i := .iload 4) (sr := 0) (j := 4) (by decide +kernel) rfl rfl rfl) ?_
  refine gm_c_virt (k := 200) (ci := 4) (mj := 39) (ix := 101) (pc := 56) (as := [gm_vi lane, gm_vi row, gm_vi year, gm_vi 0]) (st := []) (d' := d - 1) (bc' := 0) (bs' := 0) (by decide +kernel) (by decide +kernel) (by decide +kernel) (by decide +kernel) (e0k hE (k := 200) (c := 4) (by decide +kernel)).1 (e0k hE (k := 200) (c := 4) (by decide +kernel)).2 (by decide) (by decide +kernel) (show 4 = gm_na 39 by decide +kernel) (fw_c4 fw_si fw_si fw_si fw_si) (show 5 ≤ gm_ml 39 by decide +kernel) (Nat.le_of_ble_eq_true rfl) (by omega) (Nat.zero_le _) (Nat.zero_le _) ?_
  refine ln_sfm (by omega) hE (ti_fr (W := [(200, some 6), (205, none)]) hT (fr_t fr_0 hf37 (by decide)) (by decide) (by decide +kernel)) hN hl hy hm ?_
  show gm_Wp X LX d _ _ 35 59 _ [] n K _ _ Q
  refine gm_sz (gm_p_const (pc := 59) (i := .iconst 0) (v := gm_vi 0) (by decide +kernel) (by decide +kernel)) ?_
  refine gm_sz (gm_p_const (pc := 60) (i := .bipush 30) (v := gm_vi 30) (by decide +kernel) (by decide +kernel)) ?_
  refine gm_sz (gm_p_load (pc := 62) (i := .iload 4) (sr := 0) (j := 4) (by decide +kernel) rfl rfl rfl) ?_
  refine gm_sz (gm_p_load (pc := 64) (i := .aload_n 0) (sr := 2) (j := 0) (by decide +kernel) rfl rfl rfl) ?_
  refine gm_sz (fw_gr (pc := 65) (ix := 34) (ci := 4) (j := 0) (r := 3) (by decide +kernel) (e0k hE (k := 200) (c := 4) (by decide +kernel)) (by decide +kernel) (by decide +kernel) (e0r hE (k := 200) (j := 0) (r := 3) (by decide +kernel))) ?_
  refine gm_sz (fw_gr (pc := 68) (ix := 93) (ci := 1) (j := 8) (r := 246) (by decide +kernel) (e0k hE (k := 3) (c := 1) (by decide +kernel)) (by decide +kernel) (by decide +kernel) hlw) ?_
  refine gm_sz (gm_p_load (pc := 71) (i := .aload_n 0) (sr := 2) (j := 0) (by decide +kernel) rfl rfl rfl) ?_
  refine gm_sz (fw_gr (pc := 72) (ix := 23) (ci := 4) (j := 4) (r := 204) (by decide +kernel) (e0k hE (k := 200) (c := 4) (by decide +kernel)) (by decide +kernel) (by decide +kernel) (e0r hE (k := 200) (j := 4) (r := 204) (by decide +kernel))) ?_
  refine gm_c_virt (k := 246) (ci := 10) (mj := 40) (ix := 105) (pc := 75) (as := [gm_vr 204]) (st := [gm_vi 0, gm_vi 30, gm_vi 0]) (d' := d - 1) (bc' := 0) (bs' := 0) (by decide +kernel) (by decide +kernel) (by decide +kernel) (by decide +kernel) (lk6 hL).1 (lk6 hL).2 (by decide) (by decide +kernel) (show 1 = gm_na 40 by decide +kernel) (fw_c1 fw_sr) (show 2 ≤ gm_ml 40 by decide +kernel) (Nat.le_of_ble_eq_true rfl) (by omega) (Nat.zero_le _) (Nat.zero_le _) ?_
  refine fa_c40 (F := (fcts N h lane row year 0 0 0 0)) (C := C) (L := Ln) (m := m) (by omega) hE hL (lb_fr (W := [(200, some 6), (205, none), (204, some 0), (204, some 1), (204, some 2), (204, some 3), (204, some 4), (204, some 5), (204, some 6), (204, some 7), (204, some 8), (204, some 9)]) (fr_p (fr_p (fr_p (fr_p (fr_p (fr_p (fr_p (fr_p (fr_p (fr_p (fr_t fr_0 hf37 (by decide)) (Or.inr (by decide))) (Or.inr (by decide))) (Or.inr (by decide))) (Or.inr (by decide))) (Or.inr (by decide))) (Or.inr (by decide))) (Or.inr (by decide))) (Or.inr (by decide))) (Or.inr (by decide))) (Or.inr (by decide))) (by decide) hB).1 (fun j j0 j1 => ic_fa_s j j0 j1) (lb_fr (W := [(200, some 6), (205, none), (204, some 0), (204, some 1), (204, some 2), (204, some 3), (204, some 4), (204, some 5), (204, some 6), (204, some 7), (204, some 8), (204, some 9)]) (fr_p (fr_p (fr_p (fr_p (fr_p (fr_p (fr_p (fr_p (fr_p (fr_p (fr_t fr_0 hf37 (by decide)) (Or.inr (by decide))) (Or.inr (by decide))) (Or.inr (by decide))) (Or.inr (by decide))) (Or.inr (by decide))) (Or.inr (by decide))) (Or.inr (by decide))) (Or.inr (by decide))) (Or.inr (by decide))) (Or.inr (by decide))) (by decide) hB).2.1 (lb_fr (W := [(200, some 6), (205, none), (204, some 0), (204, some 1), (204, some 2), (204, some 3), (204, some 4), (204, some 5), (204, some 6), (204, some 7), (204, some 8), (204, some 9)]) (fr_p (fr_p (fr_p (fr_p (fr_p (fr_p (fr_p (fr_p (fr_p (fr_p (fr_t fr_0 hf37 (by decide)) (Or.inr (by decide))) (Or.inr (by decide))) (Or.inr (by decide))) (Or.inr (by decide))) (Or.inr (by decide))) (Or.inr (by decide))) (Or.inr (by decide))) (Or.inr (by decide))) (Or.inr (by decide))) (Or.inr (by decide))) (by decide) hB).2.2.1 (lb_fr (W := [(200, some 6), (205, none), (204, some 0), (204, some 1), (204, some 2), (204, some 3), (204, some 4), (204, some 5), (204, some 6), (204, some 7), (204, some 8), (204, some 9)]) (fr_p (fr_p (fr_p (fr_p (fr_p (fr_p (fr_p (fr_p (fr_p (fr_p (fr_t fr_0 hf37 (by decide)) (Or.inr (by decide))) (Or.inr (by decide))) (Or.inr (by decide))) (Or.inr (by decide))) (Or.inr (by decide))) (Or.inr (by decide))) (Or.inr (by decide))) (Or.inr (by decide))) (Or.inr (by decide))) (Or.inr (by decide))) (by decide) hB).2.2.2 ?_
  show gm_Wp X LX d _ _ 35 78 _ [gm_vi (lfas (fcts N h lane row year 0 0 0 0) C Ln m.toNat), gm_vi 0, gm_vi 30, gm_vi 0] n K _ _ Q
  have hl9 := lfas_b (C := C) (F := (fcts N h lane row year 0 0 0 0)) hB9.2 m.toNat (by omega)
  refine gm_sz (gm_p_bin (pc := 78) (i := .iadd) (f := fun x y => x + y) (by decide +kernel) rfl) ?_
  refine gm_sz (gm_p_min (pc := 79) (ix := 109) (x := 30) (y := 0 + (lfas (fcts N h lane row year 0 0 0 0) C Ln m.toNat)) (by decide +kernel) (by decide +kernel) (gm_w_id (by omega) (by omega)) (gm_w_id (by omega) (by omega)) (Nat.le_of_ble_eq_true rfl) (by omega)) ?_
  refine gm_sz (gm_p_max (pc := 82) (ix := 77) (x := 0) (y := min 30 (0 + (lfas (fcts N h lane row year 0 0 0 0) C Ln m.toNat))) (by decide +kernel) (by decide +kernel) (gm_w_id (by omega) (by omega)) (gm_w_id (by omega) (by omega)) (Nat.le_of_ble_eq_true rfl) (by omega)) ?_
  refine gm_sz (gm_p_stor (pc := 85) (i := .istore 6) (sr := 0) (j := 6) (by decide +kernel) rfl (show 7 ≤ _ from Nat.le_of_ble_eq_true rfl) rfl) ?_
  refine gm_sz (gm_p_load (pc := 87) (i := .aload_n 0) (sr := 2) (j := 0) (by decide +kernel) rfl rfl rfl) ?_
  refine gm_sz (gm_p_load (pc := 88) (i := .iload 5) (sr := 0) (j := 5) (by decide +kernel) rfl rfl rfl) ?_
  refine gm_sz (gm_p_load (pc := 90) (i := .iload 6) (sr := 0) (j := 6) (by decide +kernel) rfl rfl rfl) ?_
  refine gm_c_virt (k := 200) (ci := 4) (mj := 42) (ix := 112) (pc := 92) (as := [gm_vi ((((lane * 99) + row) * 300) + year), gm_vi (max 0 (min 30 (0 + (lfas (fcts N h lane row year 0 0 0 0) C Ln m.toNat))))]) (st := []) (d' := d - 1) (bc' := 0) (bs' := 0) (by decide +kernel) (by decide +kernel) (by decide +kernel) (by decide +kernel) (e0k hE (k := 200) (c := 4) (by decide +kernel)).1 (e0k hE (k := 200) (c := 4) (by decide +kernel)).2 (by decide) (by decide +kernel) (show 2 = gm_na 42 by decide +kernel) (fw_c2 fw_si fw_si) (show 3 ≤ gm_ml 42 by decide +kernel) (Nat.le_of_ble_eq_true rfl) (by omega) (Nat.zero_le _) (Nat.zero_le _) ?_
  refine ln_kp (cell := (((lane * 99) + row) * 300) + year) (f := max 0 (min 30 (0 + (lfas (fcts N h lane row year 0 0 0 0) C Ln m.toNat)))) hE ⟨by omega, by omega⟩ ?_
  show gm_Wp X LX d _ _ 35 95 _ [] n K _ _ Q
  refine gm_sz (gm_p_load (pc := 95) (i := .iload 6) (sr := 0) (j := 6) (by decide +kernel) rfl rfl rfl) ?_
  have ke : ∀ c, kv (gm_uM (gm_uM (gm_uM (gm_uM (gm_uM (gm_uM (gm_uM (gm_uM (gm_uM (gm_uM M37 204 0 lane) 204 1 row) 204 2 year) 204 3 (h year)) 204 4 0) 204 5 0) 204 6 0) 204 7 0) 204 8 (if lane = 0 ∨ lane = N 0 - 1 then 1 else 0)) 204 9 (if lane < N 12 then 1 else 0)) c = kv M37 c := kv_e ((uM_ne (by omega)).trans ((uM_ne (by omega)).trans ((uM_ne (by omega)).trans ((uM_ne (by omega)).trans ((uM_ne (by omega)).trans ((uM_ne (by omega)).trans ((uM_ne (by omega)).trans ((uM_ne (by omega)).trans ((uM_ne (by omega)).trans ((uM_ne (by omega)).trans rfl)))))))))) (fun j => ((uM_ne (by omega)).trans ((uM_ne (by omega)).trans ((uM_ne (by omega)).trans ((uM_ne (by omega)).trans ((uM_ne (by omega)).trans ((uM_ne (by omega)).trans ((uM_ne (by omega)).trans ((uM_ne (by omega)).trans ((uM_ne (by omega)).trans ((uM_ne (by omega)).trans rfl)))))))))))
  have kf : KFL N φ (gm_uM (gm_uM (gm_uM (gm_uM (gm_uM (gm_uM (gm_uM (gm_uM (gm_uM (gm_uM M37 204 0 lane) 204 1 row) 204 2 year) 204 3 (h year)) 204 4 0) 204 5 0) 204 6 0) 204 7 0) 204 8 (if lane = 0 ∨ lane = N 0 - 1 then 1 else 0)) 204 9 (if lane < N 12 then 1 else 0)) := by
    refine ⟨?_, fun l r y l0 l1 r0 r1 y0 y1 => ?_⟩
    · rw [show (gm_uM (gm_uM (gm_uM (gm_uM (gm_uM (gm_uM (gm_uM (gm_uM (gm_uM (gm_uM M37 204 0 lane) 204 1 row) 204 2 year) 204 3 (h year)) 204 4 0) 204 5 0) 204 6 0) 204 7 0) 204 8 (if lane = 0 ∨ lane = N 0 - 1 then 1 else 0)) 204 9 (if lane < N 12 then 1 else 0)) 200 6 = 0 from ((uM_ne (by omega)).trans ((uM_ne (by omega)).trans ((uM_ne (by omega)).trans ((uM_ne (by omega)).trans ((uM_ne (by omega)).trans ((uM_ne (by omega)).trans ((uM_ne (by omega)).trans ((uM_ne (by omega)).trans ((uM_ne (by omega)).trans ((uM_ne (by omega)).trans h637))))))))))]
      exact ⟨by decide, by decide⟩
    · rw [ke _, hk37 _ (by omega) (by omega)]
      exact hk l r y l0 l1 r0 r1 y0 y1
  exact gm_r_int (pc := 97) (by decide +kernel) (Or.inl (by decide +kernel)) (hq _ _ (fr_p (fr_p (fr_p (fr_p (fr_p (fr_p (fr_p (fr_p (fr_p (fr_p (fr_t fr_0 hf37 (by decide)) (Or.inl (by decide))) (Or.inl (by decide))) (Or.inl (by decide))) (Or.inl (by decide))) (Or.inl (by decide))) (Or.inl (by decide))) (Or.inl (by decide))) (Or.inl (by decide))) (Or.inl (by decide))) (Or.inl (by decide))) ⟨(lb_fr (W := [(200, some 6), (205, none), (204, some 0), (204, some 1), (204, some 2), (204, some 3), (204, some 4), (204, some 5), (204, some 6), (204, some 7), (204, some 8), (204, some 9)]) (fr_p (fr_p (fr_p (fr_p (fr_p (fr_p (fr_p (fr_p (fr_p (fr_p (fr_t fr_0 hf37 (by decide)) (Or.inr (by decide))) (Or.inr (by decide))) (Or.inr (by decide))) (Or.inr (by decide))) (Or.inr (by decide))) (Or.inr (by decide))) (Or.inr (by decide))) (Or.inr (by decide))) (Or.inr (by decide))) (Or.inr (by decide))) (by decide) hB), kf⟩)
end LN
