/-! 7a01.c1st -/
section
/-! THE CLASS'S STATE: as a world of the reference's numbering; what is thrown in, opened, copied (laid by wip/core/c1.py). -/
/-- a State, numbered as the reference's world is -/
noncomputable def cs (M : gm_M) (b : Nat) : Int → Int := fun i =>
  if i < 0 then 0 else if i < 15 then (if i = 0 then M b 0 else if i = 1 then M b 1 else if i = 2 then M (b + 1) 3 else if i = 3 then M (b + 5) 3 else if i = 4 then M (b + 7) 3 else if i = 5 then M (b + 3) 3 else if i = 6 then M (b + 9) 3 else if i = 7 then M b 7 else if i = 8 then 0 else if i = 9 then M b 6 else if i = 10 then M b 2 else if i = 11 then M b 3 else if i = 12 then M b 4 else if i = 13 then M b 5 else M (b + 11) 3)
  else if i < 71 then M (b + 2) (i - 15) else if i < 95 then M (b + 4) (i - 71) else if i < 119 then M (b + 6) (i - 95) else if i < 287 then M (b + 8) (i - 119) else if i < 323 then M (b + 10) (i - 287) else if i < 395 then M (b + 12) (i - 323) else 0
/-- the reference's world, but for its law -/
noncomputable def ws (W : Int → Int) : Int → Int := fun i => if 0 ≤ i ∧ i < 395 ∧ ¬ i = 8 then W i else 0
section CST1
variable {X : Int → Int} {LX d bc bs n : Nat} {K : gm_K} {R : gm_R} {M : gm_M} {Q : gm_Q} {f t l r p : Int}
noncomputable def cs_th3 (M : gm_M) (f t l r : Int) : gm_M := gm_uM (gm_uM (gm_uM (gm_uM (gm_uM (gm_uM (gm_uM (gm_uM M 10 3 ((M 10 3) + 1)) 11 ((M 10 3) * 7 + 0) f) 11 ((M 10 3) * 7 + 1) t) 11 ((M 10 3) * 7 + 2) l) 11 ((M 10 3) * 7 + 3) (M 3 6)) 11 ((M 10 3) * 7 + 4) r) 11 ((M 10 3) * 7 + 5) (-1)) 11 ((M 10 3) * 7 + 6) (-1)
theorem cs_thr3 (hd : 1 ≤ d) (hE : E0 n K R) (hC : CST M) (h1 : 0 ≤ M 10 3 ∧ M 10 3 < 24) (q0 : Q (.inl (some (gm_vi (M 10 3)))) n K R (cs_th3 M f t l r)) : gm_Wp X LX d bc bs 119 0 (gm_ent 119 [gm_vr 3, gm_vi f, gm_vi t, gm_vi l, gm_vi r]) [] n K R M Q := by
  refine gm_sz (gm_p_load (pc := 0) (i := .aload_n 0) (sr := 2) (j := 0) (by decide +kernel) rfl rfl rfl) ?_
  refine gm_sz (fw_gr (pc := 1) (ix := 55) (ci := 1) (j := 12) (r := 10) (by decide +kernel) (e0k hE (k := 3) (c := 1) (by decide +kernel)) (by decide +kernel) (by decide +kernel) (e0r hE (k := 3) (j := 12) (r := 10) (by decide +kernel))) ?_
  refine gm_c_virt (k := 10) (ci := 2) (mj := 102) (ix := 76) (pc := 4) (as := []) (st := []) (d' := d - 1) (bc' := 0) (bs' := 0) (by decide +kernel) (by decide +kernel) (by decide +kernel) (by decide +kernel) (e0k hE (k := 10) (c := 2) (by decide +kernel)).1 (e0k hE (k := 10) (c := 2) (by decide +kernel)).2 (by decide) (by decide +kernel) (show 0 = gm_na 102 by decide +kernel) fw_c0 (show 1 ≤ gm_ml 102 by decide +kernel) (Nat.le_of_ble_eq_true rfl) (by omega) (Nat.zero_le _) (Nat.zero_le _) ?_
  refine rw_add (s := M 10 3) (m := 24) (e0k hE (k := 10) (c := 2) (by decide +kernel)) rfl (hC (10, 0, 24) (by decide)) ⟨by omega, by omega⟩ (by omega) ?_
  show gm_Wp X LX d _ _ 119 7 _ [gm_vi (M 10 3)] n K _ _ Q
  refine gm_sz (gm_p_stor (pc := 7) (i := .istore 5) (sr := 0) (j := 5) (by decide +kernel) rfl (show 6 ≤ _ from Nat.le_of_ble_eq_true rfl) rfl) ?_
  refine gm_sz (gm_p_load (pc := 9) (i := .aload_n 0) (sr := 2) (j := 0) (by decide +kernel) rfl rfl rfl) ?_
  refine gm_sz (fw_gr (pc := 10) (ix := 55) (ci := 1) (j := 12) (r := 10) (by decide +kernel) (e0k hE (k := 3) (c := 1) (by decide +kernel)) (by decide +kernel) (by decide +kernel) (e0r hE (k := 3) (j := 12) (r := 10) (by decide +kernel))) ?_
  refine gm_sz (gm_p_load (pc := 13) (i := .iload 5) (sr := 0) (j := 5) (by decide +kernel) rfl rfl rfl) ?_
  refine gm_sz (gm_p_const (pc := 15) (i := .iconst 0) (v := gm_vi 0) (by decide +kernel) (by decide +kernel)) ?_
  refine gm_sz (gm_p_load (pc := 16) (i := .iload_n 1) (sr := 0) (j := 1) (by decide +kernel) rfl rfl rfl) ?_
  refine gm_c_virt (k := 10) (ci := 2) (mj := 45) (ix := 79) (pc := 17) (as := [gm_vi (M 10 3), gm_vi 0, gm_vi f]) (st := []) (d' := d - 1) (bc' := 0) (bs' := 0) (by decide +kernel) (by decide +kernel) (by decide +kernel) (by decide +kernel) (e0k hE (k := 10) (c := 2) (by decide +kernel)).1 (e0k hE (k := 10) (c := 2) (by decide +kernel)).2 (by decide) (by decide +kernel) (show 3 = gm_na 45 by decide +kernel) (fw_c3 fw_si fw_si fw_si) (show 4 ≤ gm_ml 45 by decide +kernel) (Nat.le_of_ble_eq_true rfl) (by omega) (Nat.zero_le _) (Nat.zero_le _) ?_
  refine rw_put (s := (M 10 3) + 1) (w := 7) (e0k hE (k := 10) (c := 2) (by decide +kernel)) (e0a hE (k := 11) (q := ((0 : Nat), (168 : Nat))) (by decide +kernel)) (e0r hE (k := 10) (j := 2) (r := 11) (by decide +kernel)) (by decide) uM_at ((uM_ne (by omega)).trans (hC (10, 1, 7) (by decide))) ⟨by omega, by omega⟩ ⟨by omega, by omega⟩ ⟨by omega, by omega⟩ ⟨by omega, by omega⟩ ?_
  show gm_Wp X LX d _ _ 119 20 _ [] n K _ _ Q
  refine gm_sz (gm_p_load (pc := 20) (i := .aload_n 0) (sr := 2) (j := 0) (by decide +kernel) rfl rfl rfl) ?_
  refine gm_sz (fw_gr (pc := 21) (ix := 55) (ci := 1) (j := 12) (r := 10) (by decide +kernel) (e0k hE (k := 3) (c := 1) (by decide +kernel)) (by decide +kernel) (by decide +kernel) (e0r hE (k := 3) (j := 12) (r := 10) (by decide +kernel))) ?_
  refine gm_sz (gm_p_load (pc := 24) (i := .iload 5) (sr := 0) (j := 5) (by decide +kernel) rfl rfl rfl) ?_
  refine gm_sz (gm_p_const (pc := 26) (i := .iconst 1) (v := gm_vi 1) (by decide +kernel) (by decide +kernel)) ?_
  refine gm_sz (gm_p_load (pc := 27) (i := .iload_n 2) (sr := 0) (j := 2) (by decide +kernel) rfl rfl rfl) ?_
  refine gm_c_virt (k := 10) (ci := 2) (mj := 45) (ix := 79) (pc := 28) (as := [gm_vi (M 10 3), gm_vi 1, gm_vi t]) (st := []) (d' := d - 1) (bc' := 0) (bs' := 0) (by decide +kernel) (by decide +kernel) (by decide +kernel) (by decide +kernel) (e0k hE (k := 10) (c := 2) (by decide +kernel)).1 (e0k hE (k := 10) (c := 2) (by decide +kernel)).2 (by decide) (by decide +kernel) (show 3 = gm_na 45 by decide +kernel) (fw_c3 fw_si fw_si fw_si) (show 4 ≤ gm_ml 45 by decide +kernel) (Nat.le_of_ble_eq_true rfl) (by omega) (Nat.zero_le _) (Nat.zero_le _) ?_
  refine rw_put (s := (M 10 3) + 1) (w := 7) (e0k hE (k := 10) (c := 2) (by decide +kernel)) (e0a hE (k := 11) (q := ((0 : Nat), (168 : Nat))) (by decide +kernel)) (e0r hE (k := 10) (j := 2) (r := 11) (by decide +kernel)) (by decide) ((uM_ne (by omega)).trans uM_at) ((uM_ne (by omega)).trans ((uM_ne (by omega)).trans (hC (10, 1, 7) (by decide)))) ⟨by omega, by omega⟩ ⟨by omega, by omega⟩ ⟨by omega, by omega⟩ ⟨by omega, by omega⟩ ?_
  show gm_Wp X LX d _ _ 119 31 _ [] n K _ _ Q
  refine gm_sz (gm_p_load (pc := 31) (i := .aload_n 0) (sr := 2) (j := 0) (by decide +kernel) rfl rfl rfl) ?_
  refine gm_sz (fw_gr (pc := 32) (ix := 55) (ci := 1) (j := 12) (r := 10) (by decide +kernel) (e0k hE (k := 3) (c := 1) (by decide +kernel)) (by decide +kernel) (by decide +kernel) (e0r hE (k := 3) (j := 12) (r := 10) (by decide +kernel))) ?_
  refine gm_sz (gm_p_load (pc := 35) (i := .iload 5) (sr := 0) (j := 5) (by decide +kernel) rfl rfl rfl) ?_
  refine gm_sz (gm_p_const (pc := 37) (i := .iconst 2) (v := gm_vi 2) (by decide +kernel) (by decide +kernel)) ?_
  refine gm_sz (gm_p_load (pc := 38) (i := .iload_n 3) (sr := 0) (j := 3) (by decide +kernel) rfl rfl rfl) ?_
  refine gm_c_virt (k := 10) (ci := 2) (mj := 45) (ix := 79) (pc := 39) (as := [gm_vi (M 10 3), gm_vi 2, gm_vi l]) (st := []) (d' := d - 1) (bc' := 0) (bs' := 0) (by decide +kernel) (by decide +kernel) (by decide +kernel) (by decide +kernel) (e0k hE (k := 10) (c := 2) (by decide +kernel)).1 (e0k hE (k := 10) (c := 2) (by decide +kernel)).2 (by decide) (by decide +kernel) (show 3 = gm_na 45 by decide +kernel) (fw_c3 fw_si fw_si fw_si) (show 4 ≤ gm_ml 45 by decide +kernel) (Nat.le_of_ble_eq_true rfl) (by omega) (Nat.zero_le _) (Nat.zero_le _) ?_
  refine rw_put (s := (M 10 3) + 1) (w := 7) (e0k hE (k := 10) (c := 2) (by decide +kernel)) (e0a hE (k := 11) (q := ((0 : Nat), (168 : Nat))) (by decide +kernel)) (e0r hE (k := 10) (j := 2) (r := 11) (by decide +kernel)) (by decide) ((uM_ne (by omega)).trans ((uM_ne (by omega)).trans uM_at)) ((uM_ne (by omega)).trans ((uM_ne (by omega)).trans ((uM_ne (by omega)).trans (hC (10, 1, 7) (by decide))))) ⟨by omega, by omega⟩ ⟨by omega, by omega⟩ ⟨by omega, by omega⟩ ⟨by omega, by omega⟩ ?_
  show gm_Wp X LX d _ _ 119 42 _ [] n K _ _ Q
  refine gm_sz (gm_p_load (pc := 42) (i := .aload_n 0) (sr := 2) (j := 0) (by decide +kernel) rfl rfl rfl) ?_
  refine gm_sz (fw_gr (pc := 43) (ix := 55) (ci := 1) (j := 12) (r := 10) (by decide +kernel) (e0k hE (k := 3) (c := 1) (by decide +kernel)) (by decide +kernel) (by decide +kernel) (e0r hE (k := 3) (j := 12) (r := 10) (by decide +kernel))) ?_
  refine gm_sz (gm_p_load (pc := 46) (i := .iload 5) (sr := 0) (j := 5) (by decide +kernel) rfl rfl rfl) ?_
  refine gm_sz (gm_p_const (pc := 48) (i := .iconst 3) (v := gm_vi 3) (by decide +kernel) (by decide +kernel)) ?_
  refine gm_sz (gm_p_load (pc := 49) (i := .aload_n 0) (sr := 2) (j := 0) (by decide +kernel) rfl rfl rfl) ?_
  refine gm_sz (fw_gi (pc := 50) (ix := 30) (ci := 1) (j := 6) (x := M 3 6) (by decide +kernel) (e0k hE (k := 3) (c := 1) (by decide +kernel)) (by decide +kernel) (by decide +kernel) ((uM_ne (by omega)).trans ((uM_ne (by omega)).trans ((uM_ne (by omega)).trans (uM_ne (by omega)))))) ?_
  refine gm_c_virt (k := 10) (ci := 2) (mj := 45) (ix := 79) (pc := 53) (as := [gm_vi (M 10 3), gm_vi 3, gm_vi (M 3 6)]) (st := []) (d' := d - 1) (bc' := 0) (bs' := 0) (by decide +kernel) (by decide +kernel) (by decide +kernel) (by decide +kernel) (e0k hE (k := 10) (c := 2) (by decide +kernel)).1 (e0k hE (k := 10) (c := 2) (by decide +kernel)).2 (by decide) (by decide +kernel) (show 3 = gm_na 45 by decide +kernel) (fw_c3 fw_si fw_si fw_si) (show 4 ≤ gm_ml 45 by decide +kernel) (Nat.le_of_ble_eq_true rfl) (by omega) (Nat.zero_le _) (Nat.zero_le _) ?_
  refine rw_put (s := (M 10 3) + 1) (w := 7) (e0k hE (k := 10) (c := 2) (by decide +kernel)) (e0a hE (k := 11) (q := ((0 : Nat), (168 : Nat))) (by decide +kernel)) (e0r hE (k := 10) (j := 2) (r := 11) (by decide +kernel)) (by decide) ((uM_ne (by omega)).trans ((uM_ne (by omega)).trans ((uM_ne (by omega)).trans uM_at))) ((uM_ne (by omega)).trans ((uM_ne (by omega)).trans ((uM_ne (by omega)).trans ((uM_ne (by omega)).trans (hC (10, 1, 7) (by decide)))))) ⟨by omega, by omega⟩ ⟨by omega, by omega⟩ ⟨by omega, by omega⟩ ⟨by omega, by omega⟩ ?_
  show gm_Wp X LX d _ _ 119 56 _ [] n K _ _ Q
  refine gm_sz (gm_p_load (pc := 56) (i := .aload_n 0) (sr := 2) (j := 0) (by decide +kernel) rfl rfl rfl) ?_
  refine gm_sz (fw_gr (pc := 57) (ix := 55) (ci := 1) (j := 12) (r := 10) (by decide +kernel) (e0k hE (k := 3) (c := 1) (by decide +kernel)) (by decide +kernel) (by decide +kernel) (e0r hE (k := 3) (j := 12) (r := 10) (by decide +kernel))) ?_
  refine gm_sz (gm_p_load (pc := 60) (i := .iload 5) (sr := 0) (j := 5) (by decide +kernel) rfl rfl rfl) ?_
  refine gm_sz (gm_p_const (pc := 62) (i := .iconst 4) (v := gm_vi 4) (by decide +kernel) (by decide +kernel)) ?_
  refine gm_sz (gm_p_load (pc := 63) (i := .iload 4) (sr := 0) (j := 4) (by decide +kernel) rfl rfl rfl) ?_
  refine gm_c_virt (k := 10) (ci := 2) (mj := 45) (ix := 79) (pc := 65) (as := [gm_vi (M 10 3), gm_vi 4, gm_vi r]) (st := []) (d' := d - 1) (bc' := 0) (bs' := 0) (by decide +kernel) (by decide +kernel) (by decide +kernel) (by decide +kernel) (e0k hE (k := 10) (c := 2) (by decide +kernel)).1 (e0k hE (k := 10) (c := 2) (by decide +kernel)).2 (by decide) (by decide +kernel) (show 3 = gm_na 45 by decide +kernel) (fw_c3 fw_si fw_si fw_si) (show 4 ≤ gm_ml 45 by decide +kernel) (Nat.le_of_ble_eq_true rfl) (by omega) (Nat.zero_le _) (Nat.zero_le _) ?_
  refine rw_put (s := (M 10 3) + 1) (w := 7) (e0k hE (k := 10) (c := 2) (by decide +kernel)) (e0a hE (k := 11) (q := ((0 : Nat), (168 : Nat))) (by decide +kernel)) (e0r hE (k := 10) (j := 2) (r := 11) (by decide +kernel)) (by decide) ((uM_ne (by omega)).trans ((uM_ne (by omega)).trans ((uM_ne (by omega)).trans ((uM_ne (by omega)).trans uM_at)))) ((uM_ne (by omega)).trans ((uM_ne (by omega)).trans ((uM_ne (by omega)).trans ((uM_ne (by omega)).trans ((uM_ne (by omega)).trans (hC (10, 1, 7) (by decide))))))) ⟨by omega, by omega⟩ ⟨by omega, by omega⟩ ⟨by omega, by omega⟩ ⟨by omega, by omega⟩ ?_
  show gm_Wp X LX d _ _ 119 68 _ [] n K _ _ Q
  refine gm_sz (gm_p_load (pc := 68) (i := .aload_n 0) (sr := 2) (j := 0) (by decide +kernel) rfl rfl rfl) ?_
  refine gm_sz (fw_gr (pc := 69) (ix := 55) (ci := 1) (j := 12) (r := 10) (by decide +kernel) (e0k hE (k := 3) (c := 1) (by decide +kernel)) (by decide +kernel) (by decide +kernel) (e0r hE (k := 3) (j := 12) (r := 10) (by decide +kernel))) ?_
  refine gm_sz (gm_p_load (pc := 72) (i := .iload 5) (sr := 0) (j := 5) (by decide +kernel) rfl rfl rfl) ?_
  refine gm_sz (gm_p_const (pc := 74) (i := .iconst 5) (v := gm_vi 5) (by decide +kernel) (by decide +kernel)) ?_
  refine gm_sz (gm_p_const (pc := 75) (i := .iconst (-1)) (v := gm_vi (-1)) (by decide +kernel) (by decide +kernel)) ?_
  refine gm_c_virt (k := 10) (ci := 2) (mj := 45) (ix := 79) (pc := 76) (as := [gm_vi (M 10 3), gm_vi 5, gm_vi (-1)]) (st := []) (d' := d - 1) (bc' := 0) (bs' := 0) (by decide +kernel) (by decide +kernel) (by decide +kernel) (by decide +kernel) (e0k hE (k := 10) (c := 2) (by decide +kernel)).1 (e0k hE (k := 10) (c := 2) (by decide +kernel)).2 (by decide) (by decide +kernel) (show 3 = gm_na 45 by decide +kernel) (fw_c3 fw_si fw_si fw_si) (show 4 ≤ gm_ml 45 by decide +kernel) (Nat.le_of_ble_eq_true rfl) (by omega) (Nat.zero_le _) (Nat.zero_le _) ?_
  refine rw_put (s := (M 10 3) + 1) (w := 7) (e0k hE (k := 10) (c := 2) (by decide +kernel)) (e0a hE (k := 11) (q := ((0 : Nat), (168 : Nat))) (by decide +kernel)) (e0r hE (k := 10) (j := 2) (r := 11) (by decide +kernel)) (by decide) ((uM_ne (by omega)).trans ((uM_ne (by omega)).trans ((uM_ne (by omega)).trans ((uM_ne (by omega)).trans ((uM_ne (by omega)).trans uM_at))))) ((uM_ne (by omega)).trans ((uM_ne (by omega)).trans ((uM_ne (by omega)).trans ((uM_ne (by omega)).trans ((uM_ne (by omega)).trans ((uM_ne (by omega)).trans (hC (10, 1, 7) (by decide)))))))) ⟨by omega, by omega⟩ ⟨by omega, by omega⟩ ⟨by omega, by omega⟩ ⟨by omega, by omega⟩ ?_
  show gm_Wp X LX d _ _ 119 79 _ [] n K _ _ Q
  refine gm_sz (gm_p_load (pc := 79) (i := .aload_n 0) (sr := 2) (j := 0) (by decide +kernel) rfl rfl rfl) ?_
  refine gm_sz (fw_gr (pc := 80) (ix := 55) (ci := 1) (j := 12) (r := 10) (by decide +kernel) (e0k hE (k := 3) (c := 1) (by decide +kernel)) (by decide +kernel) (by decide +kernel) (e0r hE (k := 3) (j := 12) (r := 10) (by decide +kernel))) ?_
  refine gm_sz (gm_p_load (pc := 83) (i := .iload 5) (sr := 0) (j := 5) (by decide +kernel) rfl rfl rfl) ?_
  refine gm_sz (gm_p_const (pc := 85) (i := .bipush 6) (v := gm_vi 6) (by decide +kernel) (by decide +kernel)) ?_
  refine gm_sz (gm_p_const (pc := 87) (i := .iconst (-1)) (v := gm_vi (-1)) (by decide +kernel) (by decide +kernel)) ?_
  refine gm_c_virt (k := 10) (ci := 2) (mj := 45) (ix := 79) (pc := 88) (as := [gm_vi (M 10 3), gm_vi 6, gm_vi (-1)]) (st := []) (d' := d - 1) (bc' := 0) (bs' := 0) (by decide +kernel) (by decide +kernel) (by decide +kernel) (by decide +kernel) (e0k hE (k := 10) (c := 2) (by decide +kernel)).1 (e0k hE (k := 10) (c := 2) (by decide +kernel)).2 (by decide) (by decide +kernel) (show 3 = gm_na 45 by decide +kernel) (fw_c3 fw_si fw_si fw_si) (show 4 ≤ gm_ml 45 by decide +kernel) (Nat.le_of_ble_eq_true rfl) (by omega) (Nat.zero_le _) (Nat.zero_le _) ?_
  refine rw_put (s := (M 10 3) + 1) (w := 7) (e0k hE (k := 10) (c := 2) (by decide +kernel)) (e0a hE (k := 11) (q := ((0 : Nat), (168 : Nat))) (by decide +kernel)) (e0r hE (k := 10) (j := 2) (r := 11) (by decide +kernel)) (by decide) ((uM_ne (by omega)).trans ((uM_ne (by omega)).trans ((uM_ne (by omega)).trans ((uM_ne (by omega)).trans ((uM_ne (by omega)).trans ((uM_ne (by omega)).trans uM_at)))))) ((uM_ne (by omega)).trans ((uM_ne (by omega)).trans ((uM_ne (by omega)).trans ((uM_ne (by omega)).trans ((uM_ne (by omega)).trans ((uM_ne (by omega)).trans ((uM_ne (by omega)).trans (hC (10, 1, 7) (by decide))))))))) ⟨by omega, by omega⟩ ⟨by omega, by omega⟩ ⟨by omega, by omega⟩ ⟨by omega, by omega⟩ ?_
  show gm_Wp X LX d _ _ 119 91 _ [] n K _ _ Q
  refine gm_sz (gm_p_load (pc := 91) (i := .iload 5) (sr := 0) (j := 5) (by decide +kernel) rfl rfl rfl) ?_
  exact gm_r_int (pc := 93) (by decide +kernel) (Or.inl (by decide +kernel)) q0
noncomputable def cs_th16 (M : gm_M) (f t l r : Int) : gm_M := gm_uM (gm_uM (gm_uM (gm_uM (gm_uM (gm_uM (gm_uM (gm_uM M 23 3 ((M 23 3) + 1)) 24 ((M 23 3) * 7 + 0) f) 24 ((M 23 3) * 7 + 1) t) 24 ((M 23 3) * 7 + 2) l) 24 ((M 23 3) * 7 + 3) (M 16 6)) 24 ((M 23 3) * 7 + 4) r) 24 ((M 23 3) * 7 + 5) (-1)) 24 ((M 23 3) * 7 + 6) (-1)
theorem cs_thr16 (hd : 1 ≤ d) (hE : E0 n K R) (hC : CST M) (h1 : 0 ≤ M 23 3 ∧ M 23 3 < 24) (q0 : Q (.inl (some (gm_vi (M 23 3)))) n K R (cs_th16 M f t l r)) : gm_Wp X LX d bc bs 119 0 (gm_ent 119 [gm_vr 16, gm_vi f, gm_vi t, gm_vi l, gm_vi r]) [] n K R M Q := by
  refine gm_sz (gm_p_load (pc := 0) (i := .aload_n 0) (sr := 2) (j := 0) (by decide +kernel) rfl rfl rfl) ?_
  refine gm_sz (fw_gr (pc := 1) (ix := 55) (ci := 1) (j := 12) (r := 23) (by decide +kernel) (e0k hE (k := 16) (c := 1) (by decide +kernel)) (by decide +kernel) (by decide +kernel) (e0r hE (k := 16) (j := 12) (r := 23) (by decide +kernel))) ?_
  refine gm_c_virt (k := 23) (ci := 2) (mj := 102) (ix := 76) (pc := 4) (as := []) (st := []) (d' := d - 1) (bc' := 0) (bs' := 0) (by decide +kernel) (by decide +kernel) (by decide +kernel) (by decide +kernel) (e0k hE (k := 23) (c := 2) (by decide +kernel)).1 (e0k hE (k := 23) (c := 2) (by decide +kernel)).2 (by decide) (by decide +kernel) (show 0 = gm_na 102 by decide +kernel) fw_c0 (show 1 ≤ gm_ml 102 by decide +kernel) (Nat.le_of_ble_eq_true rfl) (by omega) (Nat.zero_le _) (Nat.zero_le _) ?_
  refine rw_add (s := M 23 3) (m := 24) (e0k hE (k := 23) (c := 2) (by decide +kernel)) rfl (hC (23, 0, 24) (by decide)) ⟨by omega, by omega⟩ (by omega) ?_
  show gm_Wp X LX d _ _ 119 7 _ [gm_vi (M 23 3)] n K _ _ Q
  refine gm_sz (gm_p_stor (pc := 7) (i := .istore 5) (sr := 0) (j := 5) (by decide +kernel) rfl (show 6 ≤ _ from Nat.le_of_ble_eq_true rfl) rfl) ?_
  refine gm_sz (gm_p_load (pc := 9) (i := .aload_n 0) (sr := 2) (j := 0) (by decide +kernel) rfl rfl rfl) ?_
  refine gm_sz (fw_gr (pc := 10) (ix := 55) (ci := 1) (j := 12) (r := 23) (by decide +kernel) (e0k hE (k := 16) (c := 1) (by decide +kernel)) (by decide +kernel) (by decide +kernel) (e0r hE (k := 16) (j := 12) (r := 23) (by decide +kernel))) ?_
  refine gm_sz (gm_p_load (pc := 13) (i := .iload 5) (sr := 0) (j := 5) (by decide +kernel) rfl rfl rfl) ?_
  refine gm_sz (gm_p_const (pc := 15) (i := .iconst 0) (v := gm_vi 0) (by decide +kernel) (by decide +kernel)) ?_
  refine gm_sz (gm_p_load (pc := 16) (i := .iload_n 1) (sr := 0) (j := 1) (by decide +kernel) rfl rfl rfl) ?_
  refine gm_c_virt (k := 23) (ci := 2) (mj := 45) (ix := 79) (pc := 17) (as := [gm_vi (M 23 3), gm_vi 0, gm_vi f]) (st := []) (d' := d - 1) (bc' := 0) (bs' := 0) (by decide +kernel) (by decide +kernel) (by decide +kernel) (by decide +kernel) (e0k hE (k := 23) (c := 2) (by decide +kernel)).1 (e0k hE (k := 23) (c := 2) (by decide +kernel)).2 (by decide) (by decide +kernel) (show 3 = gm_na 45 by decide +kernel) (fw_c3 fw_si fw_si fw_si) (show 4 ≤ gm_ml 45 by decide +kernel) (Nat.le_of_ble_eq_true rfl) (by omega) (Nat.zero_le _) (Nat.zero_le _) ?_
  refine rw_put (s := (M 23 3) + 1) (w := 7) (e0k hE (k := 23) (c := 2) (by decide +kernel)) (e0a hE (k := 24) (q := ((0 : Nat), (168 : Nat))) (by decide +kernel)) (e0r hE (k := 23) (j := 2) (r := 24) (by decide +kernel)) (by decide) uM_at ((uM_ne (by omega)).trans (hC (23, 1, 7) (by decide))) ⟨by omega, by omega⟩ ⟨by omega, by omega⟩ ⟨by omega, by omega⟩ ⟨by omega, by omega⟩ ?_
  show gm_Wp X LX d _ _ 119 20 _ [] n K _ _ Q
  refine gm_sz (gm_p_load (pc := 20) (i := .aload_n 0) (sr := 2) (j := 0) (by decide +kernel) rfl rfl rfl) ?_
  refine gm_sz (fw_gr (pc := 21) (ix := 55) (ci := 1) (j := 12) (r := 23) (by decide +kernel) (e0k hE (k := 16) (c := 1) (by decide +kernel)) (by decide +kernel) (by decide +kernel) (e0r hE (k := 16) (j := 12) (r := 23) (by decide +kernel))) ?_
  refine gm_sz (gm_p_load (pc := 24) (i := .iload 5) (sr := 0) (j := 5) (by decide +kernel) rfl rfl rfl) ?_
  refine gm_sz (gm_p_const (pc := 26) (i := .iconst 1) (v := gm_vi 1) (by decide +kernel) (by decide +kernel)) ?_
  refine gm_sz (gm_p_load (pc := 27) (i := .iload_n 2) (sr := 0) (j := 2) (by decide +kernel) rfl rfl rfl) ?_
  refine gm_c_virt (k := 23) (ci := 2) (mj := 45) (ix := 79) (pc := 28) (as := [gm_vi (M 23 3), gm_vi 1, gm_vi t]) (st := []) (d' := d - 1) (bc' := 0) (bs' := 0) (by decide +kernel) (by decide +kernel) (by decide +kernel) (by decide +kernel) (e0k hE (k := 23) (c := 2) (by decide +kernel)).1 (e0k hE (k := 23) (c := 2) (by decide +kernel)).2 (by decide) (by decide +kernel) (show 3 = gm_na 45 by decide +kernel) (fw_c3 fw_si fw_si fw_si) (show 4 ≤ gm_ml 45 by decide +kernel) (Nat.le_of_ble_eq_true rfl) (by omega) (Nat.zero_le _) (Nat.zero_le _) ?_
  refine rw_put (s := (M 23 3) + 1) (w := 7) (e0k hE (k := 23) (c := 2) (by decide +kernel)) (e0a hE (k := 24) (q := ((0 : Nat), (168 : Nat))) (by decide +kernel)) (e0r hE (k := 23) (j := 2) (r := 24) (by decide +kernel)) (by decide) ((uM_ne (by omega)).trans uM_at) ((uM_ne (by omega)).trans ((uM_ne (by omega)).trans (hC (23, 1, 7) (by decide)))) ⟨by omega, by omega⟩ ⟨by omega, by omega⟩ ⟨by omega, by omega⟩ ⟨by omega, by omega⟩ ?_
  show gm_Wp X LX d _ _ 119 31 _ [] n K _ _ Q
  refine gm_sz (gm_p_load (pc := 31) (i := .aload_n 0) (sr := 2) (j := 0) (by decide +kernel) rfl rfl rfl) ?_
  refine gm_sz (fw_gr (pc := 32) (ix := 55) (ci := 1) (j := 12) (r := 23) (by decide +kernel) (e0k hE (k := 16) (c := 1) (by decide +kernel)) (by decide +kernel) (by decide +kernel) (e0r hE (k := 16) (j := 12) (r := 23) (by decide +kernel))) ?_
  refine gm_sz (gm_p_load (pc := 35) (i := .iload 5) (sr := 0) (j := 5) (by decide +kernel) rfl rfl rfl) ?_
  refine gm_sz (gm_p_const (pc := 37) (i := .iconst 2) (v := gm_vi 2) (by decide +kernel) (by decide +kernel)) ?_
  refine gm_sz (gm_p_load (pc := 38) (i := .iload_n 3) (sr := 0) (j := 3) (by decide +kernel) rfl rfl rfl) ?_
  refine gm_c_virt (k := 23) (ci := 2) (mj := 45) (ix := 79) (pc := 39) (as := [gm_vi (M 23 3), gm_vi 2, gm_vi l]) (st := []) (d' := d - 1) (bc' := 0) (bs' := 0) (by decide +kernel) (by decide +kernel) (by decide +kernel) (by decide +kernel) (e0k hE (k := 23) (c := 2) (by decide +kernel)).1 (e0k hE (k := 23) (c := 2) (by decide +kernel)).2 (by decide) (by decide +kernel) (show 3 = gm_na 45 by decide +kernel) (fw_c3 fw_si fw_si fw_si) (show 4 ≤ gm_ml 45 by decide +kernel) (Nat.le_of_ble_eq_true rfl) (by omega) (Nat.zero_le _) (Nat.zero_le _) ?_
  refine rw_put (s := (M 23 3) + 1) (w := 7) (e0k hE (k := 23) (c := 2) (by decide +kernel)) (e0a hE (k := 24) (q := ((0 : Nat), (168 : Nat))) (by decide +kernel)) (e0r hE (k := 23) (j := 2) (r := 24) (by decide +kernel)) (by decide) ((uM_ne (by omega)).trans ((uM_ne (by omega)).trans uM_at)) ((uM_ne (by omega)).trans ((uM_ne (by omega)).trans ((uM_ne (by omega)).trans (hC (23, 1, 7) (by decide))))) ⟨by omega, by omega⟩ ⟨by omega, by omega⟩ ⟨by omega, by omega⟩ ⟨by omega, by omega⟩ ?_
  show gm_Wp X LX d _ _ 119 42 _ [] n K _ _ Q
  refine gm_sz (gm_p_load (pc := 42) (i := .aload_n 0) (sr := 2) (j := 0) (by decide +kernel) rfl rfl rfl) ?_
  refine gm_sz (fw_gr (pc := 43) (ix := 55) (ci := 1) (j := 12) (r := 23) (by decide +kernel) (e0k hE (k := 16) (c := 1) (by decide +kernel)) (by decide +kernel) (by decide +kernel) (e0r hE (k := 16) (j := 12) (r := 23) (by decide +kernel))) ?_
  refine gm_sz (gm_p_load (pc := 46) (i := .iload 5) (sr := 0) (j := 5) (by decide +kernel) rfl rfl rfl) ?_
  refine gm_sz (gm_p_const (pc := 48) (i := .iconst 3) (v := gm_vi 3) (by decide +kernel) (by decide +kernel)) ?_
  refine gm_sz (gm_p_load (pc := 49) (i := .aload_n 0) (sr := 2) (j := 0) (by decide +kernel) rfl rfl rfl) ?_
  refine gm_sz (fw_gi (pc := 50) (ix := 30) (ci := 1) (j := 6) (x := M 16 6) (by decide +kernel) (e0k hE (k := 16) (c := 1) (by decide +kernel)) (by decide +kernel) (by decide +kernel) ((uM_ne (by omega)).trans ((uM_ne (by omega)).trans ((uM_ne (by omega)).trans (uM_ne (by omega)))))) ?_
  refine gm_c_virt (k := 23) (ci := 2) (mj := 45) (ix := 79) (pc := 53) (as := [gm_vi (M 23 3), gm_vi 3, gm_vi (M 16 6)]) (st := []) (d' := d - 1) (bc' := 0) (bs' := 0) (by decide +kernel) (by decide +kernel) (by decide +kernel) (by decide +kernel) (e0k hE (k := 23) (c := 2) (by decide +kernel)).1 (e0k hE (k := 23) (c := 2) (by decide +kernel)).2 (by decide) (by decide +kernel) (show 3 = gm_na 45 by decide +kernel) (fw_c3 fw_si fw_si fw_si) (show 4 ≤ gm_ml 45 by decide +kernel) (Nat.le_of_ble_eq_true rfl) (by omega) (Nat.zero_le _) (Nat.zero_le _) ?_
  refine rw_put (s := (M 23 3) + 1) (w := 7) (e0k hE (k := 23) (c := 2) (by decide +kernel)) (e0a hE (k := 24) (q := ((0 : Nat), (168 : Nat))) (by decide +kernel)) (e0r hE (k := 23) (j := 2) (r := 24) (by decide +kernel)) (by decide) ((uM_ne (by omega)).trans ((uM_ne (by omega)).trans ((uM_ne (by omega)).trans uM_at))) ((uM_ne (by omega)).trans ((uM_ne (by omega)).trans ((uM_ne (by omega)).trans ((uM_ne (by omega)).trans (hC (23, 1, 7) (by decide)))))) ⟨by omega, by omega⟩ ⟨by omega, by omega⟩ ⟨by omega, by omega⟩ ⟨by omega, by omega⟩ ?_
  show gm_Wp X LX d _ _ 119 56 _ [] n K _ _ Q
  refine gm_sz (gm_p_load (pc := 56) (i := .aload_n 0) (sr := 2) (j := 0) (by decide +kernel) rfl rfl rfl) ?_
  refine gm_sz (fw_gr (pc := 57) (ix := 55) (ci := 1) (j := 12) (r := 23) (by decide +kernel) (e0k hE (k := 16) (c := 1) (by decide +kernel)) (by decide +kernel) (by decide +kernel) (e0r hE (k := 16) (j := 12) (r := 23) (by decide +kernel))) ?_
  refine gm_sz (gm_p_load (pc := 60) (i := .iload 5) (sr := 0) (j := 5) (by decide +kernel) rfl rfl rfl) ?_
  refine gm_sz (gm_p_const (pc := 62) (i := .iconst 4) (v := gm_vi 4) (by decide +kernel) (by decide +kernel)) ?_
  refine gm_sz (gm_p_load (pc := 63) (i := .iload 4) (sr := 0) (j := 4) (by decide +kernel) rfl rfl rfl) ?_
  refine gm_c_virt (k := 23) (ci := 2) (mj := 45) (ix := 79) (pc := 65) (as := [gm_vi (M 23 3), gm_vi 4, gm_vi r]) (st := []) (d' := d - 1) (bc' := 0) (bs' := 0) (by decide +kernel) (by decide +kernel) (by decide +kernel) (by decide +kernel) (e0k hE (k := 23) (c := 2) (by decide +kernel)).1 (e0k hE (k := 23) (c := 2) (by decide +kernel)).2 (by decide) (by decide +kernel) (show 3 = gm_na 45 by decide +kernel) (fw_c3 fw_si fw_si fw_si) (show 4 ≤ gm_ml 45 by decide +kernel) (Nat.le_of_ble_eq_true rfl) (by omega) (Nat.zero_le _) (Nat.zero_le _) ?_
  refine rw_put (s := (M 23 3) + 1) (w := 7) (e0k hE (k := 23) (c := 2) (by decide +kernel)) (e0a hE (k := 24) (q := ((0 : Nat), (168 : Nat))) (by decide +kernel)) (e0r hE (k := 23) (j := 2) (r := 24) (by decide +kernel)) (by decide) ((uM_ne (by omega)).trans ((uM_ne (by omega)).trans ((uM_ne (by omega)).trans ((uM_ne (by omega)).trans uM_at)))) ((uM_ne (by omega)).trans ((uM_ne (by omega)).trans ((uM_ne (by omega)).trans ((uM_ne (by omega)).trans ((uM_ne (by omega)).trans (hC (23, 1, 7) (by decide))))))) ⟨by omega, by omega⟩ ⟨by omega, by omega⟩ ⟨by omega, by omega⟩ ⟨by omega, by omega⟩ ?_
  show gm_Wp X LX d _ _ 119 68 _ [] n K _ _ Q
  refine gm_sz (gm_p_load (pc := 68) (i := .aload_n 0) (sr := 2) (j := 0) (by decide +kernel) rfl rfl rfl) ?_
  refine gm_sz (fw_gr (pc := 69) (ix := 55) (ci := 1) (j := 12) (r := 23) (by decide +kernel) (e0k hE (k := 16) (c := 1) (by decide +kernel)) (by decide +kernel) (by decide +kernel) (e0r hE (k := 16) (j := 12) (r := 23) (by decide +kernel))) ?_
  refine gm_sz (gm_p_load (pc := 72) (i := .iload 5) (sr := 0) (j := 5) (by decide +kernel) rfl rfl rfl) ?_
  refine gm_sz (gm_p_const (pc := 74) (i := .iconst 5) (v := gm_vi 5) (by decide +kernel) (by decide +kernel)) ?_
  refine gm_sz (gm_p_const (pc := 75) (i := .iconst (-1)) (v := gm_vi (-1)) (by decide +kernel) (by decide +kernel)) ?_
  refine gm_c_virt (k := 23) (ci := 2) (mj := 45) (ix := 79) (pc := 76) (as := [gm_vi (M 23 3), gm_vi 5, gm_vi (-1)]) (st := []) (d' := d - 1) (bc' := 0) (bs' := 0) (by decide +kernel) (by decide +kernel) (by decide +kernel) (by decide +kernel) (e0k hE (k := 23) (c := 2) (by decide +kernel)).1 (e0k hE (k := 23) (c := 2) (by decide +kernel)).2 (by decide) (by decide +kernel) (show 3 = gm_na 45 by decide +kernel) (fw_c3 fw_si fw_si fw_si) (show 4 ≤ gm_ml 45 by decide +kernel) (Nat.le_of_ble_eq_true rfl) (by omega) (Nat.zero_le _) (Nat.zero_le _) ?_
  refine rw_put (s := (M 23 3) + 1) (w := 7) (e0k hE (k := 23) (c := 2) (by decide +kernel)) (e0a hE (k := 24) (q := ((0 : Nat), (168 : Nat))) (by decide +kernel)) (e0r hE (k := 23) (j := 2) (r := 24) (by decide +kernel)) (by decide) ((uM_ne (by omega)).trans ((uM_ne (by omega)).trans ((uM_ne (by omega)).trans ((uM_ne (by omega)).trans ((uM_ne (by omega)).trans uM_at))))) ((uM_ne (by omega)).trans ((uM_ne (by omega)).trans ((uM_ne (by omega)).trans ((uM_ne (by omega)).trans ((uM_ne (by omega)).trans ((uM_ne (by omega)).trans (hC (23, 1, 7) (by decide)))))))) ⟨by omega, by omega⟩ ⟨by omega, by omega⟩ ⟨by omega, by omega⟩ ⟨by omega, by omega⟩ ?_
  show gm_Wp X LX d _ _ 119 79 _ [] n K _ _ Q
  refine gm_sz (gm_p_load (pc := 79) (i := .aload_n 0) (sr := 2) (j := 0) (by decide +kernel) rfl rfl rfl) ?_
  refine gm_sz (fw_gr (pc := 80) (ix := 55) (ci := 1) (j := 12) (r := 23) (by decide +kernel) (e0k hE (k := 16) (c := 1) (by decide +kernel)) (by decide +kernel) (by decide +kernel) (e0r hE (k := 16) (j := 12) (r := 23) (by decide +kernel))) ?_
  refine gm_sz (gm_p_load (pc := 83) (i := .iload 5) (sr := 0) (j := 5) (by decide +kernel) rfl rfl rfl) ?_
  refine gm_sz (gm_p_const (pc := 85) (i := .bipush 6) (v := gm_vi 6) (by decide +kernel) (by decide +kernel)) ?_
  refine gm_sz (gm_p_const (pc := 87) (i := .iconst (-1)) (v := gm_vi (-1)) (by decide +kernel) (by decide +kernel)) ?_
  refine gm_c_virt (k := 23) (ci := 2) (mj := 45) (ix := 79) (pc := 88) (as := [gm_vi (M 23 3), gm_vi 6, gm_vi (-1)]) (st := []) (d' := d - 1) (bc' := 0) (bs' := 0) (by decide +kernel) (by decide +kernel) (by decide +kernel) (by decide +kernel) (e0k hE (k := 23) (c := 2) (by decide +kernel)).1 (e0k hE (k := 23) (c := 2) (by decide +kernel)).2 (by decide) (by decide +kernel) (show 3 = gm_na 45 by decide +kernel) (fw_c3 fw_si fw_si fw_si) (show 4 ≤ gm_ml 45 by decide +kernel) (Nat.le_of_ble_eq_true rfl) (by omega) (Nat.zero_le _) (Nat.zero_le _) ?_
  refine rw_put (s := (M 23 3) + 1) (w := 7) (e0k hE (k := 23) (c := 2) (by decide +kernel)) (e0a hE (k := 24) (q := ((0 : Nat), (168 : Nat))) (by decide +kernel)) (e0r hE (k := 23) (j := 2) (r := 24) (by decide +kernel)) (by decide) ((uM_ne (by omega)).trans ((uM_ne (by omega)).trans ((uM_ne (by omega)).trans ((uM_ne (by omega)).trans ((uM_ne (by omega)).trans ((uM_ne (by omega)).trans uM_at)))))) ((uM_ne (by omega)).trans ((uM_ne (by omega)).trans ((uM_ne (by omega)).trans ((uM_ne (by omega)).trans ((uM_ne (by omega)).trans ((uM_ne (by omega)).trans ((uM_ne (by omega)).trans (hC (23, 1, 7) (by decide))))))))) ⟨by omega, by omega⟩ ⟨by omega, by omega⟩ ⟨by omega, by omega⟩ ⟨by omega, by omega⟩ ?_
  show gm_Wp X LX d _ _ 119 91 _ [] n K _ _ Q
  refine gm_sz (gm_p_load (pc := 91) (i := .iload 5) (sr := 0) (j := 5) (by decide +kernel) rfl rfl rfl) ?_
  exact gm_r_int (pc := 93) (by decide +kernel) (Or.inl (by decide +kernel)) q0
noncomputable def cs_op (M : gm_M) (l p : Int) : gm_M := gm_uM (gm_uM (gm_uM (gm_uM (gm_uM (gm_uM M 11 (l * 7 + 5) p) 11 (l * 7 + 6) (M 3 6)) 14 3 ((M 14 3) + 1)) 15 ((M 14 3) * 3 + 0) (M 3 6)) 15 ((M 14 3) * 3 + 1) l) 15 ((M 14 3) * 3 + 2) p
theorem cs_opn (hd : 1 ≤ d) (hE : E0 n K R) (hC : CST M) (h1 : 0 ≤ l ∧ l < M 10 3) (h2 : M 10 3 ≤ 24) (h3 : 0 ≤ M 14 3 ∧ M 14 3 < 24) (q0 : Q (.inl (none)) n K R (cs_op M l p)) : gm_Wp X LX d bc bs 159 0 (gm_ent 159 [gm_vr 3, gm_vi l, gm_vi p]) [] n K R M Q := by
  refine gm_sz (gm_p_load (pc := 0) (i := .aload_n 0) (sr := 2) (j := 0) (by decide +kernel) rfl rfl rfl) ?_
  refine gm_sz (fw_gr (pc := 1) (ix := 55) (ci := 1) (j := 12) (r := 10) (by decide +kernel) (e0k hE (k := 3) (c := 1) (by decide +kernel)) (by decide +kernel) (by decide +kernel) (e0r hE (k := 3) (j := 12) (r := 10) (by decide +kernel))) ?_
  refine gm_sz (gm_p_load (pc := 4) (i := .iload_n 1) (sr := 0) (j := 1) (by decide +kernel) rfl rfl rfl) ?_
  refine gm_sz (gm_p_const (pc := 5) (i := .iconst 5) (v := gm_vi 5) (by decide +kernel) (by decide +kernel)) ?_
  refine gm_sz (gm_p_load (pc := 6) (i := .iload_n 2) (sr := 0) (j := 2) (by decide +kernel) rfl rfl rfl) ?_
  refine gm_c_virt (k := 10) (ci := 2) (mj := 45) (ix := 79) (pc := 7) (as := [gm_vi l, gm_vi 5, gm_vi p]) (st := []) (d' := d - 1) (bc' := 0) (bs' := 0) (by decide +kernel) (by decide +kernel) (by decide +kernel) (by decide +kernel) (e0k hE (k := 10) (c := 2) (by decide +kernel)).1 (e0k hE (k := 10) (c := 2) (by decide +kernel)).2 (by decide) (by decide +kernel) (show 3 = gm_na 45 by decide +kernel) (fw_c3 fw_si fw_si fw_si) (show 4 ≤ gm_ml 45 by decide +kernel) (Nat.le_of_ble_eq_true rfl) (by omega) (Nat.zero_le _) (Nat.zero_le _) ?_
  refine rw_put (s := M 10 3) (w := 7) (e0k hE (k := 10) (c := 2) (by decide +kernel)) (e0a hE (k := 11) (q := ((0 : Nat), (168 : Nat))) (by decide +kernel)) (e0r hE (k := 10) (j := 2) (r := 11) (by decide +kernel)) (by decide) rfl (hC (10, 1, 7) (by decide)) ⟨by omega, by omega⟩ ⟨by omega, by omega⟩ ⟨by omega, by omega⟩ ⟨by omega, by omega⟩ ?_
  show gm_Wp X LX d _ _ 159 10 _ [] n K _ _ Q
  refine gm_sz (gm_p_load (pc := 10) (i := .aload_n 0) (sr := 2) (j := 0) (by decide +kernel) rfl rfl rfl) ?_
  refine gm_sz (fw_gr (pc := 11) (ix := 55) (ci := 1) (j := 12) (r := 10) (by decide +kernel) (e0k hE (k := 3) (c := 1) (by decide +kernel)) (by decide +kernel) (by decide +kernel) (e0r hE (k := 3) (j := 12) (r := 10) (by decide +kernel))) ?_
  refine gm_sz (gm_p_load (pc := 14) (i := .iload_n 1) (sr := 0) (j := 1) (by decide +kernel) rfl rfl rfl) ?_
  refine gm_sz (gm_p_const (pc := 15) (i := .bipush 6) (v := gm_vi 6) (by decide +kernel) (by decide +kernel)) ?_
  refine gm_sz (gm_p_load (pc := 17) (i := .aload_n 0) (sr := 2) (j := 0) (by decide +kernel) rfl rfl rfl) ?_
  refine gm_sz (fw_gi (pc := 18) (ix := 30) (ci := 1) (j := 6) (x := M 3 6) (by decide +kernel) (e0k hE (k := 3) (c := 1) (by decide +kernel)) (by decide +kernel) (by decide +kernel) (uM_ne (by omega))) ?_
  refine gm_c_virt (k := 10) (ci := 2) (mj := 45) (ix := 79) (pc := 21) (as := [gm_vi l, gm_vi 6, gm_vi (M 3 6)]) (st := []) (d' := d - 1) (bc' := 0) (bs' := 0) (by decide +kernel) (by decide +kernel) (by decide +kernel) (by decide +kernel) (e0k hE (k := 10) (c := 2) (by decide +kernel)).1 (e0k hE (k := 10) (c := 2) (by decide +kernel)).2 (by decide) (by decide +kernel) (show 3 = gm_na 45 by decide +kernel) (fw_c3 fw_si fw_si fw_si) (show 4 ≤ gm_ml 45 by decide +kernel) (Nat.le_of_ble_eq_true rfl) (by omega) (Nat.zero_le _) (Nat.zero_le _) ?_
  refine rw_put (s := M 10 3) (w := 7) (e0k hE (k := 10) (c := 2) (by decide +kernel)) (e0a hE (k := 11) (q := ((0 : Nat), (168 : Nat))) (by decide +kernel)) (e0r hE (k := 10) (j := 2) (r := 11) (by decide +kernel)) (by decide) (uM_ne (by omega)) ((uM_ne (by omega)).trans (hC (10, 1, 7) (by decide))) ⟨by omega, by omega⟩ ⟨by omega, by omega⟩ ⟨by omega, by omega⟩ ⟨by omega, by omega⟩ ?_
  show gm_Wp X LX d _ _ 159 24 _ [] n K _ _ Q
  refine gm_sz (gm_p_load (pc := 24) (i := .aload_n 0) (sr := 2) (j := 0) (by decide +kernel) rfl rfl rfl) ?_
  refine gm_sz (fw_gr (pc := 25) (ix := 61) (ci := 1) (j := 14) (r := 14) (by decide +kernel) (e0k hE (k := 3) (c := 1) (by decide +kernel)) (by decide +kernel) (by decide +kernel) (e0r hE (k := 3) (j := 14) (r := 14) (by decide +kernel))) ?_
  refine gm_c_virt (k := 14) (ci := 2) (mj := 102) (ix := 76) (pc := 28) (as := []) (st := []) (d' := d - 1) (bc' := 0) (bs' := 0) (by decide +kernel) (by decide +kernel) (by decide +kernel) (by decide +kernel) (e0k hE (k := 14) (c := 2) (by decide +kernel)).1 (e0k hE (k := 14) (c := 2) (by decide +kernel)).2 (by decide) (by decide +kernel) (show 0 = gm_na 102 by decide +kernel) fw_c0 (show 1 ≤ gm_ml 102 by decide +kernel) (Nat.le_of_ble_eq_true rfl) (by omega) (Nat.zero_le _) (Nat.zero_le _) ?_
  refine rw_add (s := M 14 3) (m := 24) (e0k hE (k := 14) (c := 2) (by decide +kernel)) ((uM_ne (by omega)).trans (uM_ne (by omega))) ((uM_ne (by omega)).trans ((uM_ne (by omega)).trans (hC (14, 0, 24) (by decide)))) ⟨by omega, by omega⟩ (by omega) ?_
  show gm_Wp X LX d _ _ 159 31 _ [gm_vi (M 14 3)] n K _ _ Q
  refine gm_sz (gm_p_stor (pc := 31) (i := .istore_n 3) (sr := 0) (j := 3) (by decide +kernel) rfl (show 4 ≤ _ from Nat.le_of_ble_eq_true rfl) rfl) ?_
  refine gm_sz (gm_p_load (pc := 32) (i := .aload_n 0) (sr := 2) (j := 0) (by decide +kernel) rfl rfl rfl) ?_
  refine gm_sz (fw_gr (pc := 33) (ix := 61) (ci := 1) (j := 14) (r := 14) (by decide +kernel) (e0k hE (k := 3) (c := 1) (by decide +kernel)) (by decide +kernel) (by decide +kernel) (e0r hE (k := 3) (j := 14) (r := 14) (by decide +kernel))) ?_
  refine gm_sz (gm_p_load (pc := 36) (i := .iload_n 3) (sr := 0) (j := 3) (by decide +kernel) rfl rfl rfl) ?_
  refine gm_sz (gm_p_const (pc := 37) (i := .iconst 0) (v := gm_vi 0) (by decide +kernel) (by decide +kernel)) ?_
  refine gm_sz (gm_p_load (pc := 38) (i := .aload_n 0) (sr := 2) (j := 0) (by decide +kernel) rfl rfl rfl) ?_
  refine gm_sz (fw_gi (pc := 39) (ix := 30) (ci := 1) (j := 6) (x := M 3 6) (by decide +kernel) (e0k hE (k := 3) (c := 1) (by decide +kernel)) (by decide +kernel) (by decide +kernel) ((uM_ne (by omega)).trans ((uM_ne (by omega)).trans (uM_ne (by omega))))) ?_
  refine gm_c_virt (k := 14) (ci := 2) (mj := 45) (ix := 79) (pc := 42) (as := [gm_vi (M 14 3), gm_vi 0, gm_vi (M 3 6)]) (st := []) (d' := d - 1) (bc' := 0) (bs' := 0) (by decide +kernel) (by decide +kernel) (by decide +kernel) (by decide +kernel) (e0k hE (k := 14) (c := 2) (by decide +kernel)).1 (e0k hE (k := 14) (c := 2) (by decide +kernel)).2 (by decide) (by decide +kernel) (show 3 = gm_na 45 by decide +kernel) (fw_c3 fw_si fw_si fw_si) (show 4 ≤ gm_ml 45 by decide +kernel) (Nat.le_of_ble_eq_true rfl) (by omega) (Nat.zero_le _) (Nat.zero_le _) ?_
  refine rw_put (s := (M 14 3) + 1) (w := 3) (e0k hE (k := 14) (c := 2) (by decide +kernel)) (e0a hE (k := 15) (q := ((0 : Nat), (72 : Nat))) (by decide +kernel)) (e0r hE (k := 14) (j := 2) (r := 15) (by decide +kernel)) (by decide) uM_at ((uM_ne (by omega)).trans ((uM_ne (by omega)).trans ((uM_ne (by omega)).trans (hC (14, 1, 3) (by decide))))) ⟨by omega, by omega⟩ ⟨by omega, by omega⟩ ⟨by omega, by omega⟩ ⟨by omega, by omega⟩ ?_
  show gm_Wp X LX d _ _ 159 45 _ [] n K _ _ Q
  refine gm_sz (gm_p_load (pc := 45) (i := .aload_n 0) (sr := 2) (j := 0) (by decide +kernel) rfl rfl rfl) ?_
  refine gm_sz (fw_gr (pc := 46) (ix := 61) (ci := 1) (j := 14) (r := 14) (by decide +kernel) (e0k hE (k := 3) (c := 1) (by decide +kernel)) (by decide +kernel) (by decide +kernel) (e0r hE (k := 3) (j := 14) (r := 14) (by decide +kernel))) ?_
  refine gm_sz (gm_p_load (pc := 49) (i := .iload_n 3) (sr := 0) (j := 3) (by decide +kernel) rfl rfl rfl) ?_
  refine gm_sz (gm_p_const (pc := 50) (i := .iconst 1) (v := gm_vi 1) (by decide +kernel) (by decide +kernel)) ?_
  refine gm_sz (gm_p_load (pc := 51) (i := .iload_n 1) (sr := 0) (j := 1) (by decide +kernel) rfl rfl rfl) ?_
  refine gm_c_virt (k := 14) (ci := 2) (mj := 45) (ix := 79) (pc := 52) (as := [gm_vi (M 14 3), gm_vi 1, gm_vi l]) (st := []) (d' := d - 1) (bc' := 0) (bs' := 0) (by decide +kernel) (by decide +kernel) (by decide +kernel) (by decide +kernel) (e0k hE (k := 14) (c := 2) (by decide +kernel)).1 (e0k hE (k := 14) (c := 2) (by decide +kernel)).2 (by decide) (by decide +kernel) (show 3 = gm_na 45 by decide +kernel) (fw_c3 fw_si fw_si fw_si) (show 4 ≤ gm_ml 45 by decide +kernel) (Nat.le_of_ble_eq_true rfl) (by omega) (Nat.zero_le _) (Nat.zero_le _) ?_
  refine rw_put (s := (M 14 3) + 1) (w := 3) (e0k hE (k := 14) (c := 2) (by decide +kernel)) (e0a hE (k := 15) (q := ((0 : Nat), (72 : Nat))) (by decide +kernel)) (e0r hE (k := 14) (j := 2) (r := 15) (by decide +kernel)) (by decide) ((uM_ne (by omega)).trans uM_at) ((uM_ne (by omega)).trans ((uM_ne (by omega)).trans ((uM_ne (by omega)).trans ((uM_ne (by omega)).trans (hC (14, 1, 3) (by decide)))))) ⟨by omega, by omega⟩ ⟨by omega, by omega⟩ ⟨by omega, by omega⟩ ⟨by omega, by omega⟩ ?_
  show gm_Wp X LX d _ _ 159 55 _ [] n K _ _ Q
  refine gm_sz (gm_p_load (pc := 55) (i := .aload_n 0) (sr := 2) (j := 0) (by decide +kernel) rfl rfl rfl) ?_
  refine gm_sz (fw_gr (pc := 56) (ix := 61) (ci := 1) (j := 14) (r := 14) (by decide +kernel) (e0k hE (k := 3) (c := 1) (by decide +kernel)) (by decide +kernel) (by decide +kernel) (e0r hE (k := 3) (j := 14) (r := 14) (by decide +kernel))) ?_
  refine gm_sz (gm_p_load (pc := 59) (i := .iload_n 3) (sr := 0) (j := 3) (by decide +kernel) rfl rfl rfl) ?_
  refine gm_sz (gm_p_const (pc := 60) (i := .iconst 2) (v := gm_vi 2) (by decide +kernel) (by decide +kernel)) ?_
  refine gm_sz (gm_p_load (pc := 61) (i := .iload_n 2) (sr := 0) (j := 2) (by decide +kernel) rfl rfl rfl) ?_
  refine gm_c_virt (k := 14) (ci := 2) (mj := 45) (ix := 79) (pc := 62) (as := [gm_vi (M 14 3), gm_vi 2, gm_vi p]) (st := []) (d' := d - 1) (bc' := 0) (bs' := 0) (by decide +kernel) (by decide +kernel) (by decide +kernel) (by decide +kernel) (e0k hE (k := 14) (c := 2) (by decide +kernel)).1 (e0k hE (k := 14) (c := 2) (by decide +kernel)).2 (by decide) (by decide +kernel) (show 3 = gm_na 45 by decide +kernel) (fw_c3 fw_si fw_si fw_si) (show 4 ≤ gm_ml 45 by decide +kernel) (Nat.le_of_ble_eq_true rfl) (by omega) (Nat.zero_le _) (Nat.zero_le _) ?_
  refine rw_put (s := (M 14 3) + 1) (w := 3) (e0k hE (k := 14) (c := 2) (by decide +kernel)) (e0a hE (k := 15) (q := ((0 : Nat), (72 : Nat))) (by decide +kernel)) (e0r hE (k := 14) (j := 2) (r := 15) (by decide +kernel)) (by decide) ((uM_ne (by omega)).trans ((uM_ne (by omega)).trans uM_at)) ((uM_ne (by omega)).trans ((uM_ne (by omega)).trans ((uM_ne (by omega)).trans ((uM_ne (by omega)).trans ((uM_ne (by omega)).trans (hC (14, 1, 3) (by decide))))))) ⟨by omega, by omega⟩ ⟨by omega, by omega⟩ ⟨by omega, by omega⟩ ⟨by omega, by omega⟩ ?_
  show gm_Wp X LX d _ _ 159 65 _ [] n K _ _ Q
  exact gm_r_void (pc := 65) (by decide +kernel) (by decide +kernel) q0
theorem cs_emp (hd : 1 ≤ d) (hE : E0 n K R) (hC : CST M) (h1 : 0 ≤ M 17 3 ∧ M 17 3 ≤ 8) (h2 : 0 ≤ M 19 3 ∧ M 19 3 ≤ 8) (h3 : 0 ≤ M 21 3 ∧ M 21 3 ≤ 8) (h4 : 0 ≤ M 23 3 ∧ M 23 3 ≤ 24) (h5 : 0 ≤ M 25 3 ∧ M 25 3 ≤ 6) (q0 : ¬ (((((M 17 3) + (M 19 3)) + (M 21 3)) + (M 23 3)) + (M 25 3)) = 0 → Q (.inl (some (gm_vi 0))) n K R (M)) (q1 : (((((M 17 3) + (M 19 3)) + (M 21 3)) + (M 23 3)) + (M 25 3)) = 0 → Q (.inl (some (gm_vi 1))) n K R (M)) : gm_Wp X LX d bc bs 105 0 (gm_ent 105 [gm_vr 16]) [] n K R M Q := by
  refine gm_sz (gm_p_load (pc := 0) (i := .aload_n 0) (sr := 2) (j := 0) (by decide +kernel) rfl rfl rfl) ?_
  refine gm_sz (fw_gr (pc := 1) (ix := 45) (ci := 1) (j := 9) (r := 17) (by decide +kernel) (e0k hE (k := 16) (c := 1) (by decide +kernel)) (by decide +kernel) (by decide +kernel) (e0r hE (k := 16) (j := 9) (r := 17) (by decide +kernel))) ?_
  refine gm_c_virt (k := 17) (ci := 2) (mj := 9) (ix := 68) (pc := 4) (as := []) (st := []) (d' := d - 1) (bc' := 0) (bs' := 0) (by decide +kernel) (by decide +kernel) (by decide +kernel) (by decide +kernel) (e0k hE (k := 17) (c := 2) (by decide +kernel)).1 (e0k hE (k := 17) (c := 2) (by decide +kernel)).2 (by decide) (by decide +kernel) (show 0 = gm_na 9 by decide +kernel) fw_c0 (show 1 ≤ gm_ml 9 by decide +kernel) (Nat.le_of_ble_eq_true rfl) (by omega) (Nat.zero_le _) (Nat.zero_le _) ?_
  refine rw_size (s := M 17 3) (e0k hE (k := 17) (c := 2) (by decide +kernel)) rfl ?_
  show gm_Wp X LX d _ _ 105 7 _ [gm_vi (M 17 3)] n K _ _ Q
  refine gm_sz (gm_p_load (pc := 7) (i := .aload_n 0) (sr := 2) (j := 0) (by decide +kernel) rfl rfl rfl) ?_
  refine gm_sz (fw_gr (pc := 8) (ix := 49) (ci := 1) (j := 10) (r := 19) (by decide +kernel) (e0k hE (k := 16) (c := 1) (by decide +kernel)) (by decide +kernel) (by decide +kernel) (e0r hE (k := 16) (j := 10) (r := 19) (by decide +kernel))) ?_
  refine gm_c_virt (k := 19) (ci := 2) (mj := 9) (ix := 68) (pc := 11) (as := []) (st := [gm_vi (M 17 3)]) (d' := d - 1) (bc' := 0) (bs' := 0) (by decide +kernel) (by decide +kernel) (by decide +kernel) (by decide +kernel) (e0k hE (k := 19) (c := 2) (by decide +kernel)).1 (e0k hE (k := 19) (c := 2) (by decide +kernel)).2 (by decide) (by decide +kernel) (show 0 = gm_na 9 by decide +kernel) fw_c0 (show 1 ≤ gm_ml 9 by decide +kernel) (Nat.le_of_ble_eq_true rfl) (by omega) (Nat.zero_le _) (Nat.zero_le _) ?_
  refine rw_size (s := M 19 3) (e0k hE (k := 19) (c := 2) (by decide +kernel)) rfl ?_
  show gm_Wp X LX d _ _ 105 14 _ [gm_vi (M 19 3), gm_vi (M 17 3)] n K _ _ Q
  refine gm_sz (gm_p_bin (pc := 14) (i := .iadd) (f := fun x y => x + y) (by decide +kernel) rfl) ?_
  refine gm_sz (gm_p_load (pc := 15) (i := .aload_n 0) (sr := 2) (j := 0) (by decide +kernel) rfl rfl rfl) ?_
  refine gm_sz (fw_gr (pc := 16) (ix := 52) (ci := 1) (j := 11) (r := 21) (by decide +kernel) (e0k hE (k := 16) (c := 1) (by decide +kernel)) (by decide +kernel) (by decide +kernel) (e0r hE (k := 16) (j := 11) (r := 21) (by decide +kernel))) ?_
  refine gm_c_virt (k := 21) (ci := 2) (mj := 9) (ix := 68) (pc := 19) (as := []) (st := [gm_vi ((M 17 3) + (M 19 3))]) (d' := d - 1) (bc' := 0) (bs' := 0) (by decide +kernel) (by decide +kernel) (by decide +kernel) (by decide +kernel) (e0k hE (k := 21) (c := 2) (by decide +kernel)).1 (e0k hE (k := 21) (c := 2) (by decide +kernel)).2 (by decide) (by decide +kernel) (show 0 = gm_na 9 by decide +kernel) fw_c0 (show 1 ≤ gm_ml 9 by decide +kernel) (Nat.le_of_ble_eq_true rfl) (by omega) (Nat.zero_le _) (Nat.zero_le _) ?_
  refine rw_size (s := M 21 3) (e0k hE (k := 21) (c := 2) (by decide +kernel)) rfl ?_
  show gm_Wp X LX d _ _ 105 22 _ [gm_vi (M 21 3), gm_vi ((M 17 3) + (M 19 3))] n K _ _ Q
  refine gm_sz (gm_p_bin (pc := 22) (i := .iadd) (f := fun x y => x + y) (by decide +kernel) rfl) ?_
  refine gm_sz (gm_p_load (pc := 23) (i := .aload_n 0) (sr := 2) (j := 0) (by decide +kernel) rfl rfl rfl) ?_
  refine gm_sz (fw_gr (pc := 24) (ix := 55) (ci := 1) (j := 12) (r := 23) (by decide +kernel) (e0k hE (k := 16) (c := 1) (by decide +kernel)) (by decide +kernel) (by decide +kernel) (e0r hE (k := 16) (j := 12) (r := 23) (by decide +kernel))) ?_
  refine gm_c_virt (k := 23) (ci := 2) (mj := 9) (ix := 68) (pc := 27) (as := []) (st := [gm_vi (((M 17 3) + (M 19 3)) + (M 21 3))]) (d' := d - 1) (bc' := 0) (bs' := 0) (by decide +kernel) (by decide +kernel) (by decide +kernel) (by decide +kernel) (e0k hE (k := 23) (c := 2) (by decide +kernel)).1 (e0k hE (k := 23) (c := 2) (by decide +kernel)).2 (by decide) (by decide +kernel) (show 0 = gm_na 9 by decide +kernel) fw_c0 (show 1 ≤ gm_ml 9 by decide +kernel) (Nat.le_of_ble_eq_true rfl) (by omega) (Nat.zero_le _) (Nat.zero_le _) ?_
  refine rw_size (s := M 23 3) (e0k hE (k := 23) (c := 2) (by decide +kernel)) rfl ?_
  show gm_Wp X LX d _ _ 105 30 _ [gm_vi (M 23 3), gm_vi (((M 17 3) + (M 19 3)) + (M 21 3))] n K _ _ Q
  refine gm_sz (gm_p_bin (pc := 30) (i := .iadd) (f := fun x y => x + y) (by decide +kernel) rfl) ?_
  refine gm_sz (gm_p_load (pc := 31) (i := .aload_n 0) (sr := 2) (j := 0) (by decide +kernel) rfl rfl rfl) ?_
  refine gm_sz (fw_gr (pc := 32) (ix := 58) (ci := 1) (j := 13) (r := 25) (by decide +kernel) (e0k hE (k := 16) (c := 1) (by decide +kernel)) (by decide +kernel) (by decide +kernel) (e0r hE (k := 16) (j := 13) (r := 25) (by decide +kernel))) ?_
  refine gm_c_virt (k := 25) (ci := 2) (mj := 9) (ix := 68) (pc := 35) (as := []) (st := [gm_vi ((((M 17 3) + (M 19 3)) + (M 21 3)) + (M 23 3))]) (d' := d - 1) (bc' := 0) (bs' := 0) (by decide +kernel) (by decide +kernel) (by decide +kernel) (by decide +kernel) (e0k hE (k := 25) (c := 2) (by decide +kernel)).1 (e0k hE (k := 25) (c := 2) (by decide +kernel)).2 (by decide) (by decide +kernel) (show 0 = gm_na 9 by decide +kernel) fw_c0 (show 1 ≤ gm_ml 9 by decide +kernel) (Nat.le_of_ble_eq_true rfl) (by omega) (Nat.zero_le _) (Nat.zero_le _) ?_
  refine rw_size (s := M 25 3) (e0k hE (k := 25) (c := 2) (by decide +kernel)) rfl ?_
  show gm_Wp X LX d _ _ 105 38 _ [gm_vi (M 25 3), gm_vi ((((M 17 3) + (M 19 3)) + (M 21 3)) + (M 23 3))] n K _ _ Q
  refine gm_sz (gm_p_bin (pc := 38) (i := .iadd) (f := fun x y => x + y) (by decide +kernel) rfl) ?_
  refine fw_if (cc := .ne) (pc := 39) (off := 7) (by decide +kernel) (by decide) ⟨by omega, by omega⟩ (fun h39 => ?_) (fun h39 => ?_)
  · have h39 : ¬ (((((M 17 3) + (M 19 3)) + (M 21 3)) + (M 23 3)) + (M 25 3)) = 0 := h39
    refine gm_sz (gm_p_const (pc := 46) (i := .iconst 0) (v := gm_vi 0) (by decide +kernel) (by decide +kernel)) ?_
    exact gm_r_int (pc := 47) (by decide +kernel) (Or.inr ⟨(by decide +kernel), Or.inl rfl⟩) (q0 h39)
  · have h39 : (((((M 17 3) + (M 19 3)) + (M 21 3)) + (M 23 3)) + (M 25 3)) = 0 := Classical.not_not.mp h39
    refine gm_sz (gm_p_const (pc := 42) (i := .iconst 1) (v := gm_vi 1) (by decide +kernel) (by decide +kernel)) ?_
    refine gm_sz (gm_p_goto (pc := 43) (off := 4) (by decide +kernel) (by decide)) ?_
    exact gm_r_int (pc := 47) (by decide +kernel) (Or.inr ⟨(by decide +kernel), Or.inr rfl⟩) (q1 h39)
end CST1
noncomputable abbrev nL (N : Int → Int) (l c : Int) : Int := N (119 + (l * 7 + c))
/-- the bits of a year's floods -/
noncomputable def fbit (N : Int → Int) (y b : Int) : Prop := ∀ f : Nat, f < 8 → (gm_and (gm_shr b (f : Int)) 1 = 1 ↔ ((f : Int) < N 5 ∧ (N (71 + (f * 3 + 0))) = y))
/-- bounds of what is told -/
noncomputable def NR (N : Int → Int) : Prop := ((1 ≤ N 0 ∧ N 0 ≤ 6) ∧ (10 ≤ N 1 ∧ N 1 ≤ 99) ∧ (0 ≤ N 10 ∧ N 10 ≤ 98) ∧ (0 ≤ N 11 ∧ N 11 ≤ 9) ∧ (0 ≤ N 12 ∧ N 12 ≤ 6) ∧ (0 ≤ N 9 ∧ N 9 ≤ 299)) ∧ ((0 ≤ N 2 ∧ N 2 ≤ 8) ∧ (0 ≤ N 5 ∧ N 5 ≤ 8) ∧ (0 ≤ N 3 ∧ N 3 ≤ 8) ∧ (0 ≤ N 4 ∧ N 4 ≤ 24) ∧ (0 ≤ N 6 ∧ N 6 ≤ 6) ∧ (0 ≤ N 14 ∧ N 14 ≤ 24) ∧ (0 ≤ N 7 ∧ N 7 ≤ 12) ∧ (0 ≤ N 13 ∧ N 13 ≤ 9999)) ∧
  (∀ f : Int, 0 ≤ f → f < N 5 → (0 ≤ (N (71 + (f * 3 + 0))) ∧ (N (71 + (f * 3 + 0))) ≤ 299) ∧ (0 ≤ (N (71 + (f * 3 + 1))) ∧ (N (71 + (f * 3 + 1))) < N 1) ∧ (0 ≤ (N (71 + (f * 3 + 2))) ∧ (N (71 + (f * 3 + 2))) ≤ 20)) ∧
  (∀ p : Int, 0 ≤ p → p < N 3 → (0 ≤ (N (95 + (p * 3 + 0))) ∧ (N (95 + (p * 3 + 0))) < N 0) ∧ (0 ≤ (N (95 + (p * 3 + 1))) ∧ (N (95 + (p * 3 + 1))) < N 1) ∧ (-1 ≤ (N (95 + (p * 3 + 2))) ∧ (N (95 + (p * 3 + 2))) < N 0)) ∧
  (∀ l : Int, 0 ≤ l → l < N 4 → (-1 ≤ (N (119 + (l * 7 + 0))) ∧ (N (119 + (l * 7 + 0))) < N 3) ∧ (-1 ≤ (N (119 + (l * 7 + 1))) ∧ (N (119 + (l * 7 + 1))) < N 3) ∧ (0 ≤ (N (119 + (l * 7 + 2))) ∧ (N (119 + (l * 7 + 2))) < N 0) ∧ (0 ≤ (N (119 + (l * 7 + 3))) ∧ (N (119 + (l * 7 + 3))) ≤ N 9) ∧ (0 ≤ (N (119 + (l * 7 + 4))) ∧ (N (119 + (l * 7 + 4))) < N 1) ∧ (-1 ≤ (N (119 + (l * 7 + 5))) ∧ (N (119 + (l * 7 + 5))) < N 3) ∧ (-1 ≤ (N (119 + (l * 7 + 6))) ∧ (N (119 + (l * 7 + 6))) ≤ 299) ∧ (0 ≤ (N (119 + (l * 7 + 0))) → 0 ≤ (N (119 + (l * 7 + 1)))))
/-- what the class is told, and what it has made of it: heats, speeds, floods -/
noncomputable def TI (N h : Int → Int) (sp : Int → Int → Int) (M : gm_M) : Prop := CST M ∧ cs M 3 = N ∧ (∀ y, 0 ≤ y → y < 300 → M 201 y = h y ∧ (0 ≤ h y ∧ h y ≤ 9) ∧ gm_ir (M 203 y) ∧ fbit N y (M 203 y)) ∧ ∀ l r, 0 ≤ l → l < 6 → 0 ≤ r → r < 99 → M 202 (l * 99 + r) = sp l r
section TII
variable {N h : Int → Int} {sp : Int → Int → Int} {M M2 : gm_M} {W : List (Nat × Option Int)}
theorem ti_lan (hT : TI N h sp M) : M 3 0 = N 0 := congrFun hT.2.1 0
theorem ti_las (hT : TI N h sp M) : M 3 1 = N 1 := congrFun hT.2.1 1
theorem ti_sno (hT : TI N h sp M) : M 3 2 = N 10 := congrFun hT.2.1 10
theorem ti_fal (hT : TI N h sp M) : M 3 3 = N 11 := congrFun hT.2.1 11
theorem ti_str (hT : TI N h sp M) : M 3 4 = N 12 := congrFun hT.2.1 12
theorem ti_now (hT : TI N h sp M) : M 3 6 = N 9 := congrFun hT.2.1 9
theorem ti_flo (hT : TI N h sp M) : M 6 3 = N 5 := congrFun hT.2.1 5
theorem ti_peo (hT : TI N h sp M) : M 8 3 = N 3 := congrFun hT.2.1 3
theorem ti_let (hT : TI N h sp M) : M 10 3 = N 4 := congrFun hT.2.1 4
theorem ti_ope (hT : TI N h sp M) : M 14 3 = N 14 := congrFun hT.2.1 14
theorem ti_aF (hT : TI N h sp M) {j : Int} (h0 : 0 ≤ j) (h1 : j < 24) : M 7 j = N (71 + j) := by
  have e := congrFun hT.2.1 (71 + j)
  rw [← e]
  unfold cs
  rw [if_neg (show ¬ 71 + j < 0 by omega), if_neg (show ¬ 71 + j < 15 by omega), if_neg (show ¬ 71 + j < 71 by omega), if_pos (show 71 + j < 95 by omega)]
  show M 7 j = M 7 _
  congr 1
  omega
theorem ti_aP (hT : TI N h sp M) {j : Int} (h0 : 0 ≤ j) (h1 : j < 24) : M 9 j = N (95 + j) := by
  have e := congrFun hT.2.1 (95 + j)
  rw [← e]
  unfold cs
  rw [if_neg (show ¬ 95 + j < 0 by omega), if_neg (show ¬ 95 + j < 15 by omega), if_neg (show ¬ 95 + j < 71 by omega), if_neg (show ¬ 95 + j < 95 by omega), if_pos (show 95 + j < 119 by omega)]
  show M 9 j = M 9 _
  congr 1
  omega
theorem ti_aL (hT : TI N h sp M) {j : Int} (h0 : 0 ≤ j) (h1 : j < 168) : M 11 j = N (119 + j) := by
  have e := congrFun hT.2.1 (119 + j)
  rw [← e]
  unfold cs
  rw [if_neg (show ¬ 119 + j < 0 by omega), if_neg (show ¬ 119 + j < 15 by omega), if_neg (show ¬ 119 + j < 71 by omega), if_neg (show ¬ 119 + j < 95 by omega), if_neg (show ¬ 119 + j < 119 by omega), if_pos (show 119 + j < 287 by omega)]
  show M 11 j = M 11 _
  congr 1
  omega
/-- what touches neither what is told nor what is made of it -/
noncomputable def okT (W : List (Nat × Option Int)) : Bool := W.all fun w => decide (16 ≤ w.1 ∧ ¬ (201 ≤ w.1 ∧ w.1 ≤ 203)) || (w.1 == 1 || w.1 == 2)
theorem cs_fr (h9 : fr W M M2) (hw : W.all (fun w => !(3 ≤ w.1 && w.1 ≤ 15)) = true) : cs M2 3 = cs M 3 := by
  have e : ∀ k j, 3 ≤ k → k ≤ 15 → M2 k j = M k j := fun k j h1 h2 => h9 k j (fun hm => by have := List.all_eq_true.mp hw _ hm; simp at this; omega) (fun hm => by have := List.all_eq_true.mp hw _ hm; simp at this; omega)
  funext i
  unfold cs
  rw [e 3 0 (by decide) (by decide), e 3 1 (by decide) (by decide), e 3 2 (by decide) (by decide), e 3 3 (by decide) (by decide), e 3 4 (by decide) (by decide), e 3 5 (by decide) (by decide), e 3 6 (by decide) (by decide), e 3 7 (by decide) (by decide), e (3 + 1) 3 (by decide) (by decide), e (3 + 3) 3 (by decide) (by decide), e (3 + 5) 3 (by decide) (by decide), e (3 + 7) 3 (by decide) (by decide), e (3 + 9) 3 (by decide) (by decide), e (3 + 11) 3 (by decide) (by decide), e (3 + 2) _ (by decide) (by decide), e (3 + 4) _ (by decide) (by decide), e (3 + 6) _ (by decide) (by decide), e (3 + 8) _ (by decide) (by decide), e (3 + 10) _ (by decide) (by decide), e (3 + 12) _ (by decide) (by decide)]
theorem ti_fr (hT : TI N h sp M) (h9 : fr W M M2) (hw : okT W = true) (hc : W.all (fun w => cstL.all (fun q => !(q.1 == w.1 && (w.2 == none || w.2 == some q.2.1)))) = true) : TI N h sp M2 := by
  have e : ∀ k j, (3 ≤ k ∧ k ≤ 15 ∨ 201 ≤ k ∧ k ≤ 203) → M2 k j = M k j := fun k j hk => h9 k j (fun hm => by have := List.all_eq_true.mp hw _ hm; simp at this; omega) (fun hm => by have := List.all_eq_true.mp hw _ hm; simp at this; omega)
  refine ⟨cst_fr hT.1 h9 hc, ?_, fun y y1 y2 => ?_, fun l r l1 l2 r1 r2 => ?_⟩
  · rw [cs_fr h9 (List.all_eq_true.mpr fun w hw9 => by have := List.all_eq_true.mp hw w hw9; simp at this ⊢; omega)]
    exact hT.2.1
  · rw [e 201 y (by omega), e 203 y (by omega)]
    exact hT.2.2.1 y y1 y2
  · rw [e 202 _ (by omega)]
    exact hT.2.2.2 l r l1 l2 r1 r2
end TII
end
/-! 7a02.c2wy -/
section
/-! THE CLASS'S ICE AND WAYS (laid by wip/core/c2.py). -/
theorem and_ir {x y : Int} : gm_ir (gm_and x y) := by
  unfold gm_and gm_ir
  generalize (Int32.ofInt x &&& Int32.ofInt y) = z
  have h := gm_w_toInt z.toInt
  rw [Int32.ofInt_toInt] at h
  rw [h]
  exact ⟨gm_w_lo _, gm_w_hi _⟩
section WY1
variable {X : Int → Int} {LX d bc bs n : Nat} {K : gm_K} {R : gm_R} {M : gm_M} {Q : gm_Q} {lane row year speed l p y x z : Int} {N h : Int → Int} {sp : Int → Int → Int}
theorem ic_heat (hE : E0 n K R) (hT : TI N h sp M) (hN : NR N) (h1 : 0 ≤ year ∧ year < 300) (q0 : Q (.inl (some (gm_vi (h year)))) n K R (M)) : gm_Wp X LX d bc bs 34 0 (gm_ent 34 [gm_vr 200, gm_vi year]) [] n K R M Q := by
  obtain ⟨⟨⟨a0, b0⟩, ⟨a1, b1⟩, ⟨a10, b10⟩, ⟨a11, b11⟩, ⟨a12, b12⟩, a9, b9⟩, ⟨⟨a2, b2⟩, ⟨a5, b5⟩, ⟨a3, b3⟩, ⟨a4, b4⟩, ⟨a6, b6⟩, ⟨a14, b14⟩, ⟨a7, b7⟩, a13, b13⟩, rF, rP, rL⟩ := id hN
  refine gm_sz (gm_p_load (pc := 0) (i := .iload_n 1) (sr := 0) (j := 1) (by decide +kernel) rfl rfl rfl) ?_
  refine fw_iff (cc := .lt) (pc := 1) (off := 19) (by decide +kernel) (by decide) ⟨by omega, by omega⟩ (show ¬ year < 0 by omega) ?_
  refine gm_sz (gm_p_load (pc := 4) (i := .iload_n 1) (sr := 0) (j := 1) (by decide +kernel) rfl rfl rfl) ?_
  refine gm_sz (gm_p_const (pc := 5) (i := .sipush 300) (v := gm_vi 300) (by decide +kernel) (by decide +kernel)) ?_
  refine fw_icf (cc := .ge) (pc := 8) (off := 12) (by decide +kernel) (by decide) ⟨by omega, by omega⟩ ⟨by decide, by decide⟩ (show ¬ 300 ≤ year by omega) ?_
  refine gm_sz (gm_p_load (pc := 11) (i := .aload_n 0) (sr := 2) (j := 0) (by decide +kernel) rfl rfl rfl) ?_
  refine gm_sz (fw_gr (pc := 12) (ix := 9) (ci := 4) (j := 1) (r := 201) (by decide +kernel) (e0k hE (k := 200) (c := 4) (by decide +kernel)) (by decide +kernel) (by decide +kernel) (e0r hE (k := 200) (j := 1) (r := 201) (by decide +kernel))) ?_
  refine gm_sz (gm_p_load (pc := 15) (i := .iload_n 1) (sr := 0) (j := 1) (by decide +kernel) rfl rfl rfl) ?_
  refine gm_sz (fw_ia (pc := 16) (k := 201) (len := 300) (e0 := year) (x := h year) (by decide +kernel) (e0a hE (k := 201) (q := ((0 : Nat), (300 : Nat))) (by decide +kernel)).1 (e0a hE (k := 201) (q := ((0 : Nat), (300 : Nat))) (by decide +kernel)).2 (by decide) ⟨by omega, by omega⟩ ((hT.2.2.1 _ (by omega) (by omega)).1)) ?_
  refine gm_sz (gm_p_goto (pc := 17) (off := 4) (by decide +kernel) (by decide)) ?_
  exact gm_r_int (pc := 21) (by decide +kernel) (Or.inl (by decide +kernel)) q0
theorem ic_flds (hE : E0 n K R) (hT : TI N h sp M) (hN : NR N) (h1 : 0 ≤ year ∧ year < 300) (q0 : Q (.inl (some (gm_vi (M 203 year)))) n K R (M)) : gm_Wp X LX d bc bs 44 0 (gm_ent 44 [gm_vr 200, gm_vi year]) [] n K R M Q := by
  obtain ⟨⟨⟨a0, b0⟩, ⟨a1, b1⟩, ⟨a10, b10⟩, ⟨a11, b11⟩, ⟨a12, b12⟩, a9, b9⟩, ⟨⟨a2, b2⟩, ⟨a5, b5⟩, ⟨a3, b3⟩, ⟨a4, b4⟩, ⟨a6, b6⟩, ⟨a14, b14⟩, ⟨a7, b7⟩, a13, b13⟩, rF, rP, rL⟩ := id hN
  refine gm_sz (gm_p_load (pc := 0) (i := .iload_n 1) (sr := 0) (j := 1) (by decide +kernel) rfl rfl rfl) ?_
  refine fw_iff (cc := .lt) (pc := 1) (off := 19) (by decide +kernel) (by decide) ⟨by omega, by omega⟩ (show ¬ year < 0 by omega) ?_
  refine gm_sz (gm_p_load (pc := 4) (i := .iload_n 1) (sr := 0) (j := 1) (by decide +kernel) rfl rfl rfl) ?_
  refine gm_sz (gm_p_const (pc := 5) (i := .sipush 300) (v := gm_vi 300) (by decide +kernel) (by decide +kernel)) ?_
  refine fw_icf (cc := .ge) (pc := 8) (off := 12) (by decide +kernel) (by decide) ⟨by omega, by omega⟩ ⟨by decide, by decide⟩ (show ¬ 300 ≤ year by omega) ?_
  refine gm_sz (gm_p_load (pc := 11) (i := .aload_n 0) (sr := 2) (j := 0) (by decide +kernel) rfl rfl rfl) ?_
  refine gm_sz (fw_gr (pc := 12) (ix := 18) (ci := 4) (j := 3) (r := 203) (by decide +kernel) (e0k hE (k := 200) (c := 4) (by decide +kernel)) (by decide +kernel) (by decide +kernel) (e0r hE (k := 200) (j := 3) (r := 203) (by decide +kernel))) ?_
  refine gm_sz (gm_p_load (pc := 15) (i := .iload_n 1) (sr := 0) (j := 1) (by decide +kernel) rfl rfl rfl) ?_
  refine gm_sz (fw_ia (pc := 16) (k := 203) (len := 300) (e0 := year) (x := M 203 year) (by decide +kernel) (e0a hE (k := 203) (q := ((0 : Nat), (300 : Nat))) (by decide +kernel)).1 (e0a hE (k := 203) (q := ((0 : Nat), (300 : Nat))) (by decide +kernel)).2 (by decide) ⟨by omega, by omega⟩ rfl) ?_
  refine gm_sz (gm_p_goto (pc := 17) (off := 4) (by decide +kernel) (by decide)) ?_
  exact gm_r_int (pc := 21) (by decide +kernel) (Or.inl (by decide +kernel)) q0
theorem ic_spd (hE : E0 n K R) (hT : TI N h sp M) (hN : NR N) (h1 : 0 ≤ lane ∧ lane < 6) (h2 : 0 ≤ row ∧ row < 99) (q0 : Q (.inl (some (gm_vi (sp lane row)))) n K R (M)) : gm_Wp X LX d bc bs 36 0 (gm_ent 36 [gm_vr 200, gm_vi lane, gm_vi row]) [] n K R M Q := by
  obtain ⟨⟨⟨a0, b0⟩, ⟨a1, b1⟩, ⟨a10, b10⟩, ⟨a11, b11⟩, ⟨a12, b12⟩, a9, b9⟩, ⟨⟨a2, b2⟩, ⟨a5, b5⟩, ⟨a3, b3⟩, ⟨a4, b4⟩, ⟨a6, b6⟩, ⟨a14, b14⟩, ⟨a7, b7⟩, a13, b13⟩, rF, rP, rL⟩ := id hN
  refine gm_sz (gm_p_load (pc := 0) (i := .iload_n 1) (sr := 0) (j := 1) (by decide +kernel) rfl rfl rfl) ?_
  refine gm_sz (gm_p_const (pc := 1) (i := .bipush 99) (v := gm_vi 99) (by decide +kernel) (by decide +kernel)) ?_
  refine gm_sz (gm_p_bin (pc := 3) (i := .imul) (f := fun x y => x * y) (by decide +kernel) rfl) ?_
  refine gm_sz (gm_p_load (pc := 4) (i := .iload_n 2) (sr := 0) (j := 2) (by decide +kernel) rfl rfl rfl) ?_
  refine gm_sz (gm_p_bin (pc := 5) (i := .iadd) (f := fun x y => x + y) (by decide +kernel) rfl) ?_
  refine gm_sz (gm_p_stor (pc := 6) (i := .istore_n 3) (sr := 0) (j := 3) (by decide +kernel) rfl (show 4 ≤ _ from Nat.le_of_ble_eq_true rfl) rfl) ?_
  refine gm_sz (gm_p_load (pc := 7) (i := .iload_n 3) (sr := 0) (j := 3) (by decide +kernel) rfl rfl rfl) ?_
  refine fw_iff (cc := .lt) (pc := 8) (off := 21) (by decide +kernel) (by decide) ⟨by omega, by omega⟩ (show ¬ ((lane * 99) + row) < 0 by omega) ?_
  refine gm_sz (gm_p_load (pc := 11) (i := .iload_n 3) (sr := 0) (j := 3) (by decide +kernel) rfl rfl rfl) ?_
  refine gm_sz (gm_p_load (pc := 12) (i := .aload_n 0) (sr := 2) (j := 0) (by decide +kernel) rfl rfl rfl) ?_
  refine gm_sz (fw_gr (pc := 13) (ix := 15) (ci := 4) (j := 2) (r := 202) (by decide +kernel) (e0k hE (k := 200) (c := 4) (by decide +kernel)) (by decide +kernel) (by decide +kernel) (e0r hE (k := 200) (j := 2) (r := 202) (by decide +kernel))) ?_
  refine gm_sz (fw_al (pc := 16) (k := 202) (len := 594) (by decide +kernel) (e0a hE (k := 202) (q := ((0 : Nat), (594 : Nat))) (by decide +kernel)).1 (e0a hE (k := 202) (q := ((0 : Nat), (594 : Nat))) (by decide +kernel)).2 (by decide)) ?_
  refine fw_icf (cc := .ge) (pc := 17) (off := 12) (by decide +kernel) (by decide) ⟨by omega, by omega⟩ ⟨by decide, by decide⟩ (show ¬ 594 ≤ ((lane * 99) + row) by omega) ?_
  refine gm_sz (gm_p_load (pc := 20) (i := .aload_n 0) (sr := 2) (j := 0) (by decide +kernel) rfl rfl rfl) ?_
  refine gm_sz (fw_gr (pc := 21) (ix := 15) (ci := 4) (j := 2) (r := 202) (by decide +kernel) (e0k hE (k := 200) (c := 4) (by decide +kernel)) (by decide +kernel) (by decide +kernel) (e0r hE (k := 200) (j := 2) (r := 202) (by decide +kernel))) ?_
  refine gm_sz (gm_p_load (pc := 24) (i := .iload_n 3) (sr := 0) (j := 3) (by decide +kernel) rfl rfl rfl) ?_
  refine gm_sz (fw_ia (pc := 25) (k := 202) (len := 594) (e0 := (lane * 99) + row) (x := sp lane row) (by decide +kernel) (e0a hE (k := 202) (q := ((0 : Nat), (594 : Nat))) (by decide +kernel)).1 (e0a hE (k := 202) (q := ((0 : Nat), (594 : Nat))) (by decide +kernel)).2 (by decide) ⟨by omega, by omega⟩ (hT.2.2.2 _ _ (by omega) (by omega) (by omega) (by omega))) ?_
  refine gm_sz (gm_p_goto (pc := 26) (off := 4) (by decide +kernel) (by decide)) ?_
  exact gm_r_int (pc := 30) (by decide +kernel) (Or.inl (by decide +kernel)) q0
theorem ic_sf0 (hd : 1 ≤ d) (hE : E0 n K R) (hT : TI N h sp M) (hN : NR N) (h1 : 0 ≤ lane ∧ lane < 6) (h2 : 0 ≤ year ∧ year < 300) (q0 : lane = 0 → (N 12) ≤ lane → Q (.inl (none)) n K R (gm_uM (gm_uM (gm_uM (gm_uM (gm_uM (gm_uM (gm_uM (gm_uM (gm_uM (gm_uM M 204 0 lane) 204 1 row) 204 2 year) 204 3 (h year)) 204 4 speed) 204 5 0) 204 6 0) 204 7 0) 204 8 1) 204 9 0)) (q1 : lane = 0 → ¬ (N 12) ≤ lane → Q (.inl (none)) n K R (gm_uM (gm_uM (gm_uM (gm_uM (gm_uM (gm_uM (gm_uM (gm_uM (gm_uM (gm_uM M 204 0 lane) 204 1 row) 204 2 year) 204 3 (h year)) 204 4 speed) 204 5 0) 204 6 0) 204 7 0) 204 8 1) 204 9 1)) (q2 : ¬ lane = 0 → ¬ lane = ((N 0) - 1) → (N 12) ≤ lane → Q (.inl (none)) n K R (gm_uM (gm_uM (gm_uM (gm_uM (gm_uM (gm_uM (gm_uM (gm_uM (gm_uM (gm_uM M 204 0 lane) 204 1 row) 204 2 year) 204 3 (h year)) 204 4 speed) 204 5 0) 204 6 0) 204 7 0) 204 8 0) 204 9 0)) (q3 : ¬ lane = 0 → ¬ lane = ((N 0) - 1) → ¬ (N 12) ≤ lane → Q (.inl (none)) n K R (gm_uM (gm_uM (gm_uM (gm_uM (gm_uM (gm_uM (gm_uM (gm_uM (gm_uM (gm_uM M 204 0 lane) 204 1 row) 204 2 year) 204 3 (h year)) 204 4 speed) 204 5 0) 204 6 0) 204 7 0) 204 8 0) 204 9 1)) (q4 : ¬ lane = 0 → lane = ((N 0) - 1) → (N 12) ≤ lane → Q (.inl (none)) n K R (gm_uM (gm_uM (gm_uM (gm_uM (gm_uM (gm_uM (gm_uM (gm_uM (gm_uM (gm_uM M 204 0 lane) 204 1 row) 204 2 year) 204 3 (h year)) 204 4 speed) 204 5 0) 204 6 0) 204 7 0) 204 8 1) 204 9 0)) (q5 : ¬ lane = 0 → lane = ((N 0) - 1) → ¬ (N 12) ≤ lane → Q (.inl (none)) n K R (gm_uM (gm_uM (gm_uM (gm_uM (gm_uM (gm_uM (gm_uM (gm_uM (gm_uM (gm_uM M 204 0 lane) 204 1 row) 204 2 year) 204 3 (h year)) 204 4 speed) 204 5 0) 204 6 0) 204 7 0) 204 8 1) 204 9 1)) : gm_Wp X LX d bc bs 39 0 (gm_ent 39 [gm_vr 200, gm_vi lane, gm_vi row, gm_vi year, gm_vi speed]) [] n K R M Q := by
  obtain ⟨⟨⟨a0, b0⟩, ⟨a1, b1⟩, ⟨a10, b10⟩, ⟨a11, b11⟩, ⟨a12, b12⟩, a9, b9⟩, ⟨⟨a2, b2⟩, ⟨a5, b5⟩, ⟨a3, b3⟩, ⟨a4, b4⟩, ⟨a6, b6⟩, ⟨a14, b14⟩, ⟨a7, b7⟩, a13, b13⟩, rF, rP, rL⟩ := id hN
  refine gm_sz (gm_p_load (pc := 0) (i := .aload_n 0) (sr := 2) (j := 0) (by decide +kernel) rfl rfl rfl) ?_
  refine gm_sz (fw_gr (pc := 1) (ix := 23) (ci := 4) (j := 4) (r := 204) (by decide +kernel) (e0k hE (k := 200) (c := 4) (by decide +kernel)) (by decide +kernel) (by decide +kernel) (e0r hE (k := 200) (j := 4) (r := 204) (by decide +kernel))) ?_
  refine gm_sz (gm_p_const (pc := 4) (i := .iconst 0) (v := gm_vi 0) (by decide +kernel) (by decide +kernel)) ?_
  refine gm_sz (gm_p_load (pc := 5) (i := .iload_n 1) (sr := 0) (j := 1) (by decide +kernel) rfl rfl rfl) ?_
  refine gm_sz (fw_is (pc := 6) (k := 204) (len := 10) (e0 := 0) (x := lane) (M' := gm_uM M 204 0 lane) (by decide +kernel) (e0a hE (k := 204) (q := ((0 : Nat), (10 : Nat))) (by decide +kernel)).1 (e0a hE (k := 204) (q := ((0 : Nat), (10 : Nat))) (by decide +kernel)).2 (by decide) ⟨by omega, by omega⟩ rfl) ?_
  refine gm_sz (gm_p_load (pc := 7) (i := .aload_n 0) (sr := 2) (j := 0) (by decide +kernel) rfl rfl rfl) ?_
  refine gm_sz (fw_gr (pc := 8) (ix := 23) (ci := 4) (j := 4) (r := 204) (by decide +kernel) (e0k hE (k := 200) (c := 4) (by decide +kernel)) (by decide +kernel) (by decide +kernel) (e0r hE (k := 200) (j := 4) (r := 204) (by decide +kernel))) ?_
  refine gm_sz (gm_p_const (pc := 11) (i := .iconst 1) (v := gm_vi 1) (by decide +kernel) (by decide +kernel)) ?_
  refine gm_sz (gm_p_load (pc := 12) (i := .iload_n 2) (sr := 0) (j := 2) (by decide +kernel) rfl rfl rfl) ?_
  refine gm_sz (fw_is (pc := 13) (k := 204) (len := 10) (e0 := 1) (x := row) (M' := gm_uM (gm_uM M 204 0 lane) 204 1 row) (by decide +kernel) (e0a hE (k := 204) (q := ((0 : Nat), (10 : Nat))) (by decide +kernel)).1 (e0a hE (k := 204) (q := ((0 : Nat), (10 : Nat))) (by decide +kernel)).2 (by decide) ⟨by omega, by omega⟩ rfl) ?_
  refine gm_sz (gm_p_load (pc := 14) (i := .aload_n 0) (sr := 2) (j := 0) (by decide +kernel) rfl rfl rfl) ?_
  refine gm_sz (fw_gr (pc := 15) (ix := 23) (ci := 4) (j := 4) (r := 204) (by decide +kernel) (e0k hE (k := 200) (c := 4) (by decide +kernel)) (by decide +kernel) (by decide +kernel) (e0r hE (k := 200) (j := 4) (r := 204) (by decide +kernel))) ?_
  refine gm_sz (gm_p_const (pc := 18) (i := .iconst 2) (v := gm_vi 2) (by decide +kernel) (by decide +kernel)) ?_
  refine gm_sz (gm_p_load (pc := 19) (i := .iload_n 3) (sr := 0) (j := 3) (by decide +kernel) rfl rfl rfl) ?_
  refine gm_sz (fw_is (pc := 20) (k := 204) (len := 10) (e0 := 2) (x := year) (M' := gm_uM (gm_uM (gm_uM M 204 0 lane) 204 1 row) 204 2 year) (by decide +kernel) (e0a hE (k := 204) (q := ((0 : Nat), (10 : Nat))) (by decide +kernel)).1 (e0a hE (k := 204) (q := ((0 : Nat), (10 : Nat))) (by decide +kernel)).2 (by decide) ⟨by omega, by omega⟩ rfl) ?_
  refine gm_sz (gm_p_load (pc := 21) (i := .aload_n 0) (sr := 2) (j := 0) (by decide +kernel) rfl rfl rfl) ?_
  refine gm_sz (fw_gr (pc := 22) (ix := 23) (ci := 4) (j := 4) (r := 204) (by decide +kernel) (e0k hE (k := 200) (c := 4) (by decide +kernel)) (by decide +kernel) (by decide +kernel) (e0r hE (k := 200) (j := 4) (r := 204) (by decide +kernel))) ?_
  refine gm_sz (gm_p_const (pc := 25) (i := .iconst 3) (v := gm_vi 3) (by decide +kernel) (by decide +kernel)) ?_
  refine gm_sz (gm_p_load (pc := 26) (i := .aload_n 0) (sr := 2) (j := 0) (by decide +kernel) rfl rfl rfl) ?_
  refine gm_sz (gm_p_load (pc := 27) (i := .iload_n 3) (sr := 0) (j := 3) (by decide +kernel) rfl rfl rfl) ?_
  refine gm_c_virt (k := 200) (ci := 4) (mj := 34) (ix := 123) (pc := 28) (as := [gm_vi year]) (st := [gm_vi 3, gm_vr 204]) (d' := d - 1) (bc' := 0) (bs' := 0) (by decide +kernel) (by decide +kernel) (by decide +kernel) (by decide +kernel) (e0k hE (k := 200) (c := 4) (by decide +kernel)).1 (e0k hE (k := 200) (c := 4) (by decide +kernel)).2 (by decide) (by decide +kernel) (show 1 = gm_na 34 by decide +kernel) (fw_c1 fw_si) (show 2 ≤ gm_ml 34 by decide +kernel) (Nat.le_of_ble_eq_true rfl) (by omega) (Nat.zero_le _) (Nat.zero_le _) ?_
  refine ic_heat hE (ti_fr (W := [((204 : Nat), some (0 : Int)), ((204 : Nat), some (1 : Int)), ((204 : Nat), some (2 : Int))]) hT (fr_p (fr_p (fr_p fr_0 (Or.inr (by decide))) (Or.inr (by decide))) (Or.inr (by decide))) (by decide) (by decide +kernel)) hN ⟨by omega, by omega⟩ ?_
  show gm_Wp X LX d _ _ 39 31 _ [gm_vi (h year), gm_vi 3, gm_vr 204] n K _ _ Q
  refine gm_sz (fw_is (pc := 31) (k := 204) (len := 10) (e0 := 3) (x := h year) (M' := gm_uM (gm_uM (gm_uM (gm_uM M 204 0 lane) 204 1 row) 204 2 year) 204 3 (h year)) (by decide +kernel) (e0a hE (k := 204) (q := ((0 : Nat), (10 : Nat))) (by decide +kernel)).1 (e0a hE (k := 204) (q := ((0 : Nat), (10 : Nat))) (by decide +kernel)).2 (by decide) ⟨by omega, by omega⟩ rfl) ?_
  refine gm_sz (gm_p_load (pc := 32) (i := .aload_n 0) (sr := 2) (j := 0) (by decide +kernel) rfl rfl rfl) ?_
  refine gm_sz (fw_gr (pc := 33) (ix := 23) (ci := 4) (j := 4) (r := 204) (by decide +kernel) (e0k hE (k := 200) (c := 4) (by decide +kernel)) (by decide +kernel) (by decide +kernel) (e0r hE (k := 200) (j := 4) (r := 204) (by decide +kernel))) ?_
  refine gm_sz (gm_p_const (pc := 36) (i := .iconst 4) (v := gm_vi 4) (by decide +kernel) (by decide +kernel)) ?_
  refine gm_sz (gm_p_load (pc := 37) (i := .iload 4) (sr := 0) (j := 4) (by decide +kernel) rfl rfl rfl) ?_
  refine gm_sz (fw_is (pc := 39) (k := 204) (len := 10) (e0 := 4) (x := speed) (M' := gm_uM (gm_uM (gm_uM (gm_uM (gm_uM M 204 0 lane) 204 1 row) 204 2 year) 204 3 (h year)) 204 4 speed) (by decide +kernel) (e0a hE (k := 204) (q := ((0 : Nat), (10 : Nat))) (by decide +kernel)).1 (e0a hE (k := 204) (q := ((0 : Nat), (10 : Nat))) (by decide +kernel)).2 (by decide) ⟨by omega, by omega⟩ rfl) ?_
  refine gm_sz (gm_p_load (pc := 40) (i := .aload_n 0) (sr := 2) (j := 0) (by decide +kernel) rfl rfl rfl) ?_
  refine gm_sz (fw_gr (pc := 41) (ix := 23) (ci := 4) (j := 4) (r := 204) (by decide +kernel) (e0k hE (k := 200) (c := 4) (by decide +kernel)) (by decide +kernel) (by decide +kernel) (e0r hE (k := 200) (j := 4) (r := 204) (by decide +kernel))) ?_
  refine gm_sz (gm_p_const (pc := 44) (i := .iconst 5) (v := gm_vi 5) (by decide +kernel) (by decide +kernel)) ?_
  refine gm_sz (gm_p_const (pc := 45) (i := .iconst 0) (v := gm_vi 0) (by decide +kernel) (by decide +kernel)) ?_
  refine gm_sz (fw_is (pc := 46) (k := 204) (len := 10) (e0 := 5) (x := 0) (M' := gm_uM (gm_uM (gm_uM (gm_uM (gm_uM (gm_uM M 204 0 lane) 204 1 row) 204 2 year) 204 3 (h year)) 204 4 speed) 204 5 0) (by decide +kernel) (e0a hE (k := 204) (q := ((0 : Nat), (10 : Nat))) (by decide +kernel)).1 (e0a hE (k := 204) (q := ((0 : Nat), (10 : Nat))) (by decide +kernel)).2 (by decide) ⟨by omega, by omega⟩ rfl) ?_
  refine gm_sz (gm_p_load (pc := 47) (i := .aload_n 0) (sr := 2) (j := 0) (by decide +kernel) rfl rfl rfl) ?_
  refine gm_sz (fw_gr (pc := 48) (ix := 23) (ci := 4) (j := 4) (r := 204) (by decide +kernel) (e0k hE (k := 200) (c := 4) (by decide +kernel)) (by decide +kernel) (by decide +kernel) (e0r hE (k := 200) (j := 4) (r := 204) (by decide +kernel))) ?_
  refine gm_sz (gm_p_const (pc := 51) (i := .bipush 6) (v := gm_vi 6) (by decide +kernel) (by decide +kernel)) ?_
  refine gm_sz (gm_p_const (pc := 53) (i := .iconst 0) (v := gm_vi 0) (by decide +kernel) (by decide +kernel)) ?_
  refine gm_sz (fw_is (pc := 54) (k := 204) (len := 10) (e0 := 6) (x := 0) (M' := gm_uM (gm_uM (gm_uM (gm_uM (gm_uM (gm_uM (gm_uM M 204 0 lane) 204 1 row) 204 2 year) 204 3 (h year)) 204 4 speed) 204 5 0) 204 6 0) (by decide +kernel) (e0a hE (k := 204) (q := ((0 : Nat), (10 : Nat))) (by decide +kernel)).1 (e0a hE (k := 204) (q := ((0 : Nat), (10 : Nat))) (by decide +kernel)).2 (by decide) ⟨by omega, by omega⟩ rfl) ?_
  refine gm_sz (gm_p_load (pc := 55) (i := .aload_n 0) (sr := 2) (j := 0) (by decide +kernel) rfl rfl rfl) ?_
  refine gm_sz (fw_gr (pc := 56) (ix := 23) (ci := 4) (j := 4) (r := 204) (by decide +kernel) (e0k hE (k := 200) (c := 4) (by decide +kernel)) (by decide +kernel) (by decide +kernel) (e0r hE (k := 200) (j := 4) (r := 204) (by decide +kernel))) ?_
  refine gm_sz (gm_p_const (pc := 59) (i := .bipush 7) (v := gm_vi 7) (by decide +kernel) (by decide +kernel)) ?_
  refine gm_sz (gm_p_const (pc := 61) (i := .iconst 0) (v := gm_vi 0) (by decide +kernel) (by decide +kernel)) ?_
  refine gm_sz (fw_is (pc := 62) (k := 204) (len := 10) (e0 := 7) (x := 0) (M' := gm_uM (gm_uM (gm_uM (gm_uM (gm_uM (gm_uM (gm_uM (gm_uM M 204 0 lane) 204 1 row) 204 2 year) 204 3 (h year)) 204 4 speed) 204 5 0) 204 6 0) 204 7 0) (by decide +kernel) (e0a hE (k := 204) (q := ((0 : Nat), (10 : Nat))) (by decide +kernel)).1 (e0a hE (k := 204) (q := ((0 : Nat), (10 : Nat))) (by decide +kernel)).2 (by decide) ⟨by omega, by omega⟩ rfl) ?_
  refine gm_sz (gm_p_load (pc := 63) (i := .aload_n 0) (sr := 2) (j := 0) (by decide +kernel) rfl rfl rfl) ?_
  refine gm_sz (fw_gr (pc := 64) (ix := 23) (ci := 4) (j := 4) (r := 204) (by decide +kernel) (e0k hE (k := 200) (c := 4) (by decide +kernel)) (by decide +kernel) (by decide +kernel) (e0r hE (k := 200) (j := 4) (r := 204) (by decide +kernel))) ?_
  refine gm_sz (gm_p_const (pc := 67) (i := .bipush 8) (v := gm_vi 8) (by decide +kernel) (by decide +kernel)) ?_
  refine gm_sz (gm_p_load (pc := 69) (i := .iload_n 1) (sr := 0) (j := 1) (by decide +kernel) rfl rfl rfl) ?_
  refine fw_if (cc := .eq) (pc := 70) (off := 16) (by decide +kernel) (by decide) ⟨by omega, by omega⟩ (fun h70 => ?_) (fun h70 => ?_)
  · have h70 : lane = 0 := h70
    refine gm_sz (gm_p_const (pc := 86) (i := .iconst 1) (v := gm_vi 1) (by decide +kernel) (by decide +kernel)) ?_
    refine gm_sz (gm_p_goto (pc := 87) (off := 4) (by decide +kernel) (by decide)) ?_
    refine gm_sz (fw_is (pc := 91) (k := 204) (len := 10) (e0 := 8) (x := 1) (M' := gm_uM (gm_uM (gm_uM (gm_uM (gm_uM (gm_uM (gm_uM (gm_uM (gm_uM M 204 0 lane) 204 1 row) 204 2 year) 204 3 (h year)) 204 4 speed) 204 5 0) 204 6 0) 204 7 0) 204 8 1) (by decide +kernel) (e0a hE (k := 204) (q := ((0 : Nat), (10 : Nat))) (by decide +kernel)).1 (e0a hE (k := 204) (q := ((0 : Nat), (10 : Nat))) (by decide +kernel)).2 (by decide) ⟨by omega, by omega⟩ rfl) ?_
    refine gm_sz (gm_p_load (pc := 92) (i := .aload_n 0) (sr := 2) (j := 0) (by decide +kernel) rfl rfl rfl) ?_
    refine gm_sz (fw_gr (pc := 93) (ix := 23) (ci := 4) (j := 4) (r := 204) (by decide +kernel) (e0k hE (k := 200) (c := 4) (by decide +kernel)) (by decide +kernel) (by decide +kernel) (e0r hE (k := 200) (j := 4) (r := 204) (by decide +kernel))) ?_
    refine gm_sz (gm_p_const (pc := 96) (i := .bipush 9) (v := gm_vi 9) (by decide +kernel) (by decide +kernel)) ?_
    refine gm_sz (gm_p_load (pc := 98) (i := .iload_n 1) (sr := 0) (j := 1) (by decide +kernel) rfl rfl rfl) ?_
    refine gm_sz (gm_p_load (pc := 99) (i := .aload_n 0) (sr := 2) (j := 0) (by decide +kernel) rfl rfl rfl) ?_
    refine gm_sz (fw_gr (pc := 100) (ix := 34) (ci := 4) (j := 0) (r := 3) (by decide +kernel) (e0k hE (k := 200) (c := 4) (by decide +kernel)) (by decide +kernel) (by decide +kernel) (e0r hE (k := 200) (j := 0) (r := 3) (by decide +kernel))) ?_
    refine gm_sz (fw_gi (pc := 103) (ix := 126) (ci := 1) (j := 4) (x := N 12) (by decide +kernel) (e0k hE (k := 3) (c := 1) (by decide +kernel)) (by decide +kernel) (by decide +kernel) ((uM_ne (by omega)).trans ((uM_ne (by omega)).trans ((uM_ne (by omega)).trans ((uM_ne (by omega)).trans ((uM_ne (by omega)).trans ((uM_ne (by omega)).trans ((uM_ne (by omega)).trans ((uM_ne (by omega)).trans ((uM_ne (by omega)).trans (ti_str hT))))))))))) ?_
    refine fw_ic (cc := .ge) (pc := 106) (off := 7) (by decide +kernel) (by decide) ⟨by omega, by omega⟩ ⟨by omega, by omega⟩ (fun h106 => ?_) (fun h106 => ?_)
    · have h106 : (N 12) ≤ lane := h106
      refine gm_sz (gm_p_const (pc := 113) (i := .iconst 0) (v := gm_vi 0) (by decide +kernel) (by decide +kernel)) ?_
      refine gm_sz (fw_is (pc := 114) (k := 204) (len := 10) (e0 := 9) (x := 0) (M' := gm_uM (gm_uM (gm_uM (gm_uM (gm_uM (gm_uM (gm_uM (gm_uM (gm_uM (gm_uM M 204 0 lane) 204 1 row) 204 2 year) 204 3 (h year)) 204 4 speed) 204 5 0) 204 6 0) 204 7 0) 204 8 1) 204 9 0) (by decide +kernel) (e0a hE (k := 204) (q := ((0 : Nat), (10 : Nat))) (by decide +kernel)).1 (e0a hE (k := 204) (q := ((0 : Nat), (10 : Nat))) (by decide +kernel)).2 (by decide) ⟨by omega, by omega⟩ rfl) ?_
      exact gm_r_void (pc := 115) (by decide +kernel) (by decide +kernel) (q0 h70 h106)
    · have h106 : ¬ (N 12) ≤ lane := h106
      refine gm_sz (gm_p_const (pc := 109) (i := .iconst 1) (v := gm_vi 1) (by decide +kernel) (by decide +kernel)) ?_
      refine gm_sz (gm_p_goto (pc := 110) (off := 4) (by decide +kernel) (by decide)) ?_
      refine gm_sz (fw_is (pc := 114) (k := 204) (len := 10) (e0 := 9) (x := 1) (M' := gm_uM (gm_uM (gm_uM (gm_uM (gm_uM (gm_uM (gm_uM (gm_uM (gm_uM (gm_uM M 204 0 lane) 204 1 row) 204 2 year) 204 3 (h year)) 204 4 speed) 204 5 0) 204 6 0) 204 7 0) 204 8 1) 204 9 1) (by decide +kernel) (e0a hE (k := 204) (q := ((0 : Nat), (10 : Nat))) (by decide +kernel)).1 (e0a hE (k := 204) (q := ((0 : Nat), (10 : Nat))) (by decide +kernel)).2 (by decide) ⟨by omega, by omega⟩ rfl) ?_
      exact gm_r_void (pc := 115) (by decide +kernel) (by decide +kernel) (q1 h70 h106)
  · have h70 : ¬ lane = 0 := h70
    refine gm_sz (gm_p_load (pc := 73) (i := .iload_n 1) (sr := 0) (j := 1) (by decide +kernel) rfl rfl rfl) ?_
    refine gm_sz (gm_p_load (pc := 74) (i := .aload_n 0) (sr := 2) (j := 0) (by decide +kernel) rfl rfl rfl) ?_
    refine gm_sz (fw_gr (pc := 75) (ix := 34) (ci := 4) (j := 0) (r := 3) (by decide +kernel) (e0k hE (k := 200) (c := 4) (by decide +kernel)) (by decide +kernel) (by decide +kernel) (e0r hE (k := 200) (j := 0) (r := 3) (by decide +kernel))) ?_
    refine gm_sz (fw_gi (pc := 78) (ix := 82) (ci := 1) (j := 0) (x := N 0) (by decide +kernel) (e0k hE (k := 3) (c := 1) (by decide +kernel)) (by decide +kernel) (by decide +kernel) ((uM_ne (by omega)).trans ((uM_ne (by omega)).trans ((uM_ne (by omega)).trans ((uM_ne (by omega)).trans ((uM_ne (by omega)).trans ((uM_ne (by omega)).trans ((uM_ne (by omega)).trans ((uM_ne (by omega)).trans (ti_lan hT)))))))))) ?_
    refine gm_sz (gm_p_const (pc := 81) (i := .iconst 1) (v := gm_vi 1) (by decide +kernel) (by decide +kernel)) ?_
    refine gm_sz (gm_p_bin (pc := 82) (i := .isub) (f := fun x y => x - y) (by decide +kernel) rfl) ?_
    refine fw_ic (cc := .ne) (pc := 83) (off := 7) (by decide +kernel) (by decide) ⟨by omega, by omega⟩ ⟨by omega, by omega⟩ (fun h83 => ?_) (fun h83 => ?_)
    · have h83 : ¬ lane = ((N 0) - 1) := h83
      refine gm_sz (gm_p_const (pc := 90) (i := .iconst 0) (v := gm_vi 0) (by decide +kernel) (by decide +kernel)) ?_
      refine gm_sz (fw_is (pc := 91) (k := 204) (len := 10) (e0 := 8) (x := 0) (M' := gm_uM (gm_uM (gm_uM (gm_uM (gm_uM (gm_uM (gm_uM (gm_uM (gm_uM M 204 0 lane) 204 1 row) 204 2 year) 204 3 (h year)) 204 4 speed) 204 5 0) 204 6 0) 204 7 0) 204 8 0) (by decide +kernel) (e0a hE (k := 204) (q := ((0 : Nat), (10 : Nat))) (by decide +kernel)).1 (e0a hE (k := 204) (q := ((0 : Nat), (10 : Nat))) (by decide +kernel)).2 (by decide) ⟨by omega, by omega⟩ rfl) ?_
      refine gm_sz (gm_p_load (pc := 92) (i := .aload_n 0) (sr := 2) (j := 0) (by decide +kernel) rfl rfl rfl) ?_
      refine gm_sz (fw_gr (pc := 93) (ix := 23) (ci := 4) (j := 4) (r := 204) (by decide +kernel) (e0k hE (k := 200) (c := 4) (by decide +kernel)) (by decide +kernel) (by decide +kernel) (e0r hE (k := 200) (j := 4) (r := 204) (by decide +kernel))) ?_
      refine gm_sz (gm_p_const (pc := 96) (i := .bipush 9) (v := gm_vi 9) (by decide +kernel) (by decide +kernel)) ?_
      refine gm_sz (gm_p_load (pc := 98) (i := .iload_n 1) (sr := 0) (j := 1) (by decide +kernel) rfl rfl rfl) ?_
      refine gm_sz (gm_p_load (pc := 99) (i := .aload_n 0) (sr := 2) (j := 0) (by decide +kernel) rfl rfl rfl) ?_
      refine gm_sz (fw_gr (pc := 100) (ix := 34) (ci := 4) (j := 0) (r := 3) (by decide +kernel) (e0k hE (k := 200) (c := 4) (by decide +kernel)) (by decide +kernel) (by decide +kernel) (e0r hE (k := 200) (j := 0) (r := 3) (by decide +kernel))) ?_
      refine gm_sz (fw_gi (pc := 103) (ix := 126) (ci := 1) (j := 4) (x := N 12) (by decide +kernel) (e0k hE (k := 3) (c := 1) (by decide +kernel)) (by decide +kernel) (by decide +kernel) ((uM_ne (by omega)).trans ((uM_ne (by omega)).trans ((uM_ne (by omega)).trans ((uM_ne (by omega)).trans ((uM_ne (by omega)).trans ((uM_ne (by omega)).trans ((uM_ne (by omega)).trans ((uM_ne (by omega)).trans ((uM_ne (by omega)).trans (ti_str hT))))))))))) ?_
      refine fw_ic (cc := .ge) (pc := 106) (off := 7) (by decide +kernel) (by decide) ⟨by omega, by omega⟩ ⟨by omega, by omega⟩ (fun h106 => ?_) (fun h106 => ?_)
      · have h106 : (N 12) ≤ lane := h106
        refine gm_sz (gm_p_const (pc := 113) (i := .iconst 0) (v := gm_vi 0) (by decide +kernel) (by decide +kernel)) ?_
        refine gm_sz (fw_is (pc := 114) (k := 204) (len := 10) (e0 := 9) (x := 0) (M' := gm_uM (gm_uM (gm_uM (gm_uM (gm_uM (gm_uM (gm_uM (gm_uM (gm_uM (gm_uM M 204 0 lane) 204 1 row) 204 2 year) 204 3 (h year)) 204 4 speed) 204 5 0) 204 6 0) 204 7 0) 204 8 0) 204 9 0) (by decide +kernel) (e0a hE (k := 204) (q := ((0 : Nat), (10 : Nat))) (by decide +kernel)).1 (e0a hE (k := 204) (q := ((0 : Nat), (10 : Nat))) (by decide +kernel)).2 (by decide) ⟨by omega, by omega⟩ rfl) ?_
        exact gm_r_void (pc := 115) (by decide +kernel) (by decide +kernel) (q2 h70 h83 h106)
      · have h106 : ¬ (N 12) ≤ lane := h106
        refine gm_sz (gm_p_const (pc := 109) (i := .iconst 1) (v := gm_vi 1) (by decide +kernel) (by decide +kernel)) ?_
        refine gm_sz (gm_p_goto (pc := 110) (off := 4) (by decide +kernel) (by decide)) ?_
        refine gm_sz (fw_is (pc := 114) (k := 204) (len := 10) (e0 := 9) (x := 1) (M' := gm_uM (gm_uM (gm_uM (gm_uM (gm_uM (gm_uM (gm_uM (gm_uM (gm_uM (gm_uM M 204 0 lane) 204 1 row) 204 2 year) 204 3 (h year)) 204 4 speed) 204 5 0) 204 6 0) 204 7 0) 204 8 0) 204 9 1) (by decide +kernel) (e0a hE (k := 204) (q := ((0 : Nat), (10 : Nat))) (by decide +kernel)).1 (e0a hE (k := 204) (q := ((0 : Nat), (10 : Nat))) (by decide +kernel)).2 (by decide) ⟨by omega, by omega⟩ rfl) ?_
        exact gm_r_void (pc := 115) (by decide +kernel) (by decide +kernel) (q3 h70 h83 h106)
    · have h83 : lane = ((N 0) - 1) := Classical.not_not.mp h83
      refine gm_sz (gm_p_const (pc := 86) (i := .iconst 1) (v := gm_vi 1) (by decide +kernel) (by decide +kernel)) ?_
      refine gm_sz (gm_p_goto (pc := 87) (off := 4) (by decide +kernel) (by decide)) ?_
      refine gm_sz (fw_is (pc := 91) (k := 204) (len := 10) (e0 := 8) (x := 1) (M' := gm_uM (gm_uM (gm_uM (gm_uM (gm_uM (gm_uM (gm_uM (gm_uM (gm_uM M 204 0 lane) 204 1 row) 204 2 year) 204 3 (h year)) 204 4 speed) 204 5 0) 204 6 0) 204 7 0) 204 8 1) (by decide +kernel) (e0a hE (k := 204) (q := ((0 : Nat), (10 : Nat))) (by decide +kernel)).1 (e0a hE (k := 204) (q := ((0 : Nat), (10 : Nat))) (by decide +kernel)).2 (by decide) ⟨by omega, by omega⟩ rfl) ?_
      refine gm_sz (gm_p_load (pc := 92) (i := .aload_n 0) (sr := 2) (j := 0) (by decide +kernel) rfl rfl rfl) ?_
      refine gm_sz (fw_gr (pc := 93) (ix := 23) (ci := 4) (j := 4) (r := 204) (by decide +kernel) (e0k hE (k := 200) (c := 4) (by decide +kernel)) (by decide +kernel) (by decide +kernel) (e0r hE (k := 200) (j := 4) (r := 204) (by decide +kernel))) ?_
      refine gm_sz (gm_p_const (pc := 96) (i := .bipush 9) (v := gm_vi 9) (by decide +kernel) (by decide +kernel)) ?_
      refine gm_sz (gm_p_load (pc := 98) (i := .iload_n 1) (sr := 0) (j := 1) (by decide +kernel) rfl rfl rfl) ?_
      refine gm_sz (gm_p_load (pc := 99) (i := .aload_n 0) (sr := 2) (j := 0) (by decide +kernel) rfl rfl rfl) ?_
      refine gm_sz (fw_gr (pc := 100) (ix := 34) (ci := 4) (j := 0) (r := 3) (by decide +kernel) (e0k hE (k := 200) (c := 4) (by decide +kernel)) (by decide +kernel) (by decide +kernel) (e0r hE (k := 200) (j := 0) (r := 3) (by decide +kernel))) ?_
      refine gm_sz (fw_gi (pc := 103) (ix := 126) (ci := 1) (j := 4) (x := N 12) (by decide +kernel) (e0k hE (k := 3) (c := 1) (by decide +kernel)) (by decide +kernel) (by decide +kernel) ((uM_ne (by omega)).trans ((uM_ne (by omega)).trans ((uM_ne (by omega)).trans ((uM_ne (by omega)).trans ((uM_ne (by omega)).trans ((uM_ne (by omega)).trans ((uM_ne (by omega)).trans ((uM_ne (by omega)).trans ((uM_ne (by omega)).trans (ti_str hT))))))))))) ?_
      refine fw_ic (cc := .ge) (pc := 106) (off := 7) (by decide +kernel) (by decide) ⟨by omega, by omega⟩ ⟨by omega, by omega⟩ (fun h106 => ?_) (fun h106 => ?_)
      · have h106 : (N 12) ≤ lane := h106
        refine gm_sz (gm_p_const (pc := 113) (i := .iconst 0) (v := gm_vi 0) (by decide +kernel) (by decide +kernel)) ?_
        refine gm_sz (fw_is (pc := 114) (k := 204) (len := 10) (e0 := 9) (x := 0) (M' := gm_uM (gm_uM (gm_uM (gm_uM (gm_uM (gm_uM (gm_uM (gm_uM (gm_uM (gm_uM M 204 0 lane) 204 1 row) 204 2 year) 204 3 (h year)) 204 4 speed) 204 5 0) 204 6 0) 204 7 0) 204 8 1) 204 9 0) (by decide +kernel) (e0a hE (k := 204) (q := ((0 : Nat), (10 : Nat))) (by decide +kernel)).1 (e0a hE (k := 204) (q := ((0 : Nat), (10 : Nat))) (by decide +kernel)).2 (by decide) ⟨by omega, by omega⟩ rfl) ?_
        exact gm_r_void (pc := 115) (by decide +kernel) (by decide +kernel) (q4 h70 h83 h106)
      · have h106 : ¬ (N 12) ≤ lane := h106
        refine gm_sz (gm_p_const (pc := 109) (i := .iconst 1) (v := gm_vi 1) (by decide +kernel) (by decide +kernel)) ?_
        refine gm_sz (gm_p_goto (pc := 110) (off := 4) (by decide +kernel) (by decide)) ?_
        refine gm_sz (fw_is (pc := 114) (k := 204) (len := 10) (e0 := 9) (x := 1) (M' := gm_uM (gm_uM (gm_uM (gm_uM (gm_uM (gm_uM (gm_uM (gm_uM (gm_uM (gm_uM M 204 0 lane) 204 1 row) 204 2 year) 204 3 (h year)) 204 4 speed) 204 5 0) 204 6 0) 204 7 0) 204 8 1) 204 9 1) (by decide +kernel) (e0a hE (k := 204) (q := ((0 : Nat), (10 : Nat))) (by decide +kernel)).1 (e0a hE (k := 204) (q := ((0 : Nat), (10 : Nat))) (by decide +kernel)).2 (by decide) ⟨by omega, by omega⟩ rfl) ?_
        exact gm_r_void (pc := 115) (by decide +kernel) (by decide +kernel) (q5 h70 h83 h106)
noncomputable def ic_fa (M : gm_M) (N h : Int → Int) (lane row year speed : Int) : gm_M := gm_uM (gm_uM (gm_uM (gm_uM (gm_uM (gm_uM (gm_uM (gm_uM (gm_uM (gm_uM M 204 0 lane) 204 1 row) 204 2 year) 204 3 (h year)) 204 4 speed) 204 5 0) 204 6 0) 204 7 0) 204 8 (if lane = 0 ∨ lane = N 0 - 1 then 1 else 0)) 204 9 (if lane < N 12 then 1 else 0)
theorem ic_sf (hd : 1 ≤ d) (hE : E0 n K R) (hT : TI N h sp M) (hN : NR N) (h1 : 0 ≤ lane ∧ lane < 6) (h2 : 0 ≤ year ∧ year < 300) (hq : Q (.inl none) n K R (ic_fa M N h lane row year speed)) : gm_Wp X LX d bc bs 39 0 (gm_ent 39 [gm_vr 200, gm_vi lane, gm_vi row, gm_vi year, gm_vi speed]) [] n K R M Q := by
  unfold ic_fa at hq
  refine ic_sf0 hd hE hT hN h1 h2 (fun g0 g1 => ?_) (fun g0 g1 => ?_) (fun g0 g1 g2 => ?_) (fun g0 g1 g2 => ?_) (fun g0 g1 g2 => ?_) (fun g0 g1 g2 => ?_)
  · rw [if_pos (by omega), if_neg (by omega)] at hq
    exact hq
  · rw [if_pos (by omega), if_pos (by omega)] at hq
    exact hq
  · rw [if_neg (by omega), if_neg (by omega)] at hq
    exact hq
  · rw [if_neg (by omega), if_pos (by omega)] at hq
    exact hq
  · rw [if_pos (by omega), if_neg (by omega)] at hq
    exact hq
  · rw [if_pos (by omega), if_pos (by omega)] at hq
    exact hq
theorem wy_out206 (hE : E0 n K R) (hT : TI N h sp M) (hN : NR N) (h1 : gm_ir (M 206 5)) (q0 : (M 206 5) < (N 1) → Q (.inl (some (gm_vi 0))) n K R (M)) (q1 : ¬ (M 206 5) < (N 1) → Q (.inl (some (gm_vi 1))) n K R (M)) : gm_Wp X LX d bc bs 31 0 (gm_ent 31 [gm_vr 206]) [] n K R M Q := by
  obtain ⟨⟨⟨a0, b0⟩, ⟨a1, b1⟩, ⟨a10, b10⟩, ⟨a11, b11⟩, ⟨a12, b12⟩, a9, b9⟩, ⟨⟨a2, b2⟩, ⟨a5, b5⟩, ⟨a3, b3⟩, ⟨a4, b4⟩, ⟨a6, b6⟩, ⟨a14, b14⟩, ⟨a7, b7⟩, a13, b13⟩, rF, rP, rL⟩ := id hN
  refine gm_sz (gm_p_load (pc := 0) (i := .aload_n 0) (sr := 2) (j := 0) (by decide +kernel) rfl rfl rfl) ?_
  refine gm_sz (fw_gi (pc := 1) (ix := 22) (ci := 5) (j := 5) (x := M 206 5) (by decide +kernel) (e0k hE (k := 206) (c := 5) (by decide +kernel)) (by decide +kernel) (by decide +kernel) rfl) ?_
  refine gm_sz (gm_p_load (pc := 4) (i := .aload_n 0) (sr := 2) (j := 0) (by decide +kernel) rfl rfl rfl) ?_
  refine gm_sz (fw_gr (pc := 5) (ix := 34) (ci := 5) (j := 0) (r := 3) (by decide +kernel) (e0k hE (k := 206) (c := 5) (by decide +kernel)) (by decide +kernel) (by decide +kernel) (e0r hE (k := 206) (j := 0) (r := 3) (by decide +kernel))) ?_
  refine gm_sz (fw_gi (pc := 8) (ix := 65) (ci := 1) (j := 1) (x := N 1) (by decide +kernel) (e0k hE (k := 3) (c := 1) (by decide +kernel)) (by decide +kernel) (by decide +kernel) (ti_las hT)) ?_
  refine fw_ic (cc := .lt) (pc := 11) (off := 7) (by decide +kernel) (by decide) h1 ⟨by omega, by omega⟩ (fun h11 => ?_) (fun h11 => ?_)
  · have h11 : (M 206 5) < (N 1) := h11
    refine gm_sz (gm_p_const (pc := 18) (i := .iconst 0) (v := gm_vi 0) (by decide +kernel) (by decide +kernel)) ?_
    exact gm_r_int (pc := 19) (by decide +kernel) (Or.inr ⟨(by decide +kernel), Or.inl rfl⟩) (q0 h11)
  · have h11 : ¬ (M 206 5) < (N 1) := h11
    refine gm_sz (gm_p_const (pc := 14) (i := .iconst 1) (v := gm_vi 1) (by decide +kernel) (by decide +kernel)) ?_
    refine gm_sz (gm_p_goto (pc := 15) (off := 4) (by decide +kernel) (by decide)) ?_
    exact gm_r_int (pc := 19) (by decide +kernel) (Or.inr ⟨(by decide +kernel), Or.inr rfl⟩) (q1 h11)
noncomputable def wy_s206 (M : gm_M) (lane row year z : Int) : gm_M := gm_uM (gm_uM (gm_uM (gm_uM (gm_uM (gm_uM (gm_uM M 206 2 lane) 206 5 row) 206 7 year) 206 3 z) 206 4 (-1)) 206 6 0) 206 8 0
theorem wy_st206 (hE : E0 n K R) (hT : TI N h sp M) (hN : NR N) (hz9 : 0 ≤ z ∧ z ≤ 1) (q0 : Q (.inl (none)) n K R (wy_s206 M lane row year z)) : gm_Wp X LX d bc bs 29 0 (gm_ent 29 [gm_vr 206, gm_vi lane, gm_vi row, gm_vi year, gm_vi z]) [] n K R M Q := by
  obtain ⟨⟨⟨a0, b0⟩, ⟨a1, b1⟩, ⟨a10, b10⟩, ⟨a11, b11⟩, ⟨a12, b12⟩, a9, b9⟩, ⟨⟨a2, b2⟩, ⟨a5, b5⟩, ⟨a3, b3⟩, ⟨a4, b4⟩, ⟨a6, b6⟩, ⟨a14, b14⟩, ⟨a7, b7⟩, a13, b13⟩, rF, rP, rL⟩ := id hN
  refine gm_sz (gm_p_load (pc := 0) (i := .aload_n 0) (sr := 2) (j := 0) (by decide +kernel) rfl rfl rfl) ?_
  refine gm_sz (gm_p_load (pc := 1) (i := .iload_n 1) (sr := 0) (j := 1) (by decide +kernel) rfl rfl rfl) ?_
  refine gm_sz (fw_pi (pc := 2) (ix := 9) (ci := 5) (j := 2) (M' := gm_uM M 206 2 lane) (by decide +kernel) (e0k hE (k := 206) (c := 5) (by decide +kernel)) (by decide +kernel) (by decide +kernel) (by decide +kernel) rfl) ?_
  refine gm_sz (gm_p_load (pc := 5) (i := .aload_n 0) (sr := 2) (j := 0) (by decide +kernel) rfl rfl rfl) ?_
  refine gm_sz (gm_p_load (pc := 6) (i := .iload_n 2) (sr := 0) (j := 2) (by decide +kernel) rfl rfl rfl) ?_
  refine gm_sz (fw_pi (pc := 7) (ix := 22) (ci := 5) (j := 5) (M' := gm_uM (gm_uM M 206 2 lane) 206 5 row) (by decide +kernel) (e0k hE (k := 206) (c := 5) (by decide +kernel)) (by decide +kernel) (by decide +kernel) (by decide +kernel) rfl) ?_
  refine gm_sz (gm_p_load (pc := 10) (i := .aload_n 0) (sr := 2) (j := 0) (by decide +kernel) rfl rfl rfl) ?_
  refine gm_sz (gm_p_load (pc := 11) (i := .iload_n 3) (sr := 0) (j := 3) (by decide +kernel) rfl rfl rfl) ?_
  refine gm_sz (fw_pi (pc := 12) (ix := 28) (ci := 5) (j := 7) (M' := gm_uM (gm_uM (gm_uM M 206 2 lane) 206 5 row) 206 7 year) (by decide +kernel) (e0k hE (k := 206) (c := 5) (by decide +kernel)) (by decide +kernel) (by decide +kernel) (by decide +kernel) rfl) ?_
  refine gm_sz (gm_p_load (pc := 15) (i := .aload_n 0) (sr := 2) (j := 0) (by decide +kernel) rfl rfl rfl) ?_
  refine gm_sz (gm_p_load (pc := 16) (i := .iload 4) (sr := 0) (j := 4) (by decide +kernel) rfl rfl rfl) ?_
  refine gm_sz (fw_pz (pc := 18) (ix := 15) (ci := 5) (j := 3) (M' := gm_uM (gm_uM (gm_uM (gm_uM M 206 2 lane) 206 5 row) 206 7 year) 206 3 z) (by decide +kernel) (e0k hE (k := 206) (c := 5) (by decide +kernel)) (by decide +kernel) (by decide +kernel) (by decide +kernel) (by first | omega | (split <;> decide)) rfl) ?_
  refine gm_sz (gm_p_load (pc := 21) (i := .aload_n 0) (sr := 2) (j := 0) (by decide +kernel) rfl rfl rfl) ?_
  refine gm_sz (gm_p_const (pc := 22) (i := .iconst (-1)) (v := gm_vi (-1)) (by decide +kernel) (by decide +kernel)) ?_
  refine gm_sz (fw_pi (pc := 23) (ix := 19) (ci := 5) (j := 4) (M' := gm_uM (gm_uM (gm_uM (gm_uM (gm_uM M 206 2 lane) 206 5 row) 206 7 year) 206 3 z) 206 4 (-1)) (by decide +kernel) (e0k hE (k := 206) (c := 5) (by decide +kernel)) (by decide +kernel) (by decide +kernel) (by decide +kernel) rfl) ?_
  refine gm_sz (gm_p_load (pc := 26) (i := .aload_n 0) (sr := 2) (j := 0) (by decide +kernel) rfl rfl rfl) ?_
  refine gm_sz (gm_p_const (pc := 27) (i := .iconst 0) (v := gm_vi 0) (by decide +kernel) (by decide +kernel)) ?_
  refine gm_sz (fw_pi (pc := 28) (ix := 25) (ci := 5) (j := 6) (M' := gm_uM (gm_uM (gm_uM (gm_uM (gm_uM (gm_uM M 206 2 lane) 206 5 row) 206 7 year) 206 3 z) 206 4 (-1)) 206 6 0) (by decide +kernel) (e0k hE (k := 206) (c := 5) (by decide +kernel)) (by decide +kernel) (by decide +kernel) (by decide +kernel) rfl) ?_
  refine gm_sz (gm_p_load (pc := 31) (i := .aload_n 0) (sr := 2) (j := 0) (by decide +kernel) rfl rfl rfl) ?_
  refine gm_sz (gm_p_const (pc := 32) (i := .iconst 0) (v := gm_vi 0) (by decide +kernel) (by decide +kernel)) ?_
  refine gm_sz (fw_pi (pc := 33) (ix := 31) (ci := 5) (j := 8) (M' := gm_uM (gm_uM (gm_uM (gm_uM (gm_uM (gm_uM (gm_uM M 206 2 lane) 206 5 row) 206 7 year) 206 3 z) 206 4 (-1)) 206 6 0) 206 8 0) (by decide +kernel) (e0k hE (k := 206) (c := 5) (by decide +kernel)) (by decide +kernel) (by decide +kernel) (by decide +kernel) rfl) ?_
  exact gm_r_void (pc := 36) (by decide +kernel) (by decide +kernel) q0
theorem wy_dp206 (hd : 1 ≤ d) (hE : E0 n K R) (hT : TI N h sp M) (hN : NR N) (h1 : 0 ≤ M 206 3 ∧ M 206 3 ≤ 1) (h2 : 0 ≤ M 206 6 ∧ M 206 6 ≤ 99) (h4 : 0 ≤ M 206 5 ∧ M 206 5 ≤ 10000) (h5 : 0 ≤ M 206 7 ∧ M 206 7 < 300) (q0 : (M 206 3) = 0 → (N 10) ≤ (M 206 5) → Q (.inl (some (gm_vi (max 0 ((M 206 6) - (h (M 206 7))))))) n K R (M)) (q1 : (M 206 3) = 0 → ¬ (N 10) ≤ (M 206 5) → Q (.inl (some (gm_vi (min 99 ((M 206 6) + (N 11)))))) n K R (M)) (q2 : ¬ (M 206 3) = 0 → Q (.inl (some (gm_vi 0))) n K R (M)) : gm_Wp X LX d bc bs 33 0 (gm_ent 33 [gm_vr 206]) [] n K R M Q := by
  obtain ⟨⟨⟨a0, b0⟩, ⟨a1, b1⟩, ⟨a10, b10⟩, ⟨a11, b11⟩, ⟨a12, b12⟩, a9, b9⟩, ⟨⟨a2, b2⟩, ⟨a5, b5⟩, ⟨a3, b3⟩, ⟨a4, b4⟩, ⟨a6, b6⟩, ⟨a14, b14⟩, ⟨a7, b7⟩, a13, b13⟩, rF, rP, rL⟩ := id hN
  obtain ⟨-, h6, -⟩ := hT.2.2.1 (M 206 7) h5.1 h5.2
  refine gm_sz (gm_p_load (pc := 0) (i := .aload_n 0) (sr := 2) (j := 0) (by decide +kernel) rfl rfl rfl) ?_
  refine gm_sz (fw_gi (pc := 1) (ix := 15) (ci := 5) (j := 3) (x := M 206 3) (by decide +kernel) (e0k hE (k := 206) (c := 5) (by decide +kernel)) (by decide +kernel) (by decide +kernel) rfl) ?_
  refine fw_if (cc := .eq) (pc := 4) (off := 5) (by decide +kernel) (by decide) ⟨by omega, by omega⟩ (fun h4 => ?_) (fun h4 => ?_)
  · have h4 : (M 206 3) = 0 := h4
    refine gm_sz (gm_p_load (pc := 9) (i := .aload_n 0) (sr := 2) (j := 0) (by decide +kernel) rfl rfl rfl) ?_
    refine gm_sz (fw_gi (pc := 10) (ix := 22) (ci := 5) (j := 5) (x := M 206 5) (by decide +kernel) (e0k hE (k := 206) (c := 5) (by decide +kernel)) (by decide +kernel) (by decide +kernel) rfl) ?_
    refine gm_sz (gm_p_load (pc := 13) (i := .aload_n 0) (sr := 2) (j := 0) (by decide +kernel) rfl rfl rfl) ?_
    refine gm_sz (fw_gr (pc := 14) (ix := 34) (ci := 5) (j := 0) (r := 3) (by decide +kernel) (e0k hE (k := 206) (c := 5) (by decide +kernel)) (by decide +kernel) (by decide +kernel) (e0r hE (k := 206) (j := 0) (r := 3) (by decide +kernel))) ?_
    refine gm_sz (fw_gi (pc := 17) (ix := 85) (ci := 1) (j := 2) (x := N 10) (by decide +kernel) (e0k hE (k := 3) (c := 1) (by decide +kernel)) (by decide +kernel) (by decide +kernel) (ti_sno hT)) ?_
    refine fw_ic (cc := .ge) (pc := 20) (off := 23) (by decide +kernel) (by decide) ⟨by omega, by omega⟩ ⟨by omega, by omega⟩ (fun h20 => ?_) (fun h20 => ?_)
    · have h20 : (N 10) ≤ (M 206 5) := h20
      refine gm_sz (gm_p_const (pc := 43) (i := .iconst 0) (v := gm_vi 0) (by decide +kernel) (by decide +kernel)) ?_
      refine gm_sz (gm_p_load (pc := 44) (i := .aload_n 0) (sr := 2) (j := 0) (by decide +kernel) rfl rfl rfl) ?_
      refine gm_sz (fw_gi (pc := 45) (ix := 25) (ci := 5) (j := 6) (x := M 206 6) (by decide +kernel) (e0k hE (k := 206) (c := 5) (by decide +kernel)) (by decide +kernel) (by decide +kernel) rfl) ?_
      refine gm_sz (gm_p_load (pc := 48) (i := .aload_n 0) (sr := 2) (j := 0) (by decide +kernel) rfl rfl rfl) ?_
      refine gm_sz (fw_gr (pc := 49) (ix := 38) (ci := 5) (j := 1) (r := 200) (by decide +kernel) (e0k hE (k := 206) (c := 5) (by decide +kernel)) (by decide +kernel) (by decide +kernel) (e0r hE (k := 206) (j := 1) (r := 200) (by decide +kernel))) ?_
      refine gm_sz (gm_p_load (pc := 52) (i := .aload_n 0) (sr := 2) (j := 0) (by decide +kernel) rfl rfl rfl) ?_
      refine gm_sz (fw_gi (pc := 53) (ix := 28) (ci := 5) (j := 7) (x := M 206 7) (by decide +kernel) (e0k hE (k := 206) (c := 5) (by decide +kernel)) (by decide +kernel) (by decide +kernel) rfl) ?_
      refine gm_c_virt (k := 200) (ci := 4) (mj := 34) (ix := 96) (pc := 56) (as := [gm_vi (M 206 7)]) (st := [gm_vi (M 206 6), gm_vi 0]) (d' := d - 1) (bc' := 0) (bs' := 0) (by decide +kernel) (by decide +kernel) (by decide +kernel) (by decide +kernel) (e0k hE (k := 200) (c := 4) (by decide +kernel)).1 (e0k hE (k := 200) (c := 4) (by decide +kernel)).2 (by decide) (by decide +kernel) (show 1 = gm_na 34 by decide +kernel) (fw_c1 fw_si) (show 2 ≤ gm_ml 34 by decide +kernel) (Nat.le_of_ble_eq_true rfl) (by omega) (Nat.zero_le _) (Nat.zero_le _) ?_
      refine ic_heat hE hT hN ⟨by omega, by omega⟩ ?_
      show gm_Wp X LX d _ _ 33 59 _ [gm_vi (h (M 206 7)), gm_vi (M 206 6), gm_vi 0] n K _ _ Q
      refine gm_sz (gm_p_bin (pc := 59) (i := .isub) (f := fun x y => x - y) (by decide +kernel) rfl) ?_
      refine gm_sz (gm_p_max (pc := 60) (ix := 100) (x := 0) (y := (M 206 6) - (h (M 206 7))) (by decide +kernel) (by decide +kernel) (gm_w_id (by omega) (by omega)) (gm_w_id (by omega) (by omega)) (Nat.le_of_ble_eq_true rfl) (by omega)) ?_
      exact gm_r_int (pc := 63) (by decide +kernel) (Or.inl (by decide +kernel)) (q0 h4 h20)
    · have h20 : ¬ (N 10) ≤ (M 206 5) := h20
      refine gm_sz (gm_p_const (pc := 23) (i := .bipush 99) (v := gm_vi 99) (by decide +kernel) (by decide +kernel)) ?_
      refine gm_sz (gm_p_load (pc := 25) (i := .aload_n 0) (sr := 2) (j := 0) (by decide +kernel) rfl rfl rfl) ?_
      refine gm_sz (fw_gi (pc := 26) (ix := 25) (ci := 5) (j := 6) (x := M 206 6) (by decide +kernel) (e0k hE (k := 206) (c := 5) (by decide +kernel)) (by decide +kernel) (by decide +kernel) rfl) ?_
      refine gm_sz (gm_p_load (pc := 29) (i := .aload_n 0) (sr := 2) (j := 0) (by decide +kernel) rfl rfl rfl) ?_
      refine gm_sz (fw_gr (pc := 30) (ix := 34) (ci := 5) (j := 0) (r := 3) (by decide +kernel) (e0k hE (k := 206) (c := 5) (by decide +kernel)) (by decide +kernel) (by decide +kernel) (e0r hE (k := 206) (j := 0) (r := 3) (by decide +kernel))) ?_
      refine gm_sz (fw_gi (pc := 33) (ix := 88) (ci := 1) (j := 3) (x := N 11) (by decide +kernel) (e0k hE (k := 3) (c := 1) (by decide +kernel)) (by decide +kernel) (by decide +kernel) (ti_fal hT)) ?_
      refine gm_sz (gm_p_bin (pc := 36) (i := .iadd) (f := fun x y => x + y) (by decide +kernel) rfl) ?_
      refine gm_sz (gm_p_min (pc := 37) (ix := 91) (x := 99) (y := (M 206 6) + (N 11)) (by decide +kernel) (by decide +kernel) (gm_w_id (by omega) (by omega)) (gm_w_id (by omega) (by omega)) (Nat.le_of_ble_eq_true rfl) (by omega)) ?_
      refine gm_sz (gm_p_goto (pc := 40) (off := 23) (by decide +kernel) (by decide)) ?_
      exact gm_r_int (pc := 63) (by decide +kernel) (Or.inl (by decide +kernel)) (q1 h4 h20)
  · have h4 : ¬ (M 206 3) = 0 := h4
    refine gm_sz (gm_p_const (pc := 7) (i := .iconst 0) (v := gm_vi 0) (by decide +kernel) (by decide +kernel)) ?_
    exact gm_r_int (pc := 8) (by decide +kernel) (Or.inl (by decide +kernel)) (q2 h4)
theorem cs_rock8 (hd : 1 ≤ d) (hE : E0 n K R) (hT : TI N h sp M) (hN : NR N) (h1 : 0 ≤ l ∧ l < N 4) (q0 : ¬ (N (119 + (l * 7 + 0))) = (-1) → Q (.inl (some (gm_vi 0))) n K R (M)) (q1 : (N (119 + (l * 7 + 0))) = (-1) → Q (.inl (some (gm_vi 1))) n K R (M)) : gm_Wp X LX d bc bs 28 0 (gm_ent 28 [gm_vr 3, gm_vi l]) [] n K R M Q := by
  obtain ⟨⟨⟨a0, b0⟩, ⟨a1, b1⟩, ⟨a10, b10⟩, ⟨a11, b11⟩, ⟨a12, b12⟩, a9, b9⟩, ⟨⟨a2, b2⟩, ⟨a5, b5⟩, ⟨a3, b3⟩, ⟨a4, b4⟩, ⟨a6, b6⟩, ⟨a14, b14⟩, ⟨a7, b7⟩, a13, b13⟩, rF, rP, rL⟩ := id hN
  obtain ⟨r0, -⟩ := rL l h1.1 h1.2
  have r0 : -1 ≤ N (119 + (l * 7 + 0)) ∧ N (119 + (l * 7 + 0)) < N 3 := r0
  refine gm_sz (gm_p_load (pc := 0) (i := .aload_n 0) (sr := 2) (j := 0) (by decide +kernel) rfl rfl rfl) ?_
  refine gm_sz (fw_gr (pc := 1) (ix := 55) (ci := 1) (j := 12) (r := 10) (by decide +kernel) (e0k hE (k := 3) (c := 1) (by decide +kernel)) (by decide +kernel) (by decide +kernel) (e0r hE (k := 3) (j := 12) (r := 10) (by decide +kernel))) ?_
  refine gm_sz (gm_p_load (pc := 4) (i := .iload_n 1) (sr := 0) (j := 1) (by decide +kernel) rfl rfl rfl) ?_
  refine gm_sz (gm_p_const (pc := 5) (i := .iconst 0) (v := gm_vi 0) (by decide +kernel) (by decide +kernel)) ?_
  refine gm_c_virt (k := 10) (ci := 2) (mj := 10) (ix := 72) (pc := 6) (as := [gm_vi l, gm_vi 0]) (st := []) (d' := d - 1) (bc' := 0) (bs' := 0) (by decide +kernel) (by decide +kernel) (by decide +kernel) (by decide +kernel) (e0k hE (k := 10) (c := 2) (by decide +kernel)).1 (e0k hE (k := 10) (c := 2) (by decide +kernel)).2 (by decide) (by decide +kernel) (show 2 = gm_na 10 by decide +kernel) (fw_c2 fw_si fw_si) (show 3 ≤ gm_ml 10 by decide +kernel) (Nat.le_of_ble_eq_true rfl) (by omega) (Nat.zero_le _) (Nat.zero_le _) ?_
  refine rw_get (s := N 4) (w := 7) (x := N (119 + (l * 7 + 0))) (e0k hE (k := 10) (c := 2) (by decide +kernel)) (e0a hE (k := 11) (q := ((0 : Nat), (168 : Nat))) (by decide +kernel)) (e0r hE (k := 10) (j := 2) (r := 11) (by decide +kernel)) (by decide) (ti_let hT) (hT.1 (10, 1, 7) (by decide)) ⟨by omega, by omega⟩ ⟨by omega, by omega⟩ ⟨by omega, by omega⟩ ⟨by omega, by omega⟩ (ti_aL hT (by omega) (by omega)) ?_
  show gm_Wp X LX d _ _ 28 9 _ [gm_vi (N (119 + (l * 7 + 0)))] n K _ _ Q
  refine gm_sz (gm_p_const (pc := 9) (i := .iconst (-1)) (v := gm_vi (-1)) (by decide +kernel) (by decide +kernel)) ?_
  refine fw_ic (cc := .ne) (pc := 10) (off := 7) (by decide +kernel) (by decide) ⟨by omega, by omega⟩ ⟨by decide, by decide⟩ (fun h10 => ?_) (fun h10 => ?_)
  · have h10 : ¬ (N (119 + (l * 7 + 0))) = (-1) := h10
    refine gm_sz (gm_p_const (pc := 17) (i := .iconst 0) (v := gm_vi 0) (by decide +kernel) (by decide +kernel)) ?_
    exact gm_r_int (pc := 18) (by decide +kernel) (Or.inr ⟨(by decide +kernel), Or.inl rfl⟩) (q0 h10)
  · have h10 : (N (119 + (l * 7 + 0))) = (-1) := Classical.not_not.mp h10
    refine gm_sz (gm_p_const (pc := 13) (i := .iconst 1) (v := gm_vi 1) (by decide +kernel) (by decide +kernel)) ?_
    refine gm_sz (gm_p_goto (pc := 14) (off := 4) (by decide +kernel) (by decide)) ?_
    exact gm_r_int (pc := 18) (by decide +kernel) (Or.inr ⟨(by decide +kernel), Or.inr rfl⟩) (q1 h10)
theorem cs_rock9 (hd : 1 ≤ d) (hE : E0 n K R) (hT : TI N h sp M) (hN : NR N) (h1 : 0 ≤ l ∧ l < N 4) (hq : Q (.inl (some (gm_vi (if (N (119 + (l * 7 + 0))) = -1 then 1 else 0)))) n K R M) : gm_Wp X LX d bc bs 28 0 (gm_ent 28 [gm_vr 3, gm_vi l]) [] n K R M Q := by
  refine cs_rock8 hd hE hT hN h1 (fun g => ?_) (fun g => ?_)
  · rw [if_neg g] at hq
    exact hq
  · rw [if_pos g] at hq
    exact hq
noncomputable def wy_l206 (M : gm_M) (N : Int → Int) (l : Int) : gm_M := gm_uM (gm_uM (gm_uM (gm_uM (gm_uM (gm_uM (gm_uM M 206 2 (N (119 + (l * 7 + 2)))) 206 5 (N (119 + (l * 7 + 4)))) 206 7 (N (119 + (l * 7 + 3)))) 206 3 (if (N (119 + (l * 7 + 0))) = -1 then (1 : Int) else 0)) 206 4 (-1)) 206 6 0) 206 8 0
theorem wy_let206 (hd : 2 ≤ d) (hE : E0 n K R) (hT : TI N h sp M) (hN : NR N) (h1 : 0 ≤ l ∧ l < N 4) (q0 : Q (.inl (none)) n K R (wy_l206 M N l)) : gm_Wp X LX d bc bs 27 0 (gm_ent 27 [gm_vr 206, gm_vi l]) [] n K R M Q := by
  obtain ⟨⟨⟨a0, b0⟩, ⟨a1, b1⟩, ⟨a10, b10⟩, ⟨a11, b11⟩, ⟨a12, b12⟩, a9, b9⟩, ⟨⟨a2, b2⟩, ⟨a5, b5⟩, ⟨a3, b3⟩, ⟨a4, b4⟩, ⟨a6, b6⟩, ⟨a14, b14⟩, ⟨a7, b7⟩, a13, b13⟩, rF, rP, rL⟩ := id hN
  refine gm_sz (gm_p_load (pc := 0) (i := .aload_n 0) (sr := 2) (j := 0) (by decide +kernel) rfl rfl rfl) ?_
  refine gm_sz (fw_gr (pc := 1) (ix := 34) (ci := 5) (j := 0) (r := 3) (by decide +kernel) (e0k hE (k := 206) (c := 5) (by decide +kernel)) (by decide +kernel) (by decide +kernel) (e0r hE (k := 206) (j := 0) (r := 3) (by decide +kernel))) ?_
  refine gm_sz (fw_gr (pc := 4) (ix := 42) (ci := 1) (j := 12) (r := 10) (by decide +kernel) (e0k hE (k := 3) (c := 1) (by decide +kernel)) (by decide +kernel) (by decide +kernel) (e0r hE (k := 3) (j := 12) (r := 10) (by decide +kernel))) ?_
  refine gm_sz (gm_p_stor (pc := 7) (i := .astore_n 2) (sr := 2) (j := 2) (by decide +kernel) rfl (show 3 ≤ _ from Nat.le_of_ble_eq_true rfl) rfl) ?_
  refine gm_sz (gm_p_load (pc := 8) (i := .aload_n 0) (sr := 2) (j := 0) (by decide +kernel) rfl rfl rfl) ?_
  refine gm_sz (gm_p_load (pc := 9) (i := .aload_n 2) (sr := 2) (j := 2) (by decide +kernel) rfl rfl rfl) ?_
  refine gm_sz (gm_p_load (pc := 10) (i := .iload_n 1) (sr := 0) (j := 1) (by decide +kernel) rfl rfl rfl) ?_
  refine gm_sz (gm_p_const (pc := 11) (i := .iconst 2) (v := gm_vi 2) (by decide +kernel) (by decide +kernel)) ?_
  refine gm_c_virt (k := 10) (ci := 2) (mj := 10) (ix := 48) (pc := 12) (as := [gm_vi l, gm_vi 2]) (st := [gm_vr 206]) (d' := d - 1) (bc' := 0) (bs' := 0) (by decide +kernel) (by decide +kernel) (by decide +kernel) (by decide +kernel) (e0k hE (k := 10) (c := 2) (by decide +kernel)).1 (e0k hE (k := 10) (c := 2) (by decide +kernel)).2 (by decide) (by decide +kernel) (show 2 = gm_na 10 by decide +kernel) (fw_c2 fw_si fw_si) (show 3 ≤ gm_ml 10 by decide +kernel) (Nat.le_of_ble_eq_true rfl) (by omega) (Nat.zero_le _) (Nat.zero_le _) ?_
  refine rw_get (s := N 4) (w := 7) (x := N (119 + (l * 7 + 2))) (e0k hE (k := 10) (c := 2) (by decide +kernel)) (e0a hE (k := 11) (q := ((0 : Nat), (168 : Nat))) (by decide +kernel)) (e0r hE (k := 10) (j := 2) (r := 11) (by decide +kernel)) (by decide) (ti_let hT) (hT.1 (10, 1, 7) (by decide)) ⟨by omega, by omega⟩ ⟨by omega, by omega⟩ ⟨by omega, by omega⟩ ⟨by omega, by omega⟩ (ti_aL hT (by omega) (by omega)) ?_
  show gm_Wp X LX d _ _ 27 15 _ [gm_vi (N (119 + (l * 7 + 2))), gm_vr 206] n K _ _ Q
  refine gm_sz (gm_p_load (pc := 15) (i := .aload_n 2) (sr := 2) (j := 2) (by decide +kernel) rfl rfl rfl) ?_
  refine gm_sz (gm_p_load (pc := 16) (i := .iload_n 1) (sr := 0) (j := 1) (by decide +kernel) rfl rfl rfl) ?_
  refine gm_sz (gm_p_const (pc := 17) (i := .iconst 4) (v := gm_vi 4) (by decide +kernel) (by decide +kernel)) ?_
  refine gm_c_virt (k := 10) (ci := 2) (mj := 10) (ix := 48) (pc := 18) (as := [gm_vi l, gm_vi 4]) (st := [gm_vi (N (119 + (l * 7 + 2))), gm_vr 206]) (d' := d - 1) (bc' := 0) (bs' := 0) (by decide +kernel) (by decide +kernel) (by decide +kernel) (by decide +kernel) (e0k hE (k := 10) (c := 2) (by decide +kernel)).1 (e0k hE (k := 10) (c := 2) (by decide +kernel)).2 (by decide) (by decide +kernel) (show 2 = gm_na 10 by decide +kernel) (fw_c2 fw_si fw_si) (show 3 ≤ gm_ml 10 by decide +kernel) (Nat.le_of_ble_eq_true rfl) (by omega) (Nat.zero_le _) (Nat.zero_le _) ?_
  refine rw_get (s := N 4) (w := 7) (x := N (119 + (l * 7 + 4))) (e0k hE (k := 10) (c := 2) (by decide +kernel)) (e0a hE (k := 11) (q := ((0 : Nat), (168 : Nat))) (by decide +kernel)) (e0r hE (k := 10) (j := 2) (r := 11) (by decide +kernel)) (by decide) (ti_let hT) (hT.1 (10, 1, 7) (by decide)) ⟨by omega, by omega⟩ ⟨by omega, by omega⟩ ⟨by omega, by omega⟩ ⟨by omega, by omega⟩ (ti_aL hT (by omega) (by omega)) ?_
  show gm_Wp X LX d _ _ 27 21 _ [gm_vi (N (119 + (l * 7 + 4))), gm_vi (N (119 + (l * 7 + 2))), gm_vr 206] n K _ _ Q
  refine gm_sz (gm_p_load (pc := 21) (i := .aload_n 2) (sr := 2) (j := 2) (by decide +kernel) rfl rfl rfl) ?_
  refine gm_sz (gm_p_load (pc := 22) (i := .iload_n 1) (sr := 0) (j := 1) (by decide +kernel) rfl rfl rfl) ?_
  refine gm_sz (gm_p_const (pc := 23) (i := .iconst 3) (v := gm_vi 3) (by decide +kernel) (by decide +kernel)) ?_
  refine gm_c_virt (k := 10) (ci := 2) (mj := 10) (ix := 48) (pc := 24) (as := [gm_vi l, gm_vi 3]) (st := [gm_vi (N (119 + (l * 7 + 4))), gm_vi (N (119 + (l * 7 + 2))), gm_vr 206]) (d' := d - 1) (bc' := 0) (bs' := 0) (by decide +kernel) (by decide +kernel) (by decide +kernel) (by decide +kernel) (e0k hE (k := 10) (c := 2) (by decide +kernel)).1 (e0k hE (k := 10) (c := 2) (by decide +kernel)).2 (by decide) (by decide +kernel) (show 2 = gm_na 10 by decide +kernel) (fw_c2 fw_si fw_si) (show 3 ≤ gm_ml 10 by decide +kernel) (Nat.le_of_ble_eq_true rfl) (by omega) (Nat.zero_le _) (Nat.zero_le _) ?_
  refine rw_get (s := N 4) (w := 7) (x := N (119 + (l * 7 + 3))) (e0k hE (k := 10) (c := 2) (by decide +kernel)) (e0a hE (k := 11) (q := ((0 : Nat), (168 : Nat))) (by decide +kernel)) (e0r hE (k := 10) (j := 2) (r := 11) (by decide +kernel)) (by decide) (ti_let hT) (hT.1 (10, 1, 7) (by decide)) ⟨by omega, by omega⟩ ⟨by omega, by omega⟩ ⟨by omega, by omega⟩ ⟨by omega, by omega⟩ (ti_aL hT (by omega) (by omega)) ?_
  show gm_Wp X LX d _ _ 27 27 _ [gm_vi (N (119 + (l * 7 + 3))), gm_vi (N (119 + (l * 7 + 4))), gm_vi (N (119 + (l * 7 + 2))), gm_vr 206] n K _ _ Q
  refine gm_sz (gm_p_load (pc := 27) (i := .aload_n 0) (sr := 2) (j := 0) (by decide +kernel) rfl rfl rfl) ?_
  refine gm_sz (fw_gr (pc := 28) (ix := 34) (ci := 5) (j := 0) (r := 3) (by decide +kernel) (e0k hE (k := 206) (c := 5) (by decide +kernel)) (by decide +kernel) (by decide +kernel) (e0r hE (k := 206) (j := 0) (r := 3) (by decide +kernel))) ?_
  refine gm_sz (gm_p_load (pc := 31) (i := .iload_n 1) (sr := 0) (j := 1) (by decide +kernel) rfl rfl rfl) ?_
  refine gm_c_virt (k := 3) (ci := 1) (mj := 28) (ix := 54) (pc := 32) (as := [gm_vi l]) (st := [gm_vi (N (119 + (l * 7 + 3))), gm_vi (N (119 + (l * 7 + 4))), gm_vi (N (119 + (l * 7 + 2))), gm_vr 206]) (d' := d - 1) (bc' := 0) (bs' := 0) (by decide +kernel) (by decide +kernel) (by decide +kernel) (by decide +kernel) (e0k hE (k := 3) (c := 1) (by decide +kernel)).1 (e0k hE (k := 3) (c := 1) (by decide +kernel)).2 (by decide) (by decide +kernel) (show 1 = gm_na 28 by decide +kernel) (fw_c1 fw_si) (show 2 ≤ gm_ml 28 by decide +kernel) (Nat.le_of_ble_eq_true rfl) (by omega) (Nat.zero_le _) (Nat.zero_le _) ?_
  refine cs_rock9 (by omega) hE hT hN ⟨by omega, by omega⟩ ?_
  show gm_Wp X LX d _ _ 27 35 _ [gm_vi (if (N (119 + (l * 7 + 0))) = -1 then (1 : Int) else 0), gm_vi (N (119 + (l * 7 + 3))), gm_vi (N (119 + (l * 7 + 4))), gm_vi (N (119 + (l * 7 + 2))), gm_vr 206] n K _ _ Q
  refine gm_c_virt (k := 206) (ci := 5) (mj := 29) (ix := 58) (pc := 35) (as := [gm_vi (N (119 + (l * 7 + 2))), gm_vi (N (119 + (l * 7 + 4))), gm_vi (N (119 + (l * 7 + 3))), gm_vi (if (N (119 + (l * 7 + 0))) = -1 then (1 : Int) else 0)]) (st := []) (d' := d - 1) (bc' := 0) (bs' := 0) (by decide +kernel) (by decide +kernel) (by decide +kernel) (by decide +kernel) (e0k hE (k := 206) (c := 5) (by decide +kernel)).1 (e0k hE (k := 206) (c := 5) (by decide +kernel)).2 (by decide) (by decide +kernel) (show 4 = gm_na 29 by decide +kernel) (fw_c4 fw_si fw_si fw_si fw_si) (show 5 ≤ gm_ml 29 by decide +kernel) (Nat.le_of_ble_eq_true rfl) (by omega) (Nat.zero_le _) (Nat.zero_le _) ?_
  refine wy_st206 hE hT hN (by first | omega | (split <;> decide)) ?_
  show gm_Wp X LX d _ _ 27 38 _ [] n K _ _ Q
  exact gm_r_void (pc := 38) (by decide +kernel) (by decide +kernel) q0
noncomputable def wy_h206 (M : gm_M) (N : Int → Int) (p year : Int) : gm_M := gm_uM (gm_uM (gm_uM (gm_uM (gm_uM (gm_uM (gm_uM M 206 2 (N (95 + (p * 3 + 0)))) 206 5 (N (95 + (p * 3 + 1)))) 206 7 year) 206 3 0) 206 4 (-1)) 206 6 0) 206 8 0
theorem wy_hut206 (hd : 2 ≤ d) (hE : E0 n K R) (hT : TI N h sp M) (hN : NR N) (h1 : 0 ≤ p ∧ p < N 3) (q0 : Q (.inl (none)) n K R (wy_h206 M N p year)) : gm_Wp X LX d bc bs 170 0 (gm_ent 170 [gm_vr 206, gm_vi p, gm_vi year]) [] n K R M Q := by
  obtain ⟨⟨⟨a0, b0⟩, ⟨a1, b1⟩, ⟨a10, b10⟩, ⟨a11, b11⟩, ⟨a12, b12⟩, a9, b9⟩, ⟨⟨a2, b2⟩, ⟨a5, b5⟩, ⟨a3, b3⟩, ⟨a4, b4⟩, ⟨a6, b6⟩, ⟨a14, b14⟩, ⟨a7, b7⟩, a13, b13⟩, rF, rP, rL⟩ := id hN
  refine gm_sz (gm_p_load (pc := 0) (i := .aload_n 0) (sr := 2) (j := 0) (by decide +kernel) rfl rfl rfl) ?_
  refine gm_sz (gm_p_load (pc := 1) (i := .aload_n 0) (sr := 2) (j := 0) (by decide +kernel) rfl rfl rfl) ?_
  refine gm_sz (fw_gr (pc := 2) (ix := 34) (ci := 5) (j := 0) (r := 3) (by decide +kernel) (e0k hE (k := 206) (c := 5) (by decide +kernel)) (by decide +kernel) (by decide +kernel) (e0r hE (k := 206) (j := 0) (r := 3) (by decide +kernel))) ?_
  refine gm_sz (fw_gr (pc := 5) (ix := 62) (ci := 1) (j := 11) (r := 8) (by decide +kernel) (e0k hE (k := 3) (c := 1) (by decide +kernel)) (by decide +kernel) (by decide +kernel) (e0r hE (k := 3) (j := 11) (r := 8) (by decide +kernel))) ?_
  refine gm_sz (gm_p_load (pc := 8) (i := .iload_n 1) (sr := 0) (j := 1) (by decide +kernel) rfl rfl rfl) ?_
  refine gm_sz (gm_p_const (pc := 9) (i := .iconst 0) (v := gm_vi 0) (by decide +kernel) (by decide +kernel)) ?_
  refine gm_c_virt (k := 8) (ci := 2) (mj := 10) (ix := 48) (pc := 10) (as := [gm_vi p, gm_vi 0]) (st := [gm_vr 206]) (d' := d - 1) (bc' := 0) (bs' := 0) (by decide +kernel) (by decide +kernel) (by decide +kernel) (by decide +kernel) (e0k hE (k := 8) (c := 2) (by decide +kernel)).1 (e0k hE (k := 8) (c := 2) (by decide +kernel)).2 (by decide) (by decide +kernel) (show 2 = gm_na 10 by decide +kernel) (fw_c2 fw_si fw_si) (show 3 ≤ gm_ml 10 by decide +kernel) (Nat.le_of_ble_eq_true rfl) (by omega) (Nat.zero_le _) (Nat.zero_le _) ?_
  refine rw_get (s := N 3) (w := 3) (x := N (95 + (p * 3 + 0))) (e0k hE (k := 8) (c := 2) (by decide +kernel)) (e0a hE (k := 9) (q := ((0 : Nat), (24 : Nat))) (by decide +kernel)) (e0r hE (k := 8) (j := 2) (r := 9) (by decide +kernel)) (by decide) (ti_peo hT) (hT.1 (8, 1, 3) (by decide)) ⟨by omega, by omega⟩ ⟨by omega, by omega⟩ ⟨by omega, by omega⟩ ⟨by omega, by omega⟩ (ti_aP hT (by omega) (by omega)) ?_
  show gm_Wp X LX d _ _ 170 13 _ [gm_vi (N (95 + (p * 3 + 0))), gm_vr 206] n K _ _ Q
  refine gm_sz (gm_p_load (pc := 13) (i := .aload_n 0) (sr := 2) (j := 0) (by decide +kernel) rfl rfl rfl) ?_
  refine gm_sz (fw_gr (pc := 14) (ix := 34) (ci := 5) (j := 0) (r := 3) (by decide +kernel) (e0k hE (k := 206) (c := 5) (by decide +kernel)) (by decide +kernel) (by decide +kernel) (e0r hE (k := 206) (j := 0) (r := 3) (by decide +kernel))) ?_
  refine gm_sz (fw_gr (pc := 17) (ix := 62) (ci := 1) (j := 11) (r := 8) (by decide +kernel) (e0k hE (k := 3) (c := 1) (by decide +kernel)) (by decide +kernel) (by decide +kernel) (e0r hE (k := 3) (j := 11) (r := 8) (by decide +kernel))) ?_
  refine gm_sz (gm_p_load (pc := 20) (i := .iload_n 1) (sr := 0) (j := 1) (by decide +kernel) rfl rfl rfl) ?_
  refine gm_sz (gm_p_const (pc := 21) (i := .iconst 1) (v := gm_vi 1) (by decide +kernel) (by decide +kernel)) ?_
  refine gm_c_virt (k := 8) (ci := 2) (mj := 10) (ix := 48) (pc := 22) (as := [gm_vi p, gm_vi 1]) (st := [gm_vi (N (95 + (p * 3 + 0))), gm_vr 206]) (d' := d - 1) (bc' := 0) (bs' := 0) (by decide +kernel) (by decide +kernel) (by decide +kernel) (by decide +kernel) (e0k hE (k := 8) (c := 2) (by decide +kernel)).1 (e0k hE (k := 8) (c := 2) (by decide +kernel)).2 (by decide) (by decide +kernel) (show 2 = gm_na 10 by decide +kernel) (fw_c2 fw_si fw_si) (show 3 ≤ gm_ml 10 by decide +kernel) (Nat.le_of_ble_eq_true rfl) (by omega) (Nat.zero_le _) (Nat.zero_le _) ?_
  refine rw_get (s := N 3) (w := 3) (x := N (95 + (p * 3 + 1))) (e0k hE (k := 8) (c := 2) (by decide +kernel)) (e0a hE (k := 9) (q := ((0 : Nat), (24 : Nat))) (by decide +kernel)) (e0r hE (k := 8) (j := 2) (r := 9) (by decide +kernel)) (by decide) (ti_peo hT) (hT.1 (8, 1, 3) (by decide)) ⟨by omega, by omega⟩ ⟨by omega, by omega⟩ ⟨by omega, by omega⟩ ⟨by omega, by omega⟩ (ti_aP hT (by omega) (by omega)) ?_
  show gm_Wp X LX d _ _ 170 25 _ [gm_vi (N (95 + (p * 3 + 1))), gm_vi (N (95 + (p * 3 + 0))), gm_vr 206] n K _ _ Q
  refine gm_sz (gm_p_load (pc := 25) (i := .iload_n 2) (sr := 0) (j := 2) (by decide +kernel) rfl rfl rfl) ?_
  refine gm_sz (gm_p_const (pc := 26) (i := .iconst 0) (v := gm_vi 0) (by decide +kernel) (by decide +kernel)) ?_
  refine gm_c_virt (k := 206) (ci := 5) (mj := 29) (ix := 58) (pc := 27) (as := [gm_vi (N (95 + (p * 3 + 0))), gm_vi (N (95 + (p * 3 + 1))), gm_vi year, gm_vi 0]) (st := []) (d' := d - 1) (bc' := 0) (bs' := 0) (by decide +kernel) (by decide +kernel) (by decide +kernel) (by decide +kernel) (e0k hE (k := 206) (c := 5) (by decide +kernel)).1 (e0k hE (k := 206) (c := 5) (by decide +kernel)).2 (by decide) (by decide +kernel) (show 4 = gm_na 29 by decide +kernel) (fw_c4 fw_si fw_si fw_si fw_si) (show 5 ≤ gm_ml 29 by decide +kernel) (Nat.le_of_ble_eq_true rfl) (by omega) (Nat.zero_le _) (Nat.zero_le _) ?_
  refine wy_st206 hE hT hN (by first | omega | (split <;> decide)) ?_
  show gm_Wp X LX d _ _ 170 30 _ [] n K _ _ Q
  exact gm_r_void (pc := 30) (by decide +kernel) (by decide +kernel) q0
noncomputable def wy_s207 (M : gm_M) (lane row year z : Int) : gm_M := gm_uM (gm_uM (gm_uM (gm_uM (gm_uM (gm_uM (gm_uM M 207 2 lane) 207 5 row) 207 7 year) 207 3 z) 207 4 (-1)) 207 6 0) 207 8 0
theorem wy_st207 (hE : E0 n K R) (hT : TI N h sp M) (hN : NR N) (hz9 : 0 ≤ z ∧ z ≤ 1) (q0 : Q (.inl (none)) n K R (wy_s207 M lane row year z)) : gm_Wp X LX d bc bs 29 0 (gm_ent 29 [gm_vr 207, gm_vi lane, gm_vi row, gm_vi year, gm_vi z]) [] n K R M Q := by
  obtain ⟨⟨⟨a0, b0⟩, ⟨a1, b1⟩, ⟨a10, b10⟩, ⟨a11, b11⟩, ⟨a12, b12⟩, a9, b9⟩, ⟨⟨a2, b2⟩, ⟨a5, b5⟩, ⟨a3, b3⟩, ⟨a4, b4⟩, ⟨a6, b6⟩, ⟨a14, b14⟩, ⟨a7, b7⟩, a13, b13⟩, rF, rP, rL⟩ := id hN
  refine gm_sz (gm_p_load (pc := 0) (i := .aload_n 0) (sr := 2) (j := 0) (by decide +kernel) rfl rfl rfl) ?_
  refine gm_sz (gm_p_load (pc := 1) (i := .iload_n 1) (sr := 0) (j := 1) (by decide +kernel) rfl rfl rfl) ?_
  refine gm_sz (fw_pi (pc := 2) (ix := 9) (ci := 5) (j := 2) (M' := gm_uM M 207 2 lane) (by decide +kernel) (e0k hE (k := 207) (c := 5) (by decide +kernel)) (by decide +kernel) (by decide +kernel) (by decide +kernel) rfl) ?_
  refine gm_sz (gm_p_load (pc := 5) (i := .aload_n 0) (sr := 2) (j := 0) (by decide +kernel) rfl rfl rfl) ?_
  refine gm_sz (gm_p_load (pc := 6) (i := .iload_n 2) (sr := 0) (j := 2) (by decide +kernel) rfl rfl rfl) ?_
  refine gm_sz (fw_pi (pc := 7) (ix := 22) (ci := 5) (j := 5) (M' := gm_uM (gm_uM M 207 2 lane) 207 5 row) (by decide +kernel) (e0k hE (k := 207) (c := 5) (by decide +kernel)) (by decide +kernel) (by decide +kernel) (by decide +kernel) rfl) ?_
  refine gm_sz (gm_p_load (pc := 10) (i := .aload_n 0) (sr := 2) (j := 0) (by decide +kernel) rfl rfl rfl) ?_
  refine gm_sz (gm_p_load (pc := 11) (i := .iload_n 3) (sr := 0) (j := 3) (by decide +kernel) rfl rfl rfl) ?_
  refine gm_sz (fw_pi (pc := 12) (ix := 28) (ci := 5) (j := 7) (M' := gm_uM (gm_uM (gm_uM M 207 2 lane) 207 5 row) 207 7 year) (by decide +kernel) (e0k hE (k := 207) (c := 5) (by decide +kernel)) (by decide +kernel) (by decide +kernel) (by decide +kernel) rfl) ?_
  refine gm_sz (gm_p_load (pc := 15) (i := .aload_n 0) (sr := 2) (j := 0) (by decide +kernel) rfl rfl rfl) ?_
  refine gm_sz (gm_p_load (pc := 16) (i := .iload 4) (sr := 0) (j := 4) (by decide +kernel) rfl rfl rfl) ?_
  refine gm_sz (fw_pz (pc := 18) (ix := 15) (ci := 5) (j := 3) (M' := gm_uM (gm_uM (gm_uM (gm_uM M 207 2 lane) 207 5 row) 207 7 year) 207 3 z) (by decide +kernel) (e0k hE (k := 207) (c := 5) (by decide +kernel)) (by decide +kernel) (by decide +kernel) (by decide +kernel) (by first | omega | (split <;> decide)) rfl) ?_
  refine gm_sz (gm_p_load (pc := 21) (i := .aload_n 0) (sr := 2) (j := 0) (by decide +kernel) rfl rfl rfl) ?_
  refine gm_sz (gm_p_const (pc := 22) (i := .iconst (-1)) (v := gm_vi (-1)) (by decide +kernel) (by decide +kernel)) ?_
  refine gm_sz (fw_pi (pc := 23) (ix := 19) (ci := 5) (j := 4) (M' := gm_uM (gm_uM (gm_uM (gm_uM (gm_uM M 207 2 lane) 207 5 row) 207 7 year) 207 3 z) 207 4 (-1)) (by decide +kernel) (e0k hE (k := 207) (c := 5) (by decide +kernel)) (by decide +kernel) (by decide +kernel) (by decide +kernel) rfl) ?_
  refine gm_sz (gm_p_load (pc := 26) (i := .aload_n 0) (sr := 2) (j := 0) (by decide +kernel) rfl rfl rfl) ?_
  refine gm_sz (gm_p_const (pc := 27) (i := .iconst 0) (v := gm_vi 0) (by decide +kernel) (by decide +kernel)) ?_
  refine gm_sz (fw_pi (pc := 28) (ix := 25) (ci := 5) (j := 6) (M' := gm_uM (gm_uM (gm_uM (gm_uM (gm_uM (gm_uM M 207 2 lane) 207 5 row) 207 7 year) 207 3 z) 207 4 (-1)) 207 6 0) (by decide +kernel) (e0k hE (k := 207) (c := 5) (by decide +kernel)) (by decide +kernel) (by decide +kernel) (by decide +kernel) rfl) ?_
  refine gm_sz (gm_p_load (pc := 31) (i := .aload_n 0) (sr := 2) (j := 0) (by decide +kernel) rfl rfl rfl) ?_
  refine gm_sz (gm_p_const (pc := 32) (i := .iconst 0) (v := gm_vi 0) (by decide +kernel) (by decide +kernel)) ?_
  refine gm_sz (fw_pi (pc := 33) (ix := 31) (ci := 5) (j := 8) (M' := gm_uM (gm_uM (gm_uM (gm_uM (gm_uM (gm_uM (gm_uM M 207 2 lane) 207 5 row) 207 7 year) 207 3 z) 207 4 (-1)) 207 6 0) 207 8 0) (by decide +kernel) (e0k hE (k := 207) (c := 5) (by decide +kernel)) (by decide +kernel) (by decide +kernel) (by decide +kernel) rfl) ?_
  exact gm_r_void (pc := 36) (by decide +kernel) (by decide +kernel) q0
noncomputable def wy_l207 (M : gm_M) (N : Int → Int) (l : Int) : gm_M := gm_uM (gm_uM (gm_uM (gm_uM (gm_uM (gm_uM (gm_uM M 207 2 (N (119 + (l * 7 + 2)))) 207 5 (N (119 + (l * 7 + 4)))) 207 7 (N (119 + (l * 7 + 3)))) 207 3 (if (N (119 + (l * 7 + 0))) = -1 then (1 : Int) else 0)) 207 4 (-1)) 207 6 0) 207 8 0
theorem wy_let207 (hd : 2 ≤ d) (hE : E0 n K R) (hT : TI N h sp M) (hN : NR N) (h1 : 0 ≤ l ∧ l < N 4) (q0 : Q (.inl (none)) n K R (wy_l207 M N l)) : gm_Wp X LX d bc bs 27 0 (gm_ent 27 [gm_vr 207, gm_vi l]) [] n K R M Q := by
  obtain ⟨⟨⟨a0, b0⟩, ⟨a1, b1⟩, ⟨a10, b10⟩, ⟨a11, b11⟩, ⟨a12, b12⟩, a9, b9⟩, ⟨⟨a2, b2⟩, ⟨a5, b5⟩, ⟨a3, b3⟩, ⟨a4, b4⟩, ⟨a6, b6⟩, ⟨a14, b14⟩, ⟨a7, b7⟩, a13, b13⟩, rF, rP, rL⟩ := id hN
  refine gm_sz (gm_p_load (pc := 0) (i := .aload_n 0) (sr := 2) (j := 0) (by decide +kernel) rfl rfl rfl) ?_
  refine gm_sz (fw_gr (pc := 1) (ix := 34) (ci := 5) (j := 0) (r := 3) (by decide +kernel) (e0k hE (k := 207) (c := 5) (by decide +kernel)) (by decide +kernel) (by decide +kernel) (e0r hE (k := 207) (j := 0) (r := 3) (by decide +kernel))) ?_
  refine gm_sz (fw_gr (pc := 4) (ix := 42) (ci := 1) (j := 12) (r := 10) (by decide +kernel) (e0k hE (k := 3) (c := 1) (by decide +kernel)) (by decide +kernel) (by decide +kernel) (e0r hE (k := 3) (j := 12) (r := 10) (by decide +kernel))) ?_
  refine gm_sz (gm_p_stor (pc := 7) (i := .astore_n 2) (sr := 2) (j := 2) (by decide +kernel) rfl (show 3 ≤ _ from Nat.le_of_ble_eq_true rfl) rfl) ?_
  refine gm_sz (gm_p_load (pc := 8) (i := .aload_n 0) (sr := 2) (j := 0) (by decide +kernel) rfl rfl rfl) ?_
  refine gm_sz (gm_p_load (pc := 9) (i := .aload_n 2) (sr := 2) (j := 2) (by decide +kernel) rfl rfl rfl) ?_
  refine gm_sz (gm_p_load (pc := 10) (i := .iload_n 1) (sr := 0) (j := 1) (by decide +kernel) rfl rfl rfl) ?_
  refine gm_sz (gm_p_const (pc := 11) (i := .iconst 2) (v := gm_vi 2) (by decide +kernel) (by decide +kernel)) ?_
  refine gm_c_virt (k := 10) (ci := 2) (mj := 10) (ix := 48) (pc := 12) (as := [gm_vi l, gm_vi 2]) (st := [gm_vr 207]) (d' := d - 1) (bc' := 0) (bs' := 0) (by decide +kernel) (by decide +kernel) (by decide +kernel) (by decide +kernel) (e0k hE (k := 10) (c := 2) (by decide +kernel)).1 (e0k hE (k := 10) (c := 2) (by decide +kernel)).2 (by decide) (by decide +kernel) (show 2 = gm_na 10 by decide +kernel) (fw_c2 fw_si fw_si) (show 3 ≤ gm_ml 10 by decide +kernel) (Nat.le_of_ble_eq_true rfl) (by omega) (Nat.zero_le _) (Nat.zero_le _) ?_
  refine rw_get (s := N 4) (w := 7) (x := N (119 + (l * 7 + 2))) (e0k hE (k := 10) (c := 2) (by decide +kernel)) (e0a hE (k := 11) (q := ((0 : Nat), (168 : Nat))) (by decide +kernel)) (e0r hE (k := 10) (j := 2) (r := 11) (by decide +kernel)) (by decide) (ti_let hT) (hT.1 (10, 1, 7) (by decide)) ⟨by omega, by omega⟩ ⟨by omega, by omega⟩ ⟨by omega, by omega⟩ ⟨by omega, by omega⟩ (ti_aL hT (by omega) (by omega)) ?_
  show gm_Wp X LX d _ _ 27 15 _ [gm_vi (N (119 + (l * 7 + 2))), gm_vr 207] n K _ _ Q
  refine gm_sz (gm_p_load (pc := 15) (i := .aload_n 2) (sr := 2) (j := 2) (by decide +kernel) rfl rfl rfl) ?_
  refine gm_sz (gm_p_load (pc := 16) (i := .iload_n 1) (sr := 0) (j := 1) (by decide +kernel) rfl rfl rfl) ?_
  refine gm_sz (gm_p_const (pc := 17) (i := .iconst 4) (v := gm_vi 4) (by decide +kernel) (by decide +kernel)) ?_
  refine gm_c_virt (k := 10) (ci := 2) (mj := 10) (ix := 48) (pc := 18) (as := [gm_vi l, gm_vi 4]) (st := [gm_vi (N (119 + (l * 7 + 2))), gm_vr 207]) (d' := d - 1) (bc' := 0) (bs' := 0) (by decide +kernel) (by decide +kernel) (by decide +kernel) (by decide +kernel) (e0k hE (k := 10) (c := 2) (by decide +kernel)).1 (e0k hE (k := 10) (c := 2) (by decide +kernel)).2 (by decide) (by decide +kernel) (show 2 = gm_na 10 by decide +kernel) (fw_c2 fw_si fw_si) (show 3 ≤ gm_ml 10 by decide +kernel) (Nat.le_of_ble_eq_true rfl) (by omega) (Nat.zero_le _) (Nat.zero_le _) ?_
  refine rw_get (s := N 4) (w := 7) (x := N (119 + (l * 7 + 4))) (e0k hE (k := 10) (c := 2) (by decide +kernel)) (e0a hE (k := 11) (q := ((0 : Nat), (168 : Nat))) (by decide +kernel)) (e0r hE (k := 10) (j := 2) (r := 11) (by decide +kernel)) (by decide) (ti_let hT) (hT.1 (10, 1, 7) (by decide)) ⟨by omega, by omega⟩ ⟨by omega, by omega⟩ ⟨by omega, by omega⟩ ⟨by omega, by omega⟩ (ti_aL hT (by omega) (by omega)) ?_
  show gm_Wp X LX d _ _ 27 21 _ [gm_vi (N (119 + (l * 7 + 4))), gm_vi (N (119 + (l * 7 + 2))), gm_vr 207] n K _ _ Q
  refine gm_sz (gm_p_load (pc := 21) (i := .aload_n 2) (sr := 2) (j := 2) (by decide +kernel) rfl rfl rfl) ?_
  refine gm_sz (gm_p_load (pc := 22) (i := .iload_n 1) (sr := 0) (j := 1) (by decide +kernel) rfl rfl rfl) ?_
  refine gm_sz (gm_p_const (pc := 23) (i := .iconst 3) (v := gm_vi 3) (by decide +kernel) (by decide +kernel)) ?_
  refine gm_c_virt (k := 10) (ci := 2) (mj := 10) (ix := 48) (pc := 24) (as := [gm_vi l, gm_vi 3]) (st := [gm_vi (N (119 + (l * 7 + 4))), gm_vi (N (119 + (l * 7 + 2))), gm_vr 207]) (d' := d - 1) (bc' := 0) (bs' := 0) (by decide +kernel) (by decide +kernel) (by decide +kernel) (by decide +kernel) (e0k hE (k := 10) (c := 2) (by decide +kernel)).1 (e0k hE (k := 10) (c := 2) (by decide +kernel)).2 (by decide) (by decide +kernel) (show 2 = gm_na 10 by decide +kernel) (fw_c2 fw_si fw_si) (show 3 ≤ gm_ml 10 by decide +kernel) (Nat.le_of_ble_eq_true rfl) (by omega) (Nat.zero_le _) (Nat.zero_le _) ?_
  refine rw_get (s := N 4) (w := 7) (x := N (119 + (l * 7 + 3))) (e0k hE (k := 10) (c := 2) (by decide +kernel)) (e0a hE (k := 11) (q := ((0 : Nat), (168 : Nat))) (by decide +kernel)) (e0r hE (k := 10) (j := 2) (r := 11) (by decide +kernel)) (by decide) (ti_let hT) (hT.1 (10, 1, 7) (by decide)) ⟨by omega, by omega⟩ ⟨by omega, by omega⟩ ⟨by omega, by omega⟩ ⟨by omega, by omega⟩ (ti_aL hT (by omega) (by omega)) ?_
  show gm_Wp X LX d _ _ 27 27 _ [gm_vi (N (119 + (l * 7 + 3))), gm_vi (N (119 + (l * 7 + 4))), gm_vi (N (119 + (l * 7 + 2))), gm_vr 207] n K _ _ Q
  refine gm_sz (gm_p_load (pc := 27) (i := .aload_n 0) (sr := 2) (j := 0) (by decide +kernel) rfl rfl rfl) ?_
  refine gm_sz (fw_gr (pc := 28) (ix := 34) (ci := 5) (j := 0) (r := 3) (by decide +kernel) (e0k hE (k := 207) (c := 5) (by decide +kernel)) (by decide +kernel) (by decide +kernel) (e0r hE (k := 207) (j := 0) (r := 3) (by decide +kernel))) ?_
  refine gm_sz (gm_p_load (pc := 31) (i := .iload_n 1) (sr := 0) (j := 1) (by decide +kernel) rfl rfl rfl) ?_
  refine gm_c_virt (k := 3) (ci := 1) (mj := 28) (ix := 54) (pc := 32) (as := [gm_vi l]) (st := [gm_vi (N (119 + (l * 7 + 3))), gm_vi (N (119 + (l * 7 + 4))), gm_vi (N (119 + (l * 7 + 2))), gm_vr 207]) (d' := d - 1) (bc' := 0) (bs' := 0) (by decide +kernel) (by decide +kernel) (by decide +kernel) (by decide +kernel) (e0k hE (k := 3) (c := 1) (by decide +kernel)).1 (e0k hE (k := 3) (c := 1) (by decide +kernel)).2 (by decide) (by decide +kernel) (show 1 = gm_na 28 by decide +kernel) (fw_c1 fw_si) (show 2 ≤ gm_ml 28 by decide +kernel) (Nat.le_of_ble_eq_true rfl) (by omega) (Nat.zero_le _) (Nat.zero_le _) ?_
  refine cs_rock9 (by omega) hE hT hN ⟨by omega, by omega⟩ ?_
  show gm_Wp X LX d _ _ 27 35 _ [gm_vi (if (N (119 + (l * 7 + 0))) = -1 then (1 : Int) else 0), gm_vi (N (119 + (l * 7 + 3))), gm_vi (N (119 + (l * 7 + 4))), gm_vi (N (119 + (l * 7 + 2))), gm_vr 207] n K _ _ Q
  refine gm_c_virt (k := 207) (ci := 5) (mj := 29) (ix := 58) (pc := 35) (as := [gm_vi (N (119 + (l * 7 + 2))), gm_vi (N (119 + (l * 7 + 4))), gm_vi (N (119 + (l * 7 + 3))), gm_vi (if (N (119 + (l * 7 + 0))) = -1 then (1 : Int) else 0)]) (st := []) (d' := d - 1) (bc' := 0) (bs' := 0) (by decide +kernel) (by decide +kernel) (by decide +kernel) (by decide +kernel) (e0k hE (k := 207) (c := 5) (by decide +kernel)).1 (e0k hE (k := 207) (c := 5) (by decide +kernel)).2 (by decide) (by decide +kernel) (show 4 = gm_na 29 by decide +kernel) (fw_c4 fw_si fw_si fw_si fw_si) (show 5 ≤ gm_ml 29 by decide +kernel) (Nat.le_of_ble_eq_true rfl) (by omega) (Nat.zero_le _) (Nat.zero_le _) ?_
  refine wy_st207 hE hT hN (by first | omega | (split <;> decide)) ?_
  show gm_Wp X LX d _ _ 27 38 _ [] n K _ _ Q
  exact gm_r_void (pc := 38) (by decide +kernel) (by decide +kernel) q0
/-- a row behind the floods of a year, t of them looked at; one may be left out -/
noncomputable def nfl (N : Int → Int) (y wo : Int) : Nat → Int → Int
  | 0, r => r
  | t + 1, r => if ¬ (t : Int) = wo ∧ (N (71 + (t * 3 + 0))) = y ∧ (N (71 + (t * 3 + 1))) ≤ nfl N y wo t r then nfl N y wo t r + (N (71 + (t * 3 + 2))) else nfl N y wo t r
theorem nfl_t {wo r : Int} {t : Nat} (h1 : ¬ (t : Int) = wo) (h2 : (N (71 + (t * 3 + 0))) = y) (h3 : (N (71 + (t * 3 + 1))) ≤ nfl N y wo t r) : nfl N y wo (t + 1) r = nfl N y wo t r + (N (71 + (t * 3 + 2))) := if_pos ⟨h1, h2, h3⟩
theorem nfl_f {wo r : Int} {t : Nat} (h : ¬ (¬ (t : Int) = wo ∧ (N (71 + (t * 3 + 0))) = y ∧ (N (71 + (t * 3 + 1))) ≤ nfl N y wo t r)) : nfl N y wo (t + 1) r = nfl N y wo t r := if_neg h
theorem nfl_no {wo r : Int} {t : Nat} : ∀ u : Nat, (∀ f : Nat, t ≤ f → f < t + u → ¬ (N (71 + (f * 3 + 0))) = y) → nfl N y wo (t + u) r = nfl N y wo t r := by
  intro u
  induction u with
  | zero => intro _; rfl
  | succ u ih =>
    intro h
    show nfl N y wo ((t + u) + 1) r = _
    rw [nfl_f (fun hh => h (t + u) (by omega) (by omega) hh.2.1), ih (fun f h1 h2 => h f h1 (by omega))]
theorem nfl_b (hF : ∀ f : Int, 0 ≤ f → f < N 5 → 0 ≤ (N (71 + (f * 3 + 2))) ∧ (N (71 + (f * 3 + 2))) ≤ 20) {wo r : Int} : ∀ t : Nat, (t : Int) ≤ N 5 → r ≤ nfl N y wo t r ∧ nfl N y wo t r ≤ r + 20 * (t : Int) := by
  intro t
  induction t with
  | zero => intro _; exact ⟨Int.le_refl _, by show r ≤ _; omega⟩
  | succ t ih =>
    intro h
    obtain ⟨i1, i2⟩ := ih (by omega)
    have := hF t (by omega) (by omega)
    by_cases hh : ¬ (t : Int) = wo ∧ (N (71 + (t * 3 + 0))) = y ∧ (N (71 + (t * 3 + 1))) ≤ nfl N y wo t r
    · rw [nfl_t hh.1 hh.2.1 hh.2.2]
      exact ⟨by omega, by omega⟩
    · rw [nfl_f hh]
      exact ⟨by omega, by omega⟩
theorem fbit_0 {f : Nat} (h : f < 8) : ¬ gm_and (gm_shr 0 (f : Int)) 1 = 1 := by
  have h8 : f = 0 ∨ f = 1 ∨ f = 2 ∨ f = 3 ∨ f = 4 ∨ f = 5 ∨ f = 6 ∨ f = 7 := by omega
  rcases h8 with rfl | rfl | rfl | rfl | rfl | rfl | rfl | rfl <;> decide
theorem wy_fl206 (hd : 1 ≤ d) (hE : E0 n K R) (hT : TI N h sp M) (hN : NR N) {b wo y r0 : Int} (hwo : M 206 4 = wo) (hb : gm_ir b ∧ fbit N y b) (hw : gm_ir wo) (hr : -1 ≤ r0 ∧ r0 ≤ 10000) (hq : ∀ M2, fr [((206 : Nat), some (5 : Int)), ((206 : Nat), some (8 : Int))] M M2 → M2 206 5 = nfl N y wo (N 5).toNat r0 → Q (.inl none) n K R M2) : ∀ (u i : Nat) (z : Option gm_V) (M1 : gm_M), (i : Int) + (u : Int) = N 5 → fr [((206 : Nat), some (5 : Int)), ((206 : Nat), some (8 : Int))] M M1 → M1 206 5 = nfl N y wo i r0 → gm_Wp X LX d bc bs 43 22 [some (gm_vr 206), some (gm_vr 6), some (gm_vi b), some (gm_vi (i : Int)), z] [] n K R M1 Q := by
  obtain ⟨⟨⟨a0, b0⟩, ⟨a1, b1⟩, ⟨a10, b10⟩, ⟨a11, b11⟩, ⟨a12, b12⟩, a9, b9⟩, ⟨⟨a2, b2⟩, ⟨a5, b5⟩, ⟨a3, b3⟩, ⟨a4, b4⟩, ⟨a6, b6⟩, ⟨a14, b14⟩, ⟨a7, b7⟩, a13, b13⟩, rF, rP, rL⟩ := id hN
  obtain ⟨⟨hb1, hb2⟩, hb3⟩ := hb
  obtain ⟨hw1, hw2⟩ := hw
  have rF2 : ∀ f : Int, 0 ≤ f → f < N 5 → 0 ≤ (N (71 + (f * 3 + 2))) ∧ (N (71 + (f * 3 + 2))) ≤ 20 := fun f h1 h2 => (rF f h1 h2).2.2
  intro u
  induction u with
  | zero =>
    intro i z M1 hi hf h5
    have hin : i = (N 5).toNat := by omega
    obtain ⟨j1, j2⟩ := nfl_b (y := y) (wo := wo) (r := r0) rF2 i (by omega)
    refine gm_sz (gm_p_load (pc := 22) (i := .iload_n 2) (sr := 0) (j := 2) (by decide +kernel) rfl rfl rfl) ?_
    refine fw_if (cc := .eq) (pc := 23) (off := 89) (by decide +kernel) (by decide) ⟨by omega, by omega⟩ (fun h23 => ?_) (fun h23 => ?_)
    · have h23 : b = 0 := h23
      exact gm_r_void (pc := 112) (by decide +kernel) (by decide +kernel) (hq M1 hf (by rw [← hin]; exact h5))
    · have h23 : ¬ b = 0 := h23
      refine gm_sz (gm_p_load (pc := 26) (i := .iload_n 3) (sr := 0) (j := 3) (by decide +kernel) rfl rfl rfl) ?_
      refine gm_sz (gm_p_load (pc := 27) (i := .aload_n 1) (sr := 2) (j := 1) (by decide +kernel) rfl rfl rfl) ?_
      refine gm_c_virt (k := 6) (ci := 2) (mj := 9) (ix := 109) (pc := 28) (as := []) (st := [gm_vi (i : Int)]) (d' := d - 1) (bc' := 0) (bs' := 0) (by decide +kernel) (by decide +kernel) (by decide +kernel) (by decide +kernel) (e0k hE (k := 6) (c := 2) (by decide +kernel)).1 (e0k hE (k := 6) (c := 2) (by decide +kernel)).2 (by decide) (by decide +kernel) (show 0 = gm_na 9 by decide +kernel) fw_c0 (show 1 ≤ gm_ml 9 by decide +kernel) (Nat.le_of_ble_eq_true rfl) (by omega) (Nat.zero_le _) (Nat.zero_le _) ?_
      refine rw_size (s := N 5) (e0k hE (k := 6) (c := 2) (by decide +kernel)) ((fr_c hf (by decide)).trans (ti_flo hT)) ?_
      show gm_Wp X LX d _ _ 43 31 _ [gm_vi (N 5), gm_vi (i : Int)] n K _ _ Q
      refine fw_ict (cc := .ge) (pc := 31) (off := 81) (by decide +kernel) (by decide) ⟨by omega, by omega⟩ ⟨by omega, by omega⟩ (show (N 5) ≤ (i : Int) by omega) ?_
      exact gm_r_void (pc := 112) (by decide +kernel) (by decide +kernel) (hq M1 hf (by rw [← hin]; exact h5))
  | succ u ih =>
    intro i z M1 hi hf h5
    have hbi := hb3 i (by omega)
    obtain ⟨j1, j2⟩ := nfl_b (y := y) (wo := wo) (r := r0) rF2 i (by omega)
    obtain ⟨⟨f0, f1⟩, ⟨f2, f3⟩, f4, f5⟩ := rF i (by omega) (by omega)
    refine gm_sz (gm_p_load (pc := 22) (i := .iload_n 2) (sr := 0) (j := 2) (by decide +kernel) rfl rfl rfl) ?_
    refine fw_if (cc := .eq) (pc := 23) (off := 89) (by decide +kernel) (by decide) ⟨by omega, by omega⟩ (fun h23 => ?_) (fun h23 => ?_)
    · have h23 : b = 0 := h23
      exact gm_r_void (pc := 112) (by decide +kernel) (by decide +kernel) (hq M1 hf (by rw [h5, show (N 5).toNat = i + (u + 1) by omega]; exact (nfl_no (u + 1) (fun f g1 g2 hh => fbit_0 (f := f) (by omega) (by have := (hb3 f (by omega)).mpr ⟨by omega, hh⟩; rwa [h23] at this))).symm))
    · have h23 : ¬ b = 0 := h23
      refine gm_sz (gm_p_load (pc := 26) (i := .iload_n 3) (sr := 0) (j := 3) (by decide +kernel) rfl rfl rfl) ?_
      refine gm_sz (gm_p_load (pc := 27) (i := .aload_n 1) (sr := 2) (j := 1) (by decide +kernel) rfl rfl rfl) ?_
      refine gm_c_virt (k := 6) (ci := 2) (mj := 9) (ix := 109) (pc := 28) (as := []) (st := [gm_vi (i : Int)]) (d' := d - 1) (bc' := 0) (bs' := 0) (by decide +kernel) (by decide +kernel) (by decide +kernel) (by decide +kernel) (e0k hE (k := 6) (c := 2) (by decide +kernel)).1 (e0k hE (k := 6) (c := 2) (by decide +kernel)).2 (by decide) (by decide +kernel) (show 0 = gm_na 9 by decide +kernel) fw_c0 (show 1 ≤ gm_ml 9 by decide +kernel) (Nat.le_of_ble_eq_true rfl) (by omega) (Nat.zero_le _) (Nat.zero_le _) ?_
      refine rw_size (s := N 5) (e0k hE (k := 6) (c := 2) (by decide +kernel)) ((fr_c hf (by decide)).trans (ti_flo hT)) ?_
      show gm_Wp X LX d _ _ 43 31 _ [gm_vi (N 5), gm_vi (i : Int)] n K _ _ Q
      refine fw_icf (cc := .ge) (pc := 31) (off := 81) (by decide +kernel) (by decide) ⟨by omega, by omega⟩ ⟨by omega, by omega⟩ (show ¬ (N 5) ≤ (i : Int) by omega) ?_
      refine gm_sz (gm_p_load (pc := 34) (i := .iload_n 3) (sr := 0) (j := 3) (by decide +kernel) rfl rfl rfl) ?_
      refine gm_sz (gm_p_load (pc := 35) (i := .aload_n 0) (sr := 2) (j := 0) (by decide +kernel) rfl rfl rfl) ?_
      refine gm_sz (fw_gi (pc := 36) (ix := 19) (ci := 5) (j := 4) (x := wo) (by decide +kernel) (e0k hE (k := 206) (c := 5) (by decide +kernel)) (by decide +kernel) (by decide +kernel) ((fr_j hf (by decide)).trans hwo)) ?_
      refine fw_ic (cc := .eq) (pc := 39) (off := 16) (by decide +kernel) (by decide) ⟨by omega, by omega⟩ ⟨by omega, by omega⟩ (fun h39 => ?_) (fun h39 => ?_)
      · have h39 : (i : Int) = wo := h39
        refine gm_sz (gm_p_const (pc := 55) (i := .iconst 0) (v := gm_vi 0) (by decide +kernel) (by decide +kernel)) ?_
        refine gm_sz (gm_p_stor (pc := 56) (i := .istore 4) (sr := 0) (j := 4) (by decide +kernel) rfl (show 5 ≤ _ from Nat.le_of_ble_eq_true rfl) rfl) ?_
        refine gm_sz (gm_p_load (pc := 58) (i := .iload 4) (sr := 0) (j := 4) (by decide +kernel) rfl rfl rfl) ?_
        refine fw_iftd (cc := .eq) (pc := 60) (off := 46) (by decide +kernel) (by decide) ⟨by decide, by decide⟩ (by decide) ?_
        refine gm_sz (gm_p_iinc (pc := 106) (j := 3) (z := 1) (by decide +kernel) rfl) ?_
        refine gm_sz (gm_p_goto (pc := 109) (off := (-87)) (by decide +kernel) (by decide)) ?_
        have e9 : nfl N y wo (i + 1) r0 = nfl N y wo i r0 := nfl_f (fun hh => by first | exact hh.1 h39 | exact h48 (hbi.mpr ⟨by omega, hh.2.1⟩) | (have := hh.2.2; omega))
        exact ih (i + 1) _ _ (by omega) (fr_t fr_0 hf (by decide)) (h5.trans e9.symm)
      · have h39 : ¬ (i : Int) = wo := h39
        refine gm_sz (gm_p_load (pc := 42) (i := .iload_n 2) (sr := 0) (j := 2) (by decide +kernel) rfl rfl rfl) ?_
        refine gm_sz (gm_p_load (pc := 43) (i := .iload_n 3) (sr := 0) (j := 3) (by decide +kernel) rfl rfl rfl) ?_
        refine gm_sz (gm_p_bin (pc := 44) (i := .ishr) (f := gm_shr) (by decide +kernel) rfl) ?_
        refine gm_sz (gm_p_const (pc := 45) (i := .iconst 1) (v := gm_vi 1) (by decide +kernel) (by decide +kernel)) ?_
        refine gm_sz (gm_p_bin (pc := 46) (i := .iand) (f := gm_and) (by decide +kernel) rfl) ?_
        refine gm_sz (gm_p_const (pc := 47) (i := .iconst 1) (v := gm_vi 1) (by decide +kernel) (by decide +kernel)) ?_
        refine fw_ic (cc := .ne) (pc := 48) (off := 7) (by decide +kernel) (by decide) and_ir ⟨by decide, by decide⟩ (fun h48 => ?_) (fun h48 => ?_)
        · have h48 : ¬ (gm_and (gm_shr b (i : Int)) 1) = 1 := h48
          refine gm_sz (gm_p_const (pc := 55) (i := .iconst 0) (v := gm_vi 0) (by decide +kernel) (by decide +kernel)) ?_
          refine gm_sz (gm_p_stor (pc := 56) (i := .istore 4) (sr := 0) (j := 4) (by decide +kernel) rfl (show 5 ≤ _ from Nat.le_of_ble_eq_true rfl) rfl) ?_
          refine gm_sz (gm_p_load (pc := 58) (i := .iload 4) (sr := 0) (j := 4) (by decide +kernel) rfl rfl rfl) ?_
          refine fw_iftd (cc := .eq) (pc := 60) (off := 46) (by decide +kernel) (by decide) ⟨by decide, by decide⟩ (by decide) ?_
          refine gm_sz (gm_p_iinc (pc := 106) (j := 3) (z := 1) (by decide +kernel) rfl) ?_
          refine gm_sz (gm_p_goto (pc := 109) (off := (-87)) (by decide +kernel) (by decide)) ?_
          have e9 : nfl N y wo (i + 1) r0 = nfl N y wo i r0 := nfl_f (fun hh => by first | exact hh.1 h39 | exact h48 (hbi.mpr ⟨by omega, hh.2.1⟩) | (have := hh.2.2; omega))
          exact ih (i + 1) _ _ (by omega) (fr_t fr_0 hf (by decide)) (h5.trans e9.symm)
        · have h48 : (gm_and (gm_shr b (i : Int)) 1) = 1 := Classical.not_not.mp h48
          refine gm_sz (gm_p_const (pc := 51) (i := .iconst 1) (v := gm_vi 1) (by decide +kernel) (by decide +kernel)) ?_
          refine gm_sz (gm_p_goto (pc := 52) (off := 4) (by decide +kernel) (by decide)) ?_
          refine gm_sz (gm_p_stor (pc := 56) (i := .istore 4) (sr := 0) (j := 4) (by decide +kernel) rfl (show 5 ≤ _ from Nat.le_of_ble_eq_true rfl) rfl) ?_
          refine gm_sz (gm_p_load (pc := 58) (i := .iload 4) (sr := 0) (j := 4) (by decide +kernel) rfl rfl rfl) ?_
          refine fw_iffd (cc := .eq) (pc := 60) (off := 46) (by decide +kernel) (by decide) ⟨by decide, by decide⟩ (by decide) ?_
          refine gm_sz (gm_p_load (pc := 63) (i := .aload_n 0) (sr := 2) (j := 0) (by decide +kernel) rfl rfl rfl) ?_
          refine gm_sz (fw_gi (pc := 64) (ix := 22) (ci := 5) (j := 5) (x := nfl N y wo i r0) (by decide +kernel) (e0k hE (k := 206) (c := 5) (by decide +kernel)) (by decide +kernel) (by decide +kernel) h5) ?_
          refine gm_sz (gm_p_load (pc := 67) (i := .aload_n 1) (sr := 2) (j := 1) (by decide +kernel) rfl rfl rfl) ?_
          refine gm_sz (gm_p_load (pc := 68) (i := .iload_n 3) (sr := 0) (j := 3) (by decide +kernel) rfl rfl rfl) ?_
          refine gm_sz (gm_p_const (pc := 69) (i := .iconst 1) (v := gm_vi 1) (by decide +kernel) (by decide +kernel)) ?_
          refine gm_c_virt (k := 6) (ci := 2) (mj := 10) (ix := 48) (pc := 70) (as := [gm_vi (i : Int), gm_vi 1]) (st := [gm_vi (nfl N y wo i r0)]) (d' := d - 1) (bc' := 0) (bs' := 0) (by decide +kernel) (by decide +kernel) (by decide +kernel) (by decide +kernel) (e0k hE (k := 6) (c := 2) (by decide +kernel)).1 (e0k hE (k := 6) (c := 2) (by decide +kernel)).2 (by decide) (by decide +kernel) (show 2 = gm_na 10 by decide +kernel) (fw_c2 fw_si fw_si) (show 3 ≤ gm_ml 10 by decide +kernel) (Nat.le_of_ble_eq_true rfl) (by omega) (Nat.zero_le _) (Nat.zero_le _) ?_
          refine rw_get (s := N 5) (w := 3) (x := N (71 + ((i : Int) * 3 + 1))) (e0k hE (k := 6) (c := 2) (by decide +kernel)) (e0a hE (k := 7) (q := ((0 : Nat), (24 : Nat))) (by decide +kernel)) (e0r hE (k := 6) (j := 2) (r := 7) (by decide +kernel)) (by decide) ((fr_c hf (by decide)).trans (ti_flo hT)) ((fr_c hf (by decide)).trans (hT.1 (6, 1, 3) (by decide))) ⟨by omega, by omega⟩ ⟨by omega, by omega⟩ ⟨by omega, by omega⟩ ⟨by omega, by omega⟩ ((fr_c hf (by decide)).trans (ti_aF hT (by omega) (by omega))) ?_
          show gm_Wp X LX d _ _ 43 73 _ [gm_vi (N (71 + ((i : Int) * 3 + 1))), gm_vi (nfl N y wo i r0)] n K _ _ Q
          refine fw_ic (cc := .lt) (pc := 73) (off := 33) (by decide +kernel) (by decide) ⟨by omega, by omega⟩ ⟨by omega, by omega⟩ (fun h73 => ?_) (fun h73 => ?_)
          · have h73 : (nfl N y wo i r0) < (N (71 + ((i : Int) * 3 + 1))) := h73
            refine gm_sz (gm_p_iinc (pc := 106) (j := 3) (z := 1) (by decide +kernel) rfl) ?_
            refine gm_sz (gm_p_goto (pc := 109) (off := (-87)) (by decide +kernel) (by decide)) ?_
            have e9 : nfl N y wo (i + 1) r0 = nfl N y wo i r0 := nfl_f (fun hh => by first | exact hh.1 h39 | exact h48 (hbi.mpr ⟨by omega, hh.2.1⟩) | (have := hh.2.2; omega))
            exact ih (i + 1) _ _ (by omega) (fr_t fr_0 hf (by decide)) (h5.trans e9.symm)
          · have h73 : ¬ (nfl N y wo i r0) < (N (71 + ((i : Int) * 3 + 1))) := h73
            refine gm_sz (gm_p_load (pc := 76) (i := .aload_n 0) (sr := 2) (j := 0) (by decide +kernel) rfl rfl rfl) ?_
            refine gm_sz (gm_p_dup (pc := 77) (by decide +kernel) fw_sr) ?_
            refine gm_sz (fw_gi (pc := 78) (ix := 22) (ci := 5) (j := 5) (x := nfl N y wo i r0) (by decide +kernel) (e0k hE (k := 206) (c := 5) (by decide +kernel)) (by decide +kernel) (by decide +kernel) h5) ?_
            refine gm_sz (gm_p_load (pc := 81) (i := .aload_n 1) (sr := 2) (j := 1) (by decide +kernel) rfl rfl rfl) ?_
            refine gm_sz (gm_p_load (pc := 82) (i := .iload_n 3) (sr := 0) (j := 3) (by decide +kernel) rfl rfl rfl) ?_
            refine gm_sz (gm_p_const (pc := 83) (i := .iconst 2) (v := gm_vi 2) (by decide +kernel) (by decide +kernel)) ?_
            refine gm_c_virt (k := 6) (ci := 2) (mj := 10) (ix := 48) (pc := 84) (as := [gm_vi (i : Int), gm_vi 2]) (st := [gm_vi (nfl N y wo i r0), gm_vr 206]) (d' := d - 1) (bc' := 0) (bs' := 0) (by decide +kernel) (by decide +kernel) (by decide +kernel) (by decide +kernel) (e0k hE (k := 6) (c := 2) (by decide +kernel)).1 (e0k hE (k := 6) (c := 2) (by decide +kernel)).2 (by decide) (by decide +kernel) (show 2 = gm_na 10 by decide +kernel) (fw_c2 fw_si fw_si) (show 3 ≤ gm_ml 10 by decide +kernel) (Nat.le_of_ble_eq_true rfl) (by omega) (Nat.zero_le _) (Nat.zero_le _) ?_
            refine rw_get (s := N 5) (w := 3) (x := N (71 + ((i : Int) * 3 + 2))) (e0k hE (k := 6) (c := 2) (by decide +kernel)) (e0a hE (k := 7) (q := ((0 : Nat), (24 : Nat))) (by decide +kernel)) (e0r hE (k := 6) (j := 2) (r := 7) (by decide +kernel)) (by decide) ((fr_c hf (by decide)).trans (ti_flo hT)) ((fr_c hf (by decide)).trans (hT.1 (6, 1, 3) (by decide))) ⟨by omega, by omega⟩ ⟨by omega, by omega⟩ ⟨by omega, by omega⟩ ⟨by omega, by omega⟩ ((fr_c hf (by decide)).trans (ti_aF hT (by omega) (by omega))) ?_
            show gm_Wp X LX d _ _ 43 87 _ [gm_vi (N (71 + ((i : Int) * 3 + 2))), gm_vi (nfl N y wo i r0), gm_vr 206] n K _ _ Q
            refine gm_sz (gm_p_bin (pc := 87) (i := .iadd) (f := fun x y => x + y) (by decide +kernel) rfl) ?_
            refine gm_sz (fw_pi (pc := 88) (ix := 22) (ci := 5) (j := 5) (M' := gm_uM M1 206 5 ((nfl N y wo i r0) + (N (71 + ((i : Int) * 3 + 2))))) (by decide +kernel) (e0k hE (k := 206) (c := 5) (by decide +kernel)) (by decide +kernel) (by decide +kernel) (by decide +kernel) rfl) ?_
            refine gm_sz (gm_p_load (pc := 91) (i := .aload_n 0) (sr := 2) (j := 0) (by decide +kernel) rfl rfl rfl) ?_
            refine gm_sz (gm_p_dup (pc := 92) (by decide +kernel) fw_sr) ?_
            refine gm_sz (fw_gi (pc := 93) (ix := 31) (ci := 5) (j := 8) (x := M1 206 8) (by decide +kernel) (e0k hE (k := 206) (c := 5) (by decide +kernel)) (by decide +kernel) (by decide +kernel) (uM_ne (by omega))) ?_
            refine gm_sz (gm_p_load (pc := 96) (i := .aload_n 1) (sr := 2) (j := 1) (by decide +kernel) rfl rfl rfl) ?_
            refine gm_sz (gm_p_load (pc := 97) (i := .iload_n 3) (sr := 0) (j := 3) (by decide +kernel) rfl rfl rfl) ?_
            refine gm_sz (gm_p_const (pc := 98) (i := .iconst 2) (v := gm_vi 2) (by decide +kernel) (by decide +kernel)) ?_
            refine gm_c_virt (k := 6) (ci := 2) (mj := 10) (ix := 48) (pc := 99) (as := [gm_vi (i : Int), gm_vi 2]) (st := [gm_vi (M1 206 8), gm_vr 206]) (d' := d - 1) (bc' := 0) (bs' := 0) (by decide +kernel) (by decide +kernel) (by decide +kernel) (by decide +kernel) (e0k hE (k := 6) (c := 2) (by decide +kernel)).1 (e0k hE (k := 6) (c := 2) (by decide +kernel)).2 (by decide) (by decide +kernel) (show 2 = gm_na 10 by decide +kernel) (fw_c2 fw_si fw_si) (show 3 ≤ gm_ml 10 by decide +kernel) (Nat.le_of_ble_eq_true rfl) (by omega) (Nat.zero_le _) (Nat.zero_le _) ?_
            refine rw_get (s := N 5) (w := 3) (x := N (71 + ((i : Int) * 3 + 2))) (e0k hE (k := 6) (c := 2) (by decide +kernel)) (e0a hE (k := 7) (q := ((0 : Nat), (24 : Nat))) (by decide +kernel)) (e0r hE (k := 6) (j := 2) (r := 7) (by decide +kernel)) (by decide) ((uM_ne (by omega)).trans ((fr_c hf (by decide)).trans (ti_flo hT))) ((uM_ne (by omega)).trans ((fr_c hf (by decide)).trans (hT.1 (6, 1, 3) (by decide)))) ⟨by omega, by omega⟩ ⟨by omega, by omega⟩ ⟨by omega, by omega⟩ ⟨by omega, by omega⟩ ((uM_ne (by omega)).trans ((fr_c hf (by decide)).trans (ti_aF hT (by omega) (by omega)))) ?_
            show gm_Wp X LX d _ _ 43 102 _ [gm_vi (N (71 + ((i : Int) * 3 + 2))), gm_vi (M1 206 8), gm_vr 206] n K _ _ Q
            refine gm_sz (gm_p_bin (pc := 102) (i := .iadd) (f := fun x y => x + y) (by decide +kernel) rfl) ?_
            refine gm_sz (fw_pi (pc := 103) (ix := 31) (ci := 5) (j := 8) (M' := gm_uM (gm_uM M1 206 5 ((nfl N y wo i r0) + (N (71 + ((i : Int) * 3 + 2))))) 206 8 ((M1 206 8) + (N (71 + ((i : Int) * 3 + 2))))) (by decide +kernel) (e0k hE (k := 206) (c := 5) (by decide +kernel)) (by decide +kernel) (by decide +kernel) (by decide +kernel) rfl) ?_
            refine gm_sz (gm_p_iinc (pc := 106) (j := 3) (z := 1) (by decide +kernel) rfl) ?_
            refine gm_sz (gm_p_goto (pc := 109) (off := (-87)) (by decide +kernel) (by decide)) ?_
            have e9 : nfl N y wo (i + 1) r0 = (nfl N y wo i r0) + (N (71 + ((i : Int) * 3 + 2))) := nfl_t h39 (hbi.mp h48).2 (by omega)
            exact ih (i + 1) _ _ (by omega) (fr_p (fr_p (fr_t fr_0 hf (by decide)) (Or.inr (by decide))) (Or.inr (by decide))) (((uM_ne (by omega)).trans uM_at).trans e9.symm)
theorem wy_c43_206 (hd : 1 ≤ d) (hE : E0 n K R) (hT : TI N h sp M) (hN : NR N) {wo y r0 : Int} (hwo : M 206 4 = wo) (h5 : M 206 5 = r0) (h7 : M 206 7 = y) (hy : 0 ≤ y ∧ y < 300) (hw : gm_ir wo) (hr : -1 ≤ r0 ∧ r0 ≤ 10000) (hq : ∀ M2, fr [((206 : Nat), some (5 : Int)), ((206 : Nat), some (8 : Int))] M M2 → M2 206 5 = nfl N y wo (N 5).toNat r0 → Q (.inl none) n K R M2) : gm_Wp X LX d bc bs 43 0 (gm_ent 43 [gm_vr 206]) [] n K R M Q := by
  have a5 := hN.2.1.2.1
  obtain ⟨-, -, hb⟩ := hT.2.2.1 y hy.1 hy.2
  refine gm_sz (gm_p_load (pc := 0) (i := .aload_n 0) (sr := 2) (j := 0) (by decide +kernel) rfl rfl rfl) ?_
  refine gm_sz (fw_gr (pc := 1) (ix := 34) (ci := 5) (j := 0) (r := 3) (by decide +kernel) (e0k hE (k := 206) (c := 5) (by decide +kernel)) (by decide +kernel) (by decide +kernel) (e0r hE (k := 206) (j := 0) (r := 3) (by decide +kernel))) ?_
  refine gm_sz (fw_gr (pc := 4) (ix := 103) (ci := 1) (j := 10) (r := 6) (by decide +kernel) (e0k hE (k := 3) (c := 1) (by decide +kernel)) (by decide +kernel) (by decide +kernel) (e0r hE (k := 3) (j := 10) (r := 6) (by decide +kernel))) ?_
  refine gm_sz (gm_p_stor (pc := 7) (i := .astore_n 1) (sr := 2) (j := 1) (by decide +kernel) rfl (show 2 ≤ _ from Nat.le_of_ble_eq_true rfl) rfl) ?_
  refine gm_sz (gm_p_load (pc := 8) (i := .aload_n 0) (sr := 2) (j := 0) (by decide +kernel) rfl rfl rfl) ?_
  refine gm_sz (fw_gr (pc := 9) (ix := 38) (ci := 5) (j := 1) (r := 200) (by decide +kernel) (e0k hE (k := 206) (c := 5) (by decide +kernel)) (by decide +kernel) (by decide +kernel) (e0r hE (k := 206) (j := 1) (r := 200) (by decide +kernel))) ?_
  refine gm_sz (gm_p_load (pc := 12) (i := .aload_n 0) (sr := 2) (j := 0) (by decide +kernel) rfl rfl rfl) ?_
  refine gm_sz (fw_gi (pc := 13) (ix := 28) (ci := 5) (j := 7) (x := y) (by decide +kernel) (e0k hE (k := 206) (c := 5) (by decide +kernel)) (by decide +kernel) (by decide +kernel) h7) ?_
  refine gm_c_virt (k := 200) (ci := 4) (mj := 44) (ix := 106) (pc := 16) (as := [gm_vi y]) (st := []) (d' := d - 1) (bc' := 0) (bs' := 0) (by decide +kernel) (by decide +kernel) (by decide +kernel) (by decide +kernel) (e0k hE (k := 200) (c := 4) (by decide +kernel)).1 (e0k hE (k := 200) (c := 4) (by decide +kernel)).2 (by decide) (by decide +kernel) (show 1 = gm_na 44 by decide +kernel) (fw_c1 fw_si) (show 2 ≤ gm_ml 44 by decide +kernel) (Nat.le_of_ble_eq_true rfl) (by omega) (Nat.zero_le _) (Nat.zero_le _) ?_
  refine ic_flds hE hT hN ⟨by omega, by omega⟩ ?_
  show gm_Wp X LX d _ _ 43 19 _ [gm_vi (M 203 y)] n K _ _ Q
  refine gm_sz (gm_p_stor (pc := 19) (i := .istore_n 2) (sr := 0) (j := 2) (by decide +kernel) rfl (show 3 ≤ _ from Nat.le_of_ble_eq_true rfl) rfl) ?_
  refine gm_sz (gm_p_const (pc := 20) (i := .iconst 0) (v := gm_vi 0) (by decide +kernel) (by decide +kernel)) ?_
  refine gm_sz (gm_p_stor (pc := 21) (i := .istore_n 3) (sr := 0) (j := 3) (by decide +kernel) rfl (show 4 ≤ _ from Nat.le_of_ble_eq_true rfl) rfl) ?_
  exact wy_fl206 hd hE hT hN hwo hb hw hr hq (N 5).toNat 0 _ M (by omega) fr_0 h5
theorem wy_fl207 (hd : 1 ≤ d) (hE : E0 n K R) (hT : TI N h sp M) (hN : NR N) {b wo y r0 : Int} (hwo : M 207 4 = wo) (hb : gm_ir b ∧ fbit N y b) (hw : gm_ir wo) (hr : -1 ≤ r0 ∧ r0 ≤ 10000) (hq : ∀ M2, fr [((207 : Nat), some (5 : Int)), ((207 : Nat), some (8 : Int))] M M2 → M2 207 5 = nfl N y wo (N 5).toNat r0 → Q (.inl none) n K R M2) : ∀ (u i : Nat) (z : Option gm_V) (M1 : gm_M), (i : Int) + (u : Int) = N 5 → fr [((207 : Nat), some (5 : Int)), ((207 : Nat), some (8 : Int))] M M1 → M1 207 5 = nfl N y wo i r0 → gm_Wp X LX d bc bs 43 22 [some (gm_vr 207), some (gm_vr 6), some (gm_vi b), some (gm_vi (i : Int)), z] [] n K R M1 Q := by
  obtain ⟨⟨⟨a0, b0⟩, ⟨a1, b1⟩, ⟨a10, b10⟩, ⟨a11, b11⟩, ⟨a12, b12⟩, a9, b9⟩, ⟨⟨a2, b2⟩, ⟨a5, b5⟩, ⟨a3, b3⟩, ⟨a4, b4⟩, ⟨a6, b6⟩, ⟨a14, b14⟩, ⟨a7, b7⟩, a13, b13⟩, rF, rP, rL⟩ := id hN
  obtain ⟨⟨hb1, hb2⟩, hb3⟩ := hb
  obtain ⟨hw1, hw2⟩ := hw
  have rF2 : ∀ f : Int, 0 ≤ f → f < N 5 → 0 ≤ (N (71 + (f * 3 + 2))) ∧ (N (71 + (f * 3 + 2))) ≤ 20 := fun f h1 h2 => (rF f h1 h2).2.2
  intro u
  induction u with
  | zero =>
    intro i z M1 hi hf h5
    have hin : i = (N 5).toNat := by omega
    obtain ⟨j1, j2⟩ := nfl_b (y := y) (wo := wo) (r := r0) rF2 i (by omega)
    refine gm_sz (gm_p_load (pc := 22) (i := .iload_n 2) (sr := 0) (j := 2) (by decide +kernel) rfl rfl rfl) ?_
    refine fw_if (cc := .eq) (pc := 23) (off := 89) (by decide +kernel) (by decide) ⟨by omega, by omega⟩ (fun h23 => ?_) (fun h23 => ?_)
    · have h23 : b = 0 := h23
      exact gm_r_void (pc := 112) (by decide +kernel) (by decide +kernel) (hq M1 hf (by rw [← hin]; exact h5))
    · have h23 : ¬ b = 0 := h23
      refine gm_sz (gm_p_load (pc := 26) (i := .iload_n 3) (sr := 0) (j := 3) (by decide +kernel) rfl rfl rfl) ?_
      refine gm_sz (gm_p_load (pc := 27) (i := .aload_n 1) (sr := 2) (j := 1) (by decide +kernel) rfl rfl rfl) ?_
      refine gm_c_virt (k := 6) (ci := 2) (mj := 9) (ix := 109) (pc := 28) (as := []) (st := [gm_vi (i : Int)]) (d' := d - 1) (bc' := 0) (bs' := 0) (by decide +kernel) (by decide +kernel) (by decide +kernel) (by decide +kernel) (e0k hE (k := 6) (c := 2) (by decide +kernel)).1 (e0k hE (k := 6) (c := 2) (by decide +kernel)).2 (by decide) (by decide +kernel) (show 0 = gm_na 9 by decide +kernel) fw_c0 (show 1 ≤ gm_ml 9 by decide +kernel) (Nat.le_of_ble_eq_true rfl) (by omega) (Nat.zero_le _) (Nat.zero_le _) ?_
      refine rw_size (s := N 5) (e0k hE (k := 6) (c := 2) (by decide +kernel)) ((fr_c hf (by decide)).trans (ti_flo hT)) ?_
      show gm_Wp X LX d _ _ 43 31 _ [gm_vi (N 5), gm_vi (i : Int)] n K _ _ Q
      refine fw_ict (cc := .ge) (pc := 31) (off := 81) (by decide +kernel) (by decide) ⟨by omega, by omega⟩ ⟨by omega, by omega⟩ (show (N 5) ≤ (i : Int) by omega) ?_
      exact gm_r_void (pc := 112) (by decide +kernel) (by decide +kernel) (hq M1 hf (by rw [← hin]; exact h5))
  | succ u ih =>
    intro i z M1 hi hf h5
    have hbi := hb3 i (by omega)
    obtain ⟨j1, j2⟩ := nfl_b (y := y) (wo := wo) (r := r0) rF2 i (by omega)
    obtain ⟨⟨f0, f1⟩, ⟨f2, f3⟩, f4, f5⟩ := rF i (by omega) (by omega)
    refine gm_sz (gm_p_load (pc := 22) (i := .iload_n 2) (sr := 0) (j := 2) (by decide +kernel) rfl rfl rfl) ?_
    refine fw_if (cc := .eq) (pc := 23) (off := 89) (by decide +kernel) (by decide) ⟨by omega, by omega⟩ (fun h23 => ?_) (fun h23 => ?_)
    · have h23 : b = 0 := h23
      exact gm_r_void (pc := 112) (by decide +kernel) (by decide +kernel) (hq M1 hf (by rw [h5, show (N 5).toNat = i + (u + 1) by omega]; exact (nfl_no (u + 1) (fun f g1 g2 hh => fbit_0 (f := f) (by omega) (by have := (hb3 f (by omega)).mpr ⟨by omega, hh⟩; rwa [h23] at this))).symm))
    · have h23 : ¬ b = 0 := h23
      refine gm_sz (gm_p_load (pc := 26) (i := .iload_n 3) (sr := 0) (j := 3) (by decide +kernel) rfl rfl rfl) ?_
      refine gm_sz (gm_p_load (pc := 27) (i := .aload_n 1) (sr := 2) (j := 1) (by decide +kernel) rfl rfl rfl) ?_
      refine gm_c_virt (k := 6) (ci := 2) (mj := 9) (ix := 109) (pc := 28) (as := []) (st := [gm_vi (i : Int)]) (d' := d - 1) (bc' := 0) (bs' := 0) (by decide +kernel) (by decide +kernel) (by decide +kernel) (by decide +kernel) (e0k hE (k := 6) (c := 2) (by decide +kernel)).1 (e0k hE (k := 6) (c := 2) (by decide +kernel)).2 (by decide) (by decide +kernel) (show 0 = gm_na 9 by decide +kernel) fw_c0 (show 1 ≤ gm_ml 9 by decide +kernel) (Nat.le_of_ble_eq_true rfl) (by omega) (Nat.zero_le _) (Nat.zero_le _) ?_
      refine rw_size (s := N 5) (e0k hE (k := 6) (c := 2) (by decide +kernel)) ((fr_c hf (by decide)).trans (ti_flo hT)) ?_
      show gm_Wp X LX d _ _ 43 31 _ [gm_vi (N 5), gm_vi (i : Int)] n K _ _ Q
      refine fw_icf (cc := .ge) (pc := 31) (off := 81) (by decide +kernel) (by decide) ⟨by omega, by omega⟩ ⟨by omega, by omega⟩ (show ¬ (N 5) ≤ (i : Int) by omega) ?_
      refine gm_sz (gm_p_load (pc := 34) (i := .iload_n 3) (sr := 0) (j := 3) (by decide +kernel) rfl rfl rfl) ?_
      refine gm_sz (gm_p_load (pc := 35) (i := .aload_n 0) (sr := 2) (j := 0) (by decide +kernel) rfl rfl rfl) ?_
      refine gm_sz (fw_gi (pc := 36) (ix := 19) (ci := 5) (j := 4) (x := wo) (by decide +kernel) (e0k hE (k := 207) (c := 5) (by decide +kernel)) (by decide +kernel) (by decide +kernel) ((fr_j hf (by decide)).trans hwo)) ?_
      refine fw_ic (cc := .eq) (pc := 39) (off := 16) (by decide +kernel) (by decide) ⟨by omega, by omega⟩ ⟨by omega, by omega⟩ (fun h39 => ?_) (fun h39 => ?_)
      · have h39 : (i : Int) = wo := h39
        refine gm_sz (gm_p_const (pc := 55) (i := .iconst 0) (v := gm_vi 0) (by decide +kernel) (by decide +kernel)) ?_
        refine gm_sz (gm_p_stor (pc := 56) (i := .istore 4) (sr := 0) (j := 4) (by decide +kernel) rfl (show 5 ≤ _ from Nat.le_of_ble_eq_true rfl) rfl) ?_
        refine gm_sz (gm_p_load (pc := 58) (i := .iload 4) (sr := 0) (j := 4) (by decide +kernel) rfl rfl rfl) ?_
        refine fw_iftd (cc := .eq) (pc := 60) (off := 46) (by decide +kernel) (by decide) ⟨by decide, by decide⟩ (by decide) ?_
        refine gm_sz (gm_p_iinc (pc := 106) (j := 3) (z := 1) (by decide +kernel) rfl) ?_
        refine gm_sz (gm_p_goto (pc := 109) (off := (-87)) (by decide +kernel) (by decide)) ?_
        have e9 : nfl N y wo (i + 1) r0 = nfl N y wo i r0 := nfl_f (fun hh => by first | exact hh.1 h39 | exact h48 (hbi.mpr ⟨by omega, hh.2.1⟩) | (have := hh.2.2; omega))
        exact ih (i + 1) _ _ (by omega) (fr_t fr_0 hf (by decide)) (h5.trans e9.symm)
      · have h39 : ¬ (i : Int) = wo := h39
        refine gm_sz (gm_p_load (pc := 42) (i := .iload_n 2) (sr := 0) (j := 2) (by decide +kernel) rfl rfl rfl) ?_
        refine gm_sz (gm_p_load (pc := 43) (i := .iload_n 3) (sr := 0) (j := 3) (by decide +kernel) rfl rfl rfl) ?_
        refine gm_sz (gm_p_bin (pc := 44) (i := .ishr) (f := gm_shr) (by decide +kernel) rfl) ?_
        refine gm_sz (gm_p_const (pc := 45) (i := .iconst 1) (v := gm_vi 1) (by decide +kernel) (by decide +kernel)) ?_
        refine gm_sz (gm_p_bin (pc := 46) (i := .iand) (f := gm_and) (by decide +kernel) rfl) ?_
        refine gm_sz (gm_p_const (pc := 47) (i := .iconst 1) (v := gm_vi 1) (by decide +kernel) (by decide +kernel)) ?_
        refine fw_ic (cc := .ne) (pc := 48) (off := 7) (by decide +kernel) (by decide) and_ir ⟨by decide, by decide⟩ (fun h48 => ?_) (fun h48 => ?_)
        · have h48 : ¬ (gm_and (gm_shr b (i : Int)) 1) = 1 := h48
          refine gm_sz (gm_p_const (pc := 55) (i := .iconst 0) (v := gm_vi 0) (by decide +kernel) (by decide +kernel)) ?_
          refine gm_sz (gm_p_stor (pc := 56) (i := .istore 4) (sr := 0) (j := 4) (by decide +kernel) rfl (show 5 ≤ _ from Nat.le_of_ble_eq_true rfl) rfl) ?_
          refine gm_sz (gm_p_load (pc := 58) (i := .iload 4) (sr := 0) (j := 4) (by decide +kernel) rfl rfl rfl) ?_
          refine fw_iftd (cc := .eq) (pc := 60) (off := 46) (by decide +kernel) (by decide) ⟨by decide, by decide⟩ (by decide) ?_
          refine gm_sz (gm_p_iinc (pc := 106) (j := 3) (z := 1) (by decide +kernel) rfl) ?_
          refine gm_sz (gm_p_goto (pc := 109) (off := (-87)) (by decide +kernel) (by decide)) ?_
          have e9 : nfl N y wo (i + 1) r0 = nfl N y wo i r0 := nfl_f (fun hh => by first | exact hh.1 h39 | exact h48 (hbi.mpr ⟨by omega, hh.2.1⟩) | (have := hh.2.2; omega))
          exact ih (i + 1) _ _ (by omega) (fr_t fr_0 hf (by decide)) (h5.trans e9.symm)
        · have h48 : (gm_and (gm_shr b (i : Int)) 1) = 1 := Classical.not_not.mp h48
          refine gm_sz (gm_p_const (pc := 51) (i := .iconst 1) (v := gm_vi 1) (by decide +kernel) (by decide +kernel)) ?_
          refine gm_sz (gm_p_goto (pc := 52) (off := 4) (by decide +kernel) (by decide)) ?_
          refine gm_sz (gm_p_stor (pc := 56) (i := .istore 4) (sr := 0) (j := 4) (by decide +kernel) rfl (show 5 ≤ _ from Nat.le_of_ble_eq_true rfl) rfl) ?_
          refine gm_sz (gm_p_load (pc := 58) (i := .iload 4) (sr := 0) (j := 4) (by decide +kernel) rfl rfl rfl) ?_
          refine fw_iffd (cc := .eq) (pc := 60) (off := 46) (by decide +kernel) (by decide) ⟨by decide, by decide⟩ (by decide) ?_
          refine gm_sz (gm_p_load (pc := 63) (i := .aload_n 0) (sr := 2) (j := 0) (by decide +kernel) rfl rfl rfl) ?_
          refine gm_sz (fw_gi (pc := 64) (ix := 22) (ci := 5) (j := 5) (x := nfl N y wo i r0) (by decide +kernel) (e0k hE (k := 207) (c := 5) (by decide +kernel)) (by decide +kernel) (by decide +kernel) h5) ?_
          refine gm_sz (gm_p_load (pc := 67) (i := .aload_n 1) (sr := 2) (j := 1) (by decide +kernel) rfl rfl rfl) ?_
          refine gm_sz (gm_p_load (pc := 68) (i := .iload_n 3) (sr := 0) (j := 3) (by decide +kernel) rfl rfl rfl) ?_
          refine gm_sz (gm_p_const (pc := 69) (i := .iconst 1) (v := gm_vi 1) (by decide +kernel) (by decide +kernel)) ?_
          refine gm_c_virt (k := 6) (ci := 2) (mj := 10) (ix := 48) (pc := 70) (as := [gm_vi (i : Int), gm_vi 1]) (st := [gm_vi (nfl N y wo i r0)]) (d' := d - 1) (bc' := 0) (bs' := 0) (by decide +kernel) (by decide +kernel) (by decide +kernel) (by decide +kernel) (e0k hE (k := 6) (c := 2) (by decide +kernel)).1 (e0k hE (k := 6) (c := 2) (by decide +kernel)).2 (by decide) (by decide +kernel) (show 2 = gm_na 10 by decide +kernel) (fw_c2 fw_si fw_si) (show 3 ≤ gm_ml 10 by decide +kernel) (Nat.le_of_ble_eq_true rfl) (by omega) (Nat.zero_le _) (Nat.zero_le _) ?_
          refine rw_get (s := N 5) (w := 3) (x := N (71 + ((i : Int) * 3 + 1))) (e0k hE (k := 6) (c := 2) (by decide +kernel)) (e0a hE (k := 7) (q := ((0 : Nat), (24 : Nat))) (by decide +kernel)) (e0r hE (k := 6) (j := 2) (r := 7) (by decide +kernel)) (by decide) ((fr_c hf (by decide)).trans (ti_flo hT)) ((fr_c hf (by decide)).trans (hT.1 (6, 1, 3) (by decide))) ⟨by omega, by omega⟩ ⟨by omega, by omega⟩ ⟨by omega, by omega⟩ ⟨by omega, by omega⟩ ((fr_c hf (by decide)).trans (ti_aF hT (by omega) (by omega))) ?_
          show gm_Wp X LX d _ _ 43 73 _ [gm_vi (N (71 + ((i : Int) * 3 + 1))), gm_vi (nfl N y wo i r0)] n K _ _ Q
          refine fw_ic (cc := .lt) (pc := 73) (off := 33) (by decide +kernel) (by decide) ⟨by omega, by omega⟩ ⟨by omega, by omega⟩ (fun h73 => ?_) (fun h73 => ?_)
          · have h73 : (nfl N y wo i r0) < (N (71 + ((i : Int) * 3 + 1))) := h73
            refine gm_sz (gm_p_iinc (pc := 106) (j := 3) (z := 1) (by decide +kernel) rfl) ?_
            refine gm_sz (gm_p_goto (pc := 109) (off := (-87)) (by decide +kernel) (by decide)) ?_
            have e9 : nfl N y wo (i + 1) r0 = nfl N y wo i r0 := nfl_f (fun hh => by first | exact hh.1 h39 | exact h48 (hbi.mpr ⟨by omega, hh.2.1⟩) | (have := hh.2.2; omega))
            exact ih (i + 1) _ _ (by omega) (fr_t fr_0 hf (by decide)) (h5.trans e9.symm)
          · have h73 : ¬ (nfl N y wo i r0) < (N (71 + ((i : Int) * 3 + 1))) := h73
            refine gm_sz (gm_p_load (pc := 76) (i := .aload_n 0) (sr := 2) (j := 0) (by decide +kernel) rfl rfl rfl) ?_
            refine gm_sz (gm_p_dup (pc := 77) (by decide +kernel) fw_sr) ?_
            refine gm_sz (fw_gi (pc := 78) (ix := 22) (ci := 5) (j := 5) (x := nfl N y wo i r0) (by decide +kernel) (e0k hE (k := 207) (c := 5) (by decide +kernel)) (by decide +kernel) (by decide +kernel) h5) ?_
            refine gm_sz (gm_p_load (pc := 81) (i := .aload_n 1) (sr := 2) (j := 1) (by decide +kernel) rfl rfl rfl) ?_
            refine gm_sz (gm_p_load (pc := 82) (i := .iload_n 3) (sr := 0) (j := 3) (by decide +kernel) rfl rfl rfl) ?_
            refine gm_sz (gm_p_const (pc := 83) (i := .iconst 2) (v := gm_vi 2) (by decide +kernel) (by decide +kernel)) ?_
            refine gm_c_virt (k := 6) (ci := 2) (mj := 10) (ix := 48) (pc := 84) (as := [gm_vi (i : Int), gm_vi 2]) (st := [gm_vi (nfl N y wo i r0), gm_vr 207]) (d' := d - 1) (bc' := 0) (bs' := 0) (by decide +kernel) (by decide +kernel) (by decide +kernel) (by decide +kernel) (e0k hE (k := 6) (c := 2) (by decide +kernel)).1 (e0k hE (k := 6) (c := 2) (by decide +kernel)).2 (by decide) (by decide +kernel) (show 2 = gm_na 10 by decide +kernel) (fw_c2 fw_si fw_si) (show 3 ≤ gm_ml 10 by decide +kernel) (Nat.le_of_ble_eq_true rfl) (by omega) (Nat.zero_le _) (Nat.zero_le _) ?_
            refine rw_get (s := N 5) (w := 3) (x := N (71 + ((i : Int) * 3 + 2))) (e0k hE (k := 6) (c := 2) (by decide +kernel)) (e0a hE (k := 7) (q := ((0 : Nat), (24 : Nat))) (by decide +kernel)) (e0r hE (k := 6) (j := 2) (r := 7) (by decide +kernel)) (by decide) ((fr_c hf (by decide)).trans (ti_flo hT)) ((fr_c hf (by decide)).trans (hT.1 (6, 1, 3) (by decide))) ⟨by omega, by omega⟩ ⟨by omega, by omega⟩ ⟨by omega, by omega⟩ ⟨by omega, by omega⟩ ((fr_c hf (by decide)).trans (ti_aF hT (by omega) (by omega))) ?_
            show gm_Wp X LX d _ _ 43 87 _ [gm_vi (N (71 + ((i : Int) * 3 + 2))), gm_vi (nfl N y wo i r0), gm_vr 207] n K _ _ Q
            refine gm_sz (gm_p_bin (pc := 87) (i := .iadd) (f := fun x y => x + y) (by decide +kernel) rfl) ?_
            refine gm_sz (fw_pi (pc := 88) (ix := 22) (ci := 5) (j := 5) (M' := gm_uM M1 207 5 ((nfl N y wo i r0) + (N (71 + ((i : Int) * 3 + 2))))) (by decide +kernel) (e0k hE (k := 207) (c := 5) (by decide +kernel)) (by decide +kernel) (by decide +kernel) (by decide +kernel) rfl) ?_
            refine gm_sz (gm_p_load (pc := 91) (i := .aload_n 0) (sr := 2) (j := 0) (by decide +kernel) rfl rfl rfl) ?_
            refine gm_sz (gm_p_dup (pc := 92) (by decide +kernel) fw_sr) ?_
            refine gm_sz (fw_gi (pc := 93) (ix := 31) (ci := 5) (j := 8) (x := M1 207 8) (by decide +kernel) (e0k hE (k := 207) (c := 5) (by decide +kernel)) (by decide +kernel) (by decide +kernel) (uM_ne (by omega))) ?_
            refine gm_sz (gm_p_load (pc := 96) (i := .aload_n 1) (sr := 2) (j := 1) (by decide +kernel) rfl rfl rfl) ?_
            refine gm_sz (gm_p_load (pc := 97) (i := .iload_n 3) (sr := 0) (j := 3) (by decide +kernel) rfl rfl rfl) ?_
            refine gm_sz (gm_p_const (pc := 98) (i := .iconst 2) (v := gm_vi 2) (by decide +kernel) (by decide +kernel)) ?_
            refine gm_c_virt (k := 6) (ci := 2) (mj := 10) (ix := 48) (pc := 99) (as := [gm_vi (i : Int), gm_vi 2]) (st := [gm_vi (M1 207 8), gm_vr 207]) (d' := d - 1) (bc' := 0) (bs' := 0) (by decide +kernel) (by decide +kernel) (by decide +kernel) (by decide +kernel) (e0k hE (k := 6) (c := 2) (by decide +kernel)).1 (e0k hE (k := 6) (c := 2) (by decide +kernel)).2 (by decide) (by decide +kernel) (show 2 = gm_na 10 by decide +kernel) (fw_c2 fw_si fw_si) (show 3 ≤ gm_ml 10 by decide +kernel) (Nat.le_of_ble_eq_true rfl) (by omega) (Nat.zero_le _) (Nat.zero_le _) ?_
            refine rw_get (s := N 5) (w := 3) (x := N (71 + ((i : Int) * 3 + 2))) (e0k hE (k := 6) (c := 2) (by decide +kernel)) (e0a hE (k := 7) (q := ((0 : Nat), (24 : Nat))) (by decide +kernel)) (e0r hE (k := 6) (j := 2) (r := 7) (by decide +kernel)) (by decide) ((uM_ne (by omega)).trans ((fr_c hf (by decide)).trans (ti_flo hT))) ((uM_ne (by omega)).trans ((fr_c hf (by decide)).trans (hT.1 (6, 1, 3) (by decide)))) ⟨by omega, by omega⟩ ⟨by omega, by omega⟩ ⟨by omega, by omega⟩ ⟨by omega, by omega⟩ ((uM_ne (by omega)).trans ((fr_c hf (by decide)).trans (ti_aF hT (by omega) (by omega)))) ?_
            show gm_Wp X LX d _ _ 43 102 _ [gm_vi (N (71 + ((i : Int) * 3 + 2))), gm_vi (M1 207 8), gm_vr 207] n K _ _ Q
            refine gm_sz (gm_p_bin (pc := 102) (i := .iadd) (f := fun x y => x + y) (by decide +kernel) rfl) ?_
            refine gm_sz (fw_pi (pc := 103) (ix := 31) (ci := 5) (j := 8) (M' := gm_uM (gm_uM M1 207 5 ((nfl N y wo i r0) + (N (71 + ((i : Int) * 3 + 2))))) 207 8 ((M1 207 8) + (N (71 + ((i : Int) * 3 + 2))))) (by decide +kernel) (e0k hE (k := 207) (c := 5) (by decide +kernel)) (by decide +kernel) (by decide +kernel) (by decide +kernel) rfl) ?_
            refine gm_sz (gm_p_iinc (pc := 106) (j := 3) (z := 1) (by decide +kernel) rfl) ?_
            refine gm_sz (gm_p_goto (pc := 109) (off := (-87)) (by decide +kernel) (by decide)) ?_
            have e9 : nfl N y wo (i + 1) r0 = (nfl N y wo i r0) + (N (71 + ((i : Int) * 3 + 2))) := nfl_t h39 (hbi.mp h48).2 (by omega)
            exact ih (i + 1) _ _ (by omega) (fr_p (fr_p (fr_t fr_0 hf (by decide)) (Or.inr (by decide))) (Or.inr (by decide))) (((uM_ne (by omega)).trans uM_at).trans e9.symm)
theorem wy_c43_207 (hd : 1 ≤ d) (hE : E0 n K R) (hT : TI N h sp M) (hN : NR N) {wo y r0 : Int} (hwo : M 207 4 = wo) (h5 : M 207 5 = r0) (h7 : M 207 7 = y) (hy : 0 ≤ y ∧ y < 300) (hw : gm_ir wo) (hr : -1 ≤ r0 ∧ r0 ≤ 10000) (hq : ∀ M2, fr [((207 : Nat), some (5 : Int)), ((207 : Nat), some (8 : Int))] M M2 → M2 207 5 = nfl N y wo (N 5).toNat r0 → Q (.inl none) n K R M2) : gm_Wp X LX d bc bs 43 0 (gm_ent 43 [gm_vr 207]) [] n K R M Q := by
  have a5 := hN.2.1.2.1
  obtain ⟨-, -, hb⟩ := hT.2.2.1 y hy.1 hy.2
  refine gm_sz (gm_p_load (pc := 0) (i := .aload_n 0) (sr := 2) (j := 0) (by decide +kernel) rfl rfl rfl) ?_
  refine gm_sz (fw_gr (pc := 1) (ix := 34) (ci := 5) (j := 0) (r := 3) (by decide +kernel) (e0k hE (k := 207) (c := 5) (by decide +kernel)) (by decide +kernel) (by decide +kernel) (e0r hE (k := 207) (j := 0) (r := 3) (by decide +kernel))) ?_
  refine gm_sz (fw_gr (pc := 4) (ix := 103) (ci := 1) (j := 10) (r := 6) (by decide +kernel) (e0k hE (k := 3) (c := 1) (by decide +kernel)) (by decide +kernel) (by decide +kernel) (e0r hE (k := 3) (j := 10) (r := 6) (by decide +kernel))) ?_
  refine gm_sz (gm_p_stor (pc := 7) (i := .astore_n 1) (sr := 2) (j := 1) (by decide +kernel) rfl (show 2 ≤ _ from Nat.le_of_ble_eq_true rfl) rfl) ?_
  refine gm_sz (gm_p_load (pc := 8) (i := .aload_n 0) (sr := 2) (j := 0) (by decide +kernel) rfl rfl rfl) ?_
  refine gm_sz (fw_gr (pc := 9) (ix := 38) (ci := 5) (j := 1) (r := 200) (by decide +kernel) (e0k hE (k := 207) (c := 5) (by decide +kernel)) (by decide +kernel) (by decide +kernel) (e0r hE (k := 207) (j := 1) (r := 200) (by decide +kernel))) ?_
  refine gm_sz (gm_p_load (pc := 12) (i := .aload_n 0) (sr := 2) (j := 0) (by decide +kernel) rfl rfl rfl) ?_
  refine gm_sz (fw_gi (pc := 13) (ix := 28) (ci := 5) (j := 7) (x := y) (by decide +kernel) (e0k hE (k := 207) (c := 5) (by decide +kernel)) (by decide +kernel) (by decide +kernel) h7) ?_
  refine gm_c_virt (k := 200) (ci := 4) (mj := 44) (ix := 106) (pc := 16) (as := [gm_vi y]) (st := []) (d' := d - 1) (bc' := 0) (bs' := 0) (by decide +kernel) (by decide +kernel) (by decide +kernel) (by decide +kernel) (e0k hE (k := 200) (c := 4) (by decide +kernel)).1 (e0k hE (k := 200) (c := 4) (by decide +kernel)).2 (by decide) (by decide +kernel) (show 1 = gm_na 44 by decide +kernel) (fw_c1 fw_si) (show 2 ≤ gm_ml 44 by decide +kernel) (Nat.le_of_ble_eq_true rfl) (by omega) (Nat.zero_le _) (Nat.zero_le _) ?_
  refine ic_flds hE hT hN ⟨by omega, by omega⟩ ?_
  show gm_Wp X LX d _ _ 43 19 _ [gm_vi (M 203 y)] n K _ _ Q
  refine gm_sz (gm_p_stor (pc := 19) (i := .istore_n 2) (sr := 0) (j := 2) (by decide +kernel) rfl (show 3 ≤ _ from Nat.le_of_ble_eq_true rfl) rfl) ?_
  refine gm_sz (gm_p_const (pc := 20) (i := .iconst 0) (v := gm_vi 0) (by decide +kernel) (by decide +kernel)) ?_
  refine gm_sz (gm_p_stor (pc := 21) (i := .istore_n 3) (sr := 0) (j := 3) (by decide +kernel) rfl (show 4 ≤ _ from Nat.le_of_ble_eq_true rfl) rfl) ?_
  exact wy_fl207 hd hE hT hN hwo hb hw hr hq (N 5).toNat 0 _ M (by omega) fr_0 h5
end WY1
end
/-! 7a03.c3ro -/
section
/-! A WAY: a step, to its end, on to a year; FLOW by what is said of it (laid by wip/core/c3.py). -/
/-- what neither the remembered flows nor the law stand in -/
noncomputable def okF (W : List (Nat × Option Int)) : Bool := W.all fun w => decide (w.1 < 246) && (!(w.1 == 200) && !(w.1 == 205))
noncomputable def FSt (FI : gm_M → Prop) : Prop := ∀ (W : List (Nat × Option Int)) (M M2 : gm_M), okF W = true → fr W M M2 → FI M → FI M2
/-- flowAt, by what it answers -/
noncomputable def FLW (X : Int → Int) (LX n : Nat) (K : gm_K) (R : gm_R) (N h : Int → Int) (sp : Int → Int → Int) (FI : gm_M → Prop) (φ : Int → Int → Int → Int) : Prop := (∀ l r y, 0 ≤ φ l r y ∧ φ l r y ≤ 30) ∧ FSt FI ∧ ∀ (d bc bs : Nat) (M : gm_M) (Q : gm_Q) (lane row year : Int), 12 ≤ d → 0 ≤ lane ∧ lane < N 0 → 0 ≤ row ∧ row < N 1 → 0 ≤ year ∧ year < 300 → TI N h sp M → FI M → (∀ M2, fr [((200 : Nat), some (6 : Int)), ((204 : Nat), none), ((205 : Nat), none)] M M2 → FI M2 → Q (.inl (some (gm_vi (φ lane row year)))) n K R M2) → gm_Wp X LX d bc bs 35 0 (gm_ent 35 [gm_vr 200, gm_vi lane, gm_vi row, gm_vi year]) [] n K R M Q
/-- how deep a YEAR later -/
noncomputable def ndp (N h : Int → Int) (rock y : Int) (q : Int × Int) : Int := if ¬ rock = 0 then 0 else if q.1 < N 10 then min 99 (q.2 + N 11) else max 0 (q.2 - h y)
/-- a YEAR more: row, deep -/
noncomputable def nst (N h : Int → Int) (φ : Int → Int → Int → Int) (lane rock wo y : Int) (q : Int × Int) : Int × Int := if N 1 ≤ q.1 then q else (nfl N y wo (N 5).toNat (q.1 + φ lane q.1 y), ndp N h rock y q)
noncomputable def nwy (N h : Int → Int) (φ : Int → Int → Int → Int) (lane rock wo y0 r0 : Int) : Nat → Int × Int
  | 0 => (r0, 0)
  | k + 1 => nst N h φ lane rock wo (y0 + (k : Int)) (nwy N h φ lane rock wo y0 r0 k)
section WY2
variable {X : Int → Int} {LX d bc bs n : Nat} {K : gm_K} {R : gm_R} {M : gm_M} {Q : gm_Q} {lane rock wo y0 r0 r dp y lim : Int} {N h : Int → Int} {sp : Int → Int → Int} {FI : gm_M → Prop} {φ : Int → Int → Int → Int}
theorem ndp_b (hN : NR N) (hh : 0 ≤ h y ∧ h y ≤ 9) {q : Int × Int} (h2 : 0 ≤ q.2 ∧ q.2 ≤ 99) : 0 ≤ ndp N h rock y q ∧ ndp N h rock y q ≤ 99 := by
  have a := hN.1.2.2.2.1
  unfold ndp
  split
  · exact ⟨Int.le_refl _, by decide⟩
  · split
    · exact ⟨by omega, by omega⟩
    · exact ⟨by omega, by omega⟩
theorem nst_b (hN : NR N) (hφ : ∀ l r y, 0 ≤ φ l r y ∧ φ l r y ≤ 30) (hh : 0 ≤ h y ∧ h y ≤ 9) {q : Int × Int} (h1 : 0 ≤ q.1 ∧ q.1 ≤ 300) (h2 : 0 ≤ q.2 ∧ q.2 ≤ 99) : (0 ≤ (nst N h φ lane rock wo y q).1 ∧ (nst N h φ lane rock wo y q).1 ≤ 300) ∧ (0 ≤ (nst N h φ lane rock wo y q).2 ∧ (nst N h φ lane rock wo y q).2 ≤ 99) := by
  have a1 := hN.1.2.1
  have a5 := hN.2.1.2.1
  have f := hφ lane q.1 y
  unfold nst
  by_cases hq : N 1 ≤ q.1
  · rw [if_pos hq]
    exact ⟨h1, h2⟩
  · rw [if_neg hq]
    have b := nfl_b (N := N) (y := y) (wo := wo) (r := q.1 + φ lane q.1 y) (fun f h1 h2 => (hN.2.2.1 f h1 h2).2.2) (N 5).toNat (by omega)
    refine ⟨⟨?_, ?_⟩, ndp_b hN hh h2⟩
    · show 0 ≤ nfl N y wo (N 5).toNat (q.1 + φ lane q.1 y)
      omega
    · show nfl N y wo (N 5).toNat (q.1 + φ lane q.1 y) ≤ 300
      omega
theorem nwy_b (hN : NR N) (hφ : ∀ l r y, 0 ≤ φ l r y ∧ φ l r y ≤ 30) (hh : ∀ y, 0 ≤ y → y < 300 → 0 ≤ h y ∧ h y ≤ 9) (hy : 0 ≤ y0) (hr : 0 ≤ r0 ∧ r0 ≤ 300) : ∀ k : Nat, y0 + (k : Int) ≤ 300 → (0 ≤ (nwy N h φ lane rock wo y0 r0 k).1 ∧ (nwy N h φ lane rock wo y0 r0 k).1 ≤ 300) ∧ (0 ≤ (nwy N h φ lane rock wo y0 r0 k).2 ∧ (nwy N h φ lane rock wo y0 r0 k).2 ≤ 99) := by
  intro k
  induction k with
  | zero => intro _; exact ⟨hr, Int.le_refl 0, show (0 : Int) ≤ 99 by decide⟩
  | succ k ih =>
    intro hk
    obtain ⟨i1, i2⟩ := ih (by omega)
    exact nst_b hN hφ (hh _ (by omega) (by omega)) i1 i2
theorem wy_dq206 (hd : 1 ≤ d) (hE : E0 n K R) (hT : TI N h sp M) (hN : NR N) (h3 : M 206 3 = rock) (h5 : M 206 5 = r) (h6 : M 206 6 = dp) (h7 : M 206 7 = y) (g3 : 0 ≤ rock ∧ rock ≤ 1) (g5 : 0 ≤ r ∧ r ≤ 10000) (g6 : 0 ≤ dp ∧ dp ≤ 99) (g7 : 0 ≤ y ∧ y < 300) (hq : Q (.inl (some (gm_vi (ndp N h rock y (r, dp))))) n K R M) : gm_Wp X LX d bc bs 33 0 (gm_ent 33 [gm_vr 206]) [] n K R M Q := by
  subst h3 h5 h6 h7
  unfold ndp at hq
  refine wy_dp206 hd hE hT hN g3 g6 g5 g7 (fun a b => ?_) (fun a b => ?_) (fun a => ?_)
  · rw [if_neg (fun h => h a), if_neg (show ¬ (M 206 5 : Int) < N 10 by omega)] at hq
    exact hq
  · rw [if_neg (fun h => h a), if_pos (show (M 206 5 : Int) < N 10 by omega)] at hq
    exact hq
  · rw [if_pos a] at hq
    exact hq
theorem wy_step206 (hd : 14 ≤ d) (hE : E0 n K R) (hT : TI N h sp M) (hN : NR N) (hfw : FLW X LX n K R N h sp FI φ) (hI : FI M) (g2 : M 206 2 = lane) (g3 : M 206 3 = rock) (g4 : M 206 4 = wo) (g5 : M 206 5 = r) (g6 : M 206 6 = dp) (g7 : M 206 7 = y) (b2 : 0 ≤ lane ∧ lane < N 0) (b3 : 0 ≤ rock ∧ rock ≤ 1) (hwo9 : gm_ir wo) (b5 : 0 ≤ r ∧ r ≤ 300) (b6 : 0 ≤ dp ∧ dp ≤ 99) (b7 : 0 ≤ y ∧ y < 300) (hq : ∀ M2, fr [((206 : Nat), some (5 : Int)), ((206 : Nat), some (6 : Int)), ((206 : Nat), some (7 : Int)), ((206 : Nat), some (8 : Int)), ((200 : Nat), some (6 : Int)), ((204 : Nat), none), ((205 : Nat), none)] M M2 → FI M2 → M2 206 5 = (nst N h φ lane rock wo y (r, dp)).1 → M2 206 6 = (nst N h φ lane rock wo y (r, dp)).2 → M2 206 7 = y + 1 → Q (.inl none) n K R M2) : gm_Wp X LX d bc bs 32 0 (gm_ent 32 [gm_vr 206]) [] n K R M Q := by
  have n1 := hN.1.2.1
  refine gm_sz (gm_p_load (pc := 0) (i := .aload_n 0) (sr := 2) (j := 0) (by decide +kernel) rfl rfl rfl) ?_
  refine gm_c_virt (k := 206) (ci := 5) (mj := 31) (ix := 68) (pc := 1) (as := []) (st := []) (d' := d - 1) (bc' := 0) (bs' := 0) (by decide +kernel) (by decide +kernel) (by decide +kernel) (by decide +kernel) (e0k hE (k := 206) (c := 5) (by decide +kernel)).1 (e0k hE (k := 206) (c := 5) (by decide +kernel)).2 (by decide) (by decide +kernel) (show 0 = gm_na 31 by decide +kernel) fw_c0 (show 1 ≤ gm_ml 31 by decide +kernel) (Nat.le_of_ble_eq_true rfl) (by omega) (Nat.zero_le _) (Nat.zero_le _) ?_
  refine wy_out206 hE hT hN (by rw [show M 206 5 = r from g5]; exact ⟨by omega, by omega⟩) (fun o1 => ?_) (fun o1 => ?_)
  · show gm_Wp X LX d _ _ 32 4 _ [gm_vi 0] n K _ _ Q
    rw [show M 206 5 = r from g5] at o1
    have o1 : ¬ N 1 ≤ r := by omega
    refine fw_iffd (cc := .ne) (pc := 4) (off := 45) (by decide +kernel) (by decide) ⟨by decide, by decide⟩ (by decide) ?_
    refine gm_sz (gm_p_load (pc := 7) (i := .aload_n 0) (sr := 2) (j := 0) (by decide +kernel) rfl rfl rfl) ?_
    refine gm_c_virt (k := 206) (ci := 5) (mj := 33) (ix := 72) (pc := 8) (as := []) (st := []) (d' := d - 1) (bc' := 0) (bs' := 0) (by decide +kernel) (by decide +kernel) (by decide +kernel) (by decide +kernel) (e0k hE (k := 206) (c := 5) (by decide +kernel)).1 (e0k hE (k := 206) (c := 5) (by decide +kernel)).2 (by decide) (by decide +kernel) (show 0 = gm_na 33 by decide +kernel) fw_c0 (show 1 ≤ gm_ml 33 by decide +kernel) (Nat.le_of_ble_eq_true rfl) (by omega) (Nat.zero_le _) (Nat.zero_le _) ?_
    refine wy_dq206 (rock := rock) (r := r) (dp := dp) (y := y) (by omega) hE hT hN g3 g5 g6 g7 ⟨by omega, by omega⟩ ⟨by omega, by omega⟩ ⟨by omega, by omega⟩ ⟨by omega, by omega⟩ ?_
    show gm_Wp X LX d _ _ 32 11 _ [gm_vi (ndp N h rock y (r, dp))] n K _ _ Q
    refine gm_sz (gm_p_stor (pc := 11) (i := .istore_n 1) (sr := 0) (j := 1) (by decide +kernel) rfl (show 2 ≤ _ from Nat.le_of_ble_eq_true rfl) rfl) ?_
    refine gm_sz (gm_p_load (pc := 12) (i := .aload_n 0) (sr := 2) (j := 0) (by decide +kernel) rfl rfl rfl) ?_
    refine gm_sz (gm_p_dup (pc := 13) (by decide +kernel) fw_sr) ?_
    refine gm_sz (fw_gi (pc := 14) (ix := 22) (ci := 5) (j := 5) (x := r) (by decide +kernel) (e0k hE (k := 206) (c := 5) (by decide +kernel)) (by decide +kernel) (by decide +kernel) g5) ?_
    refine gm_sz (gm_p_load (pc := 17) (i := .aload_n 0) (sr := 2) (j := 0) (by decide +kernel) rfl rfl rfl) ?_
    refine gm_sz (fw_gr (pc := 18) (ix := 38) (ci := 5) (j := 1) (r := 200) (by decide +kernel) (e0k hE (k := 206) (c := 5) (by decide +kernel)) (by decide +kernel) (by decide +kernel) (e0r hE (k := 206) (j := 1) (r := 200) (by decide +kernel))) ?_
    refine gm_sz (gm_p_load (pc := 21) (i := .aload_n 0) (sr := 2) (j := 0) (by decide +kernel) rfl rfl rfl) ?_
    refine gm_sz (fw_gi (pc := 22) (ix := 9) (ci := 5) (j := 2) (x := lane) (by decide +kernel) (e0k hE (k := 206) (c := 5) (by decide +kernel)) (by decide +kernel) (by decide +kernel) g2) ?_
    refine gm_sz (gm_p_load (pc := 25) (i := .aload_n 0) (sr := 2) (j := 0) (by decide +kernel) rfl rfl rfl) ?_
    refine gm_sz (fw_gi (pc := 26) (ix := 22) (ci := 5) (j := 5) (x := r) (by decide +kernel) (e0k hE (k := 206) (c := 5) (by decide +kernel)) (by decide +kernel) (by decide +kernel) g5) ?_
    refine gm_sz (gm_p_load (pc := 29) (i := .aload_n 0) (sr := 2) (j := 0) (by decide +kernel) rfl rfl rfl) ?_
    refine gm_sz (fw_gi (pc := 30) (ix := 28) (ci := 5) (j := 7) (x := y) (by decide +kernel) (e0k hE (k := 206) (c := 5) (by decide +kernel)) (by decide +kernel) (by decide +kernel) g7) ?_
    refine gm_c_virt (k := 200) (ci := 4) (mj := 35) (ix := 76) (pc := 33) (as := [gm_vi lane, gm_vi r, gm_vi y]) (st := [gm_vi r, gm_vr 206]) (d' := d - 1) (bc' := 0) (bs' := 0) (by decide +kernel) (by decide +kernel) (by decide +kernel) (by decide +kernel) (e0k hE (k := 200) (c := 4) (by decide +kernel)).1 (e0k hE (k := 200) (c := 4) (by decide +kernel)).2 (by decide) (by decide +kernel) (show 3 = gm_na 35 by decide +kernel) (fw_c3 fw_si fw_si fw_si) (show 4 ≤ gm_ml 35 by decide +kernel) (Nat.le_of_ble_eq_true rfl) (by omega) (Nat.zero_le _) (Nat.zero_le _) ?_
    refine hfw.2.2 _ _ _ _ _ _ _ _ (by omega) ⟨by omega, by omega⟩ ⟨by omega, by omega⟩ ⟨by omega, by omega⟩ hT hI (fun M19 hf19 hI19 => ?_)
    show gm_Wp X LX d _ _ 32 36 _ [gm_vi (φ lane r y), gm_vi r, gm_vr 206] n K _ _ Q
    have hφ9 := hfw.1 lane r y
    refine gm_sz (gm_p_bin (pc := 36) (i := .iadd) (f := fun x y => x + y) (by decide +kernel) rfl) ?_
    refine gm_sz (fw_pi (pc := 37) (ix := 22) (ci := 5) (j := 5) (M' := gm_uM M19 206 5 (r + (φ lane r y))) (by decide +kernel) (e0k hE (k := 206) (c := 5) (by decide +kernel)) (by decide +kernel) (by decide +kernel) (by decide +kernel) rfl) ?_
    refine gm_sz (gm_p_load (pc := 40) (i := .aload_n 0) (sr := 2) (j := 0) (by decide +kernel) rfl rfl rfl) ?_
    refine gm_c_virt (k := 206) (ci := 5) (mj := 43) (ix := 82) (pc := 41) (as := []) (st := []) (d' := d - 1) (bc' := 0) (bs' := 0) (by decide +kernel) (by decide +kernel) (by decide +kernel) (by decide +kernel) (e0k hE (k := 206) (c := 5) (by decide +kernel)).1 (e0k hE (k := 206) (c := 5) (by decide +kernel)).2 (by decide) (by decide +kernel) (show 0 = gm_na 43 by decide +kernel) fw_c0 (show 1 ≤ gm_ml 43 by decide +kernel) (Nat.le_of_ble_eq_true rfl) (by omega) (Nat.zero_le _) (Nat.zero_le _) ?_
    refine wy_c43_206 (wo := wo) (r0 := r + (φ lane r y)) (y := y) (by omega) hE (ti_fr (W := [((200 : Nat), some (6 : Int)), ((204 : Nat), none), ((205 : Nat), none), ((206 : Nat), some (5 : Int))]) hT (fr_p (fr_t fr_0 hf19 (by decide)) (Or.inr (by decide))) (by decide) (by decide +kernel)) hN ((uM_ne (by omega)).trans ((fr_c hf19 (by decide)).trans g4)) uM_at ((uM_ne (by omega)).trans ((fr_c hf19 (by decide)).trans g7)) ⟨by omega, by omega⟩ hwo9 ⟨by omega, by omega⟩ (fun M28 hf28 e528 => ?_)
    show gm_Wp X LX d _ _ 32 44 _ [] n K _ _ Q
    refine gm_sz (gm_p_load (pc := 44) (i := .aload_n 0) (sr := 2) (j := 0) (by decide +kernel) rfl rfl rfl) ?_
    refine gm_sz (gm_p_load (pc := 45) (i := .iload_n 1) (sr := 0) (j := 1) (by decide +kernel) rfl rfl rfl) ?_
    refine gm_sz (fw_pi (pc := 46) (ix := 25) (ci := 5) (j := 6) (M' := gm_uM M28 206 6 (ndp N h rock y (r, dp))) (by decide +kernel) (e0k hE (k := 206) (c := 5) (by decide +kernel)) (by decide +kernel) (by decide +kernel) (by decide +kernel) rfl) ?_
    refine gm_sz (gm_p_load (pc := 49) (i := .aload_n 0) (sr := 2) (j := 0) (by decide +kernel) rfl rfl rfl) ?_
    refine gm_sz (gm_p_dup (pc := 50) (by decide +kernel) fw_sr) ?_
    refine gm_sz (fw_gi (pc := 51) (ix := 28) (ci := 5) (j := 7) (x := y) (by decide +kernel) (e0k hE (k := 206) (c := 5) (by decide +kernel)) (by decide +kernel) (by decide +kernel) ((uM_ne (by omega)).trans ((fr_j hf28 (by decide)).trans ((uM_ne (by omega)).trans ((fr_c hf19 (by decide)).trans g7))))) ?_
    refine gm_sz (gm_p_const (pc := 54) (i := .iconst 1) (v := gm_vi 1) (by decide +kernel) (by decide +kernel)) ?_
    refine gm_sz (gm_p_bin (pc := 55) (i := .iadd) (f := fun x y => x + y) (by decide +kernel) rfl) ?_
    refine gm_sz (fw_pi (pc := 56) (ix := 28) (ci := 5) (j := 7) (M' := gm_uM (gm_uM M28 206 6 (ndp N h rock y (r, dp))) 206 7 (y + 1)) (by decide +kernel) (e0k hE (k := 206) (c := 5) (by decide +kernel)) (by decide +kernel) (by decide +kernel) (by decide +kernel) rfl) ?_
    have e9 : nst N h φ lane rock wo y (r, dp) = (nfl N y wo (N 5).toNat (r + φ lane r y), ndp N h rock y (r, dp)) := if_neg o1
    rw [e9] at hq
    exact gm_r_void (pc := 59) (by decide +kernel) (by decide +kernel) (hq _ (fr_p (fr_p (fr_t (fr_p (fr_t fr_0 hf19 (by decide)) (Or.inr (by decide))) hf28 (by decide)) (Or.inr (by decide))) (Or.inr (by decide))) (hfw.2.1 [((206 : Nat), some (5 : Int)), ((206 : Nat), some (8 : Int)), ((206 : Nat), some (6 : Int)), ((206 : Nat), some (7 : Int))] _ _ (by decide) (fr_p (fr_p (fr_t (fr_p fr_0 (Or.inr (by decide))) hf28 (by decide)) (Or.inr (by decide))) (Or.inr (by decide))) hI19) ((uM_ne (by omega)).trans ((uM_ne (by omega)).trans e528)) ((uM_ne (by omega)).trans uM_at) uM_at)
  · show gm_Wp X LX d _ _ 32 4 _ [gm_vi 1] n K _ _ Q
    rw [show M 206 5 = r from g5] at o1
    have o1 : N 1 ≤ r := by omega
    refine fw_iftd (cc := .ne) (pc := 4) (off := 45) (by decide +kernel) (by decide) ⟨by decide, by decide⟩ (by decide) ?_
    refine gm_sz (gm_p_load (pc := 49) (i := .aload_n 0) (sr := 2) (j := 0) (by decide +kernel) rfl rfl rfl) ?_
    refine gm_sz (gm_p_dup (pc := 50) (by decide +kernel) fw_sr) ?_
    refine gm_sz (fw_gi (pc := 51) (ix := 28) (ci := 5) (j := 7) (x := y) (by decide +kernel) (e0k hE (k := 206) (c := 5) (by decide +kernel)) (by decide +kernel) (by decide +kernel) g7) ?_
    refine gm_sz (gm_p_const (pc := 54) (i := .iconst 1) (v := gm_vi 1) (by decide +kernel) (by decide +kernel)) ?_
    refine gm_sz (gm_p_bin (pc := 55) (i := .iadd) (f := fun x y => x + y) (by decide +kernel) rfl) ?_
    refine gm_sz (fw_pi (pc := 56) (ix := 28) (ci := 5) (j := 7) (M' := gm_uM M 206 7 (y + 1)) (by decide +kernel) (e0k hE (k := 206) (c := 5) (by decide +kernel)) (by decide +kernel) (by decide +kernel) (by decide +kernel) rfl) ?_
    have e9 : nst N h φ lane rock wo y (r, dp) = (r, dp) := if_pos o1
    rw [e9] at hq
    exact gm_r_void (pc := 59) (by decide +kernel) (by decide +kernel) (hq _ (fr_p fr_0 (Or.inr (by decide))) (hfw.2.1 [((206 : Nat), some (7 : Int))] _ _ (by decide) (fr_p fr_0 (Or.inr (by decide))) hI) ((uM_ne (by omega)).trans g5) ((uM_ne (by omega)).trans g6) uM_at)
theorem wy_ro206 (hd : 15 ≤ d) (hE : E0 n K R) (hT : TI N h sp M) (hN : NR N) (hfw : FLW X LX n K R N h sp FI φ) (g2 : M 206 2 = lane) (g3 : M 206 3 = rock) (g4 : M 206 4 = wo) (y9 : 0 ≤ y0) (b2 : 0 ≤ lane ∧ lane < N 0) (b3 : 0 ≤ rock ∧ rock ≤ 1) (hwo9 : gm_ir wo) (b5 : 0 ≤ r0 ∧ r0 ≤ 300) (hl : lim ≤ 299) (q1 : ∀ (j : Nat) M2, fr [((206 : Nat), some (5 : Int)), ((206 : Nat), some (6 : Int)), ((206 : Nat), some (7 : Int)), ((206 : Nat), some (8 : Int)), ((200 : Nat), some (6 : Int)), ((204 : Nat), none), ((205 : Nat), none)] M M2 → FI M2 → y0 + (j : Int) ≤ lim → N 1 ≤ (nwy N h φ lane rock wo y0 r0 j).1 → (∀ i, i < j → (nwy N h φ lane rock wo y0 r0 i).1 < N 1) → M2 206 5 = (nwy N h φ lane rock wo y0 r0 j).1 → M2 206 6 = (nwy N h φ lane rock wo y0 r0 j).2 → Q (.inl (some (gm_vi (y0 + (j : Int))))) n K R M2) (q0 : ∀ M2, fr [((206 : Nat), some (5 : Int)), ((206 : Nat), some (6 : Int)), ((206 : Nat), some (7 : Int)), ((206 : Nat), some (8 : Int)), ((200 : Nat), some (6 : Int)), ((204 : Nat), none), ((205 : Nat), none)] M M2 → FI M2 → (∀ j : Nat, y0 + (j : Int) ≤ lim → (nwy N h φ lane rock wo y0 r0 j).1 < N 1) → Q (.inl (some (gm_vi (-1)))) n K R M2) : ∀ (u k : Nat) (M1 : gm_M), (k : Int) + (u : Int) = lim + 1 - y0 → fr [((206 : Nat), some (5 : Int)), ((206 : Nat), some (6 : Int)), ((206 : Nat), some (7 : Int)), ((206 : Nat), some (8 : Int)), ((200 : Nat), some (6 : Int)), ((204 : Nat), none), ((205 : Nat), none)] M M1 → FI M1 → M1 206 5 = (nwy N h φ lane rock wo y0 r0 k).1 → M1 206 6 = (nwy N h φ lane rock wo y0 r0 k).2 → M1 206 7 = y0 + (k : Int) → (∀ i, i < k → (nwy N h φ lane rock wo y0 r0 i).1 < N 1) → gm_Wp X LX d bc bs 30 5 [some (gm_vr 206), some (gm_vi lim), some (gm_vi (y0 + (k : Int)))] [] n K R M1 Q := by
  have hh : ∀ y, 0 ≤ y → y < 300 → 0 ≤ h y ∧ h y ≤ 9 := fun y y1 y2 => (hT.2.2.1 y y1 y2).2.1
  have n1 := hN.1.2.1
  intro u
  induction u with
  | zero =>
    intro k M1 hk hf hI1 h5 h6 h7 hb
    refine gm_sz (gm_p_load (pc := 5) (i := .iload_n 2) (sr := 0) (j := 2) (by decide +kernel) rfl rfl rfl) ?_
    refine gm_sz (gm_p_load (pc := 6) (i := .iload_n 1) (sr := 0) (j := 1) (by decide +kernel) rfl rfl rfl) ?_
    refine fw_ict (cc := .gt) (pc := 7) (off := 22) (by decide +kernel) (by decide) ⟨by omega, by omega⟩ ⟨by omega, by omega⟩ (show lim < (y0 + (k : Int)) by omega) ?_
    refine gm_sz (gm_p_const (pc := 29) (i := .iconst (-1)) (v := gm_vi (-1)) (by decide +kernel) (by decide +kernel)) ?_
    exact gm_r_int (pc := 30) (by decide +kernel) (Or.inl (by decide +kernel)) (q0 M1 hf hI1 (fun j hj => hb j (by omega)))
  | succ u ih =>
    intro k M1 hk hf hI1 h5 h6 h7 hb
    obtain ⟨⟨w1, w2⟩, w3, w4⟩ := nwy_b (lane := lane) (rock := rock) (wo := wo) hN hfw.1 hh y9 b5 k (by omega)
    refine gm_sz (gm_p_load (pc := 5) (i := .iload_n 2) (sr := 0) (j := 2) (by decide +kernel) rfl rfl rfl) ?_
    refine gm_sz (gm_p_load (pc := 6) (i := .iload_n 1) (sr := 0) (j := 1) (by decide +kernel) rfl rfl rfl) ?_
    refine fw_icf (cc := .gt) (pc := 7) (off := 22) (by decide +kernel) (by decide) ⟨by omega, by omega⟩ ⟨by omega, by omega⟩ (show ¬ lim < (y0 + (k : Int)) by omega) ?_
    refine gm_sz (gm_p_load (pc := 10) (i := .aload_n 0) (sr := 2) (j := 0) (by decide +kernel) rfl rfl rfl) ?_
    refine gm_c_virt (k := 206) (ci := 5) (mj := 31) (ix := 68) (pc := 11) (as := []) (st := []) (d' := d - 1) (bc' := 0) (bs' := 0) (by decide +kernel) (by decide +kernel) (by decide +kernel) (by decide +kernel) (e0k hE (k := 206) (c := 5) (by decide +kernel)).1 (e0k hE (k := 206) (c := 5) (by decide +kernel)).2 (by decide) (by decide +kernel) (show 0 = gm_na 31 by decide +kernel) fw_c0 (show 1 ≤ gm_ml 31 by decide +kernel) (Nat.le_of_ble_eq_true rfl) (by omega) (Nat.zero_le _) (Nat.zero_le _) ?_
    refine wy_out206 hE (ti_fr (W := [((206 : Nat), some (5 : Int)), ((206 : Nat), some (6 : Int)), ((206 : Nat), some (7 : Int)), ((206 : Nat), some (8 : Int)), ((200 : Nat), some (6 : Int)), ((204 : Nat), none), ((205 : Nat), none)]) hT (fr_t fr_0 hf (by decide)) (by decide) (by decide +kernel)) hN (by rw [show M1 206 5 = (nwy N h φ lane rock wo y0 r0 k).1 from h5]; exact ⟨by omega, by omega⟩) (fun o11 => ?_) (fun o11 => ?_)
    · show gm_Wp X LX d _ _ 30 14 _ [gm_vi 0] n K _ _ Q
      rw [show M1 206 5 = (nwy N h φ lane rock wo y0 r0 k).1 from h5] at o11
      have o11 : ¬ N 1 ≤ (nwy N h φ lane rock wo y0 r0 k).1 := by omega
      refine fw_iftd (cc := .eq) (pc := 14) (off := 5) (by decide +kernel) (by decide) ⟨by decide, by decide⟩ (by decide) ?_
      refine gm_sz (gm_p_load (pc := 19) (i := .aload_n 0) (sr := 2) (j := 0) (by decide +kernel) rfl rfl rfl) ?_
      refine gm_c_virt (k := 206) (ci := 5) (mj := 32) (ix := 112) (pc := 20) (as := []) (st := []) (d' := d - 1) (bc' := 0) (bs' := 0) (by decide +kernel) (by decide +kernel) (by decide +kernel) (by decide +kernel) (e0k hE (k := 206) (c := 5) (by decide +kernel)).1 (e0k hE (k := 206) (c := 5) (by decide +kernel)).2 (by decide) (by decide +kernel) (show 0 = gm_na 32 by decide +kernel) fw_c0 (show 1 ≤ gm_ml 32 by decide +kernel) (Nat.le_of_ble_eq_true rfl) (by omega) (Nat.zero_le _) (Nat.zero_le _) ?_
      refine wy_step206 (lane := lane) (rock := rock) (wo := wo) (r := (nwy N h φ lane rock wo y0 r0 k).1) (dp := (nwy N h φ lane rock wo y0 r0 k).2) (y := y0 + (k : Int)) (by omega) hE (ti_fr (W := [((206 : Nat), some (5 : Int)), ((206 : Nat), some (6 : Int)), ((206 : Nat), some (7 : Int)), ((206 : Nat), some (8 : Int)), ((200 : Nat), some (6 : Int)), ((204 : Nat), none), ((205 : Nat), none)]) hT (fr_t fr_0 hf (by decide)) (by decide) (by decide +kernel)) hN hfw hI1 ((fr_j hf (by decide)).trans g2) ((fr_j hf (by decide)).trans g3) ((fr_j hf (by decide)).trans g4) h5 h6 h7 b2 b3 hwo9 ⟨by omega, by omega⟩ ⟨by omega, by omega⟩ ⟨by omega, by omega⟩ (fun M17 hf17 hI2 s5 s6 s7 => ?_)
      show gm_Wp X LX d _ _ 30 23 _ [] n K _ _ Q
      refine gm_sz (gm_p_iinc (pc := 23) (j := 2) (z := 1) (by decide +kernel) rfl) ?_
      refine gm_sz (gm_p_goto (pc := 26) (off := (-21)) (by decide +kernel) (by decide)) ?_
      rw [show y0 + (k : Int) + 1 = y0 + ((k + 1 : Nat) : Int) by omega]
      exact ih (k + 1) _ (by omega) (fr_t (fr_t fr_0 hf (by decide)) hf17 (by decide)) hI2 s5 s6 (by rw [s7]; omega) (fun i hi => by
        by_cases e : i = k
        · subst e; omega
        · exact hb i (by omega))
    · show gm_Wp X LX d _ _ 30 14 _ [gm_vi 1] n K _ _ Q
      rw [show M1 206 5 = (nwy N h φ lane rock wo y0 r0 k).1 from h5] at o11
      have o11 : N 1 ≤ (nwy N h φ lane rock wo y0 r0 k).1 := by omega
      refine fw_iffd (cc := .eq) (pc := 14) (off := 5) (by decide +kernel) (by decide) ⟨by decide, by decide⟩ (by decide) ?_
      refine gm_sz (gm_p_load (pc := 17) (i := .iload_n 2) (sr := 0) (j := 2) (by decide +kernel) rfl rfl rfl) ?_
      exact gm_r_int (pc := 18) (by decide +kernel) (Or.inl (by decide +kernel)) (q1 k M1 hf hI1 (by omega) o11 hb h5 h6)
theorem wy_c30_206 (hd : 15 ≤ d) (hE : E0 n K R) (hT : TI N h sp M) (hN : NR N) (hfw : FLW X LX n K R N h sp FI φ) (hI : FI M) (g2 : M 206 2 = lane) (g3 : M 206 3 = rock) (g4 : M 206 4 = wo) (g5 : M 206 5 = r0) (g6 : M 206 6 = 0) (g7 : M 206 7 = y0) (y9 : 0 ≤ y0) (b2 : 0 ≤ lane ∧ lane < N 0) (b3 : 0 ≤ rock ∧ rock ≤ 1) (hwo9 : gm_ir wo) (b5 : 0 ≤ r0 ∧ r0 ≤ 300) (hy : y0 ≤ 299) (hl : lim ≤ 299) (hl0 : -1 ≤ lim) (q1 : ∀ (j : Nat) M2, fr [((206 : Nat), some (5 : Int)), ((206 : Nat), some (6 : Int)), ((206 : Nat), some (7 : Int)), ((206 : Nat), some (8 : Int)), ((200 : Nat), some (6 : Int)), ((204 : Nat), none), ((205 : Nat), none)] M M2 → FI M2 → y0 + (j : Int) ≤ lim → N 1 ≤ (nwy N h φ lane rock wo y0 r0 j).1 → (∀ i, i < j → (nwy N h φ lane rock wo y0 r0 i).1 < N 1) → M2 206 5 = (nwy N h φ lane rock wo y0 r0 j).1 → M2 206 6 = (nwy N h φ lane rock wo y0 r0 j).2 → Q (.inl (some (gm_vi (y0 + (j : Int))))) n K R M2) (q0 : ∀ M2, fr [((206 : Nat), some (5 : Int)), ((206 : Nat), some (6 : Int)), ((206 : Nat), some (7 : Int)), ((206 : Nat), some (8 : Int)), ((200 : Nat), some (6 : Int)), ((204 : Nat), none), ((205 : Nat), none)] M M2 → FI M2 → (∀ j : Nat, y0 + (j : Int) ≤ lim → (nwy N h φ lane rock wo y0 r0 j).1 < N 1) → Q (.inl (some (gm_vi (-1)))) n K R M2) : gm_Wp X LX d bc bs 30 0 (gm_ent 30 [gm_vr 206, gm_vi lim]) [] n K R M Q := by
  by_cases hle : y0 ≤ lim + 1
  · refine gm_sz (gm_p_load (pc := 0) (i := .aload_n 0) (sr := 2) (j := 0) (by decide +kernel) rfl rfl rfl) ?_
    refine gm_sz (fw_gi (pc := 1) (ix := 28) (ci := 5) (j := 7) (x := y0) (by decide +kernel) (e0k hE (k := 206) (c := 5) (by decide +kernel)) (by decide +kernel) (by decide +kernel) g7) ?_
    refine gm_sz (gm_p_stor (pc := 4) (i := .istore_n 2) (sr := 0) (j := 2) (by decide +kernel) rfl (show 3 ≤ _ from Nat.le_of_ble_eq_true rfl) rfl) ?_
    have q := wy_ro206 (bc := bc) (bs := bs) hd hE hT hN hfw g2 g3 g4 y9 b2 b3 hwo9 b5 hl q1 q0 (lim + 1 - y0).toNat 0 M (by omega) fr_0 hI g5 g6 (by rw [g7]; omega) (fun i hi => by omega)
    rw [show y0 + ((0 : Nat) : Int) = y0 by omega] at q
    exact q
  · refine gm_sz (gm_p_load (pc := 0) (i := .aload_n 0) (sr := 2) (j := 0) (by decide +kernel) rfl rfl rfl) ?_
    refine gm_sz (fw_gi (pc := 1) (ix := 28) (ci := 5) (j := 7) (x := y0) (by decide +kernel) (e0k hE (k := 206) (c := 5) (by decide +kernel)) (by decide +kernel) (by decide +kernel) g7) ?_
    refine gm_sz (gm_p_stor (pc := 4) (i := .istore_n 2) (sr := 0) (j := 2) (by decide +kernel) rfl (show 3 ≤ _ from Nat.le_of_ble_eq_true rfl) rfl) ?_
    refine gm_sz (gm_p_load (pc := 5) (i := .iload_n 2) (sr := 0) (j := 2) (by decide +kernel) rfl rfl rfl) ?_
    refine gm_sz (gm_p_load (pc := 6) (i := .iload_n 1) (sr := 0) (j := 1) (by decide +kernel) rfl rfl rfl) ?_
    refine fw_ict (cc := .gt) (pc := 7) (off := 22) (by decide +kernel) (by decide) ⟨by omega, by omega⟩ ⟨by omega, by omega⟩ (show lim < y0 by omega) ?_
    refine gm_sz (gm_p_const (pc := 29) (i := .iconst (-1)) (v := gm_vi (-1)) (by decide +kernel) (by decide +kernel)) ?_
    exact gm_r_int (pc := 30) (by decide +kernel) (Or.inl (by decide +kernel)) (q0 M fr_0 hI (fun j hj => by omega))
theorem wy_go206 (hd : 15 ≤ d) (hE : E0 n K R) (hT : TI N h sp M) (hN : NR N) (hfw : FLW X LX n K R N h sp FI φ) (g2 : M 206 2 = lane) (g3 : M 206 3 = rock) (g4 : M 206 4 = wo) (y9 : 0 ≤ y0) (b2 : 0 ≤ lane ∧ lane < N 0) (b3 : 0 ≤ rock ∧ rock ≤ 1) (hwo9 : gm_ir wo) (b5 : 0 ≤ r0 ∧ r0 ≤ 300) (hl : lim ≤ 300) (hq : ∀ M2, fr [((206 : Nat), some (5 : Int)), ((206 : Nat), some (6 : Int)), ((206 : Nat), some (7 : Int)), ((206 : Nat), some (8 : Int)), ((200 : Nat), some (6 : Int)), ((204 : Nat), none), ((205 : Nat), none)] M M2 → FI M2 → M2 206 5 = (nwy N h φ lane rock wo y0 r0 (lim - y0).toNat).1 → M2 206 6 = (nwy N h φ lane rock wo y0 r0 (lim - y0).toNat).2 → M2 206 7 = lim → Q (.inl none) n K R M2) : ∀ (u k : Nat) (M1 : gm_M), (k : Int) + (u : Int) = lim - y0 → fr [((206 : Nat), some (5 : Int)), ((206 : Nat), some (6 : Int)), ((206 : Nat), some (7 : Int)), ((206 : Nat), some (8 : Int)), ((200 : Nat), some (6 : Int)), ((204 : Nat), none), ((205 : Nat), none)] M M1 → FI M1 → M1 206 5 = (nwy N h φ lane rock wo y0 r0 k).1 → M1 206 6 = (nwy N h φ lane rock wo y0 r0 k).2 → M1 206 7 = y0 + (k : Int) → gm_Wp X LX d bc bs 148 5 [some (gm_vr 206), some (gm_vi lim), some (gm_vi (y0 + (k : Int)))] [] n K R M1 Q := by
  have hh : ∀ y, 0 ≤ y → y < 300 → 0 ≤ h y ∧ h y ≤ 9 := fun y y1 y2 => (hT.2.2.1 y y1 y2).2.1
  have n1 := hN.1.2.1
  intro u
  induction u with
  | zero =>
    intro k M1 hk hf hI1 h5 h6 h7
    have ek : (lim - y0).toNat = k := by omega
    rw [ek] at hq
    refine gm_sz (gm_p_load (pc := 5) (i := .iload_n 2) (sr := 0) (j := 2) (by decide +kernel) rfl rfl rfl) ?_
    refine gm_sz (gm_p_load (pc := 6) (i := .iload_n 1) (sr := 0) (j := 1) (by decide +kernel) rfl rfl rfl) ?_
    refine fw_ict (cc := .ge) (pc := 7) (off := 13) (by decide +kernel) (by decide) ⟨by omega, by omega⟩ ⟨by omega, by omega⟩ (show lim ≤ (y0 + (k : Int)) by omega) ?_
    exact gm_r_void (pc := 20) (by decide +kernel) (by decide +kernel) (hq M1 hf hI1 h5 h6 (by rw [h7]; omega))
  | succ u ih =>
    intro k M1 hk hf hI1 h5 h6 h7
    obtain ⟨⟨w1, w2⟩, w3, w4⟩ := nwy_b (lane := lane) (rock := rock) (wo := wo) hN hfw.1 hh y9 b5 k (by omega)
    refine gm_sz (gm_p_load (pc := 5) (i := .iload_n 2) (sr := 0) (j := 2) (by decide +kernel) rfl rfl rfl) ?_
    refine gm_sz (gm_p_load (pc := 6) (i := .iload_n 1) (sr := 0) (j := 1) (by decide +kernel) rfl rfl rfl) ?_
    refine fw_icf (cc := .ge) (pc := 7) (off := 13) (by decide +kernel) (by decide) ⟨by omega, by omega⟩ ⟨by omega, by omega⟩ (show ¬ lim ≤ (y0 + (k : Int)) by omega) ?_
    refine gm_sz (gm_p_load (pc := 10) (i := .aload_n 0) (sr := 2) (j := 0) (by decide +kernel) rfl rfl rfl) ?_
    refine gm_c_virt (k := 206) (ci := 5) (mj := 32) (ix := 112) (pc := 11) (as := []) (st := []) (d' := d - 1) (bc' := 0) (bs' := 0) (by decide +kernel) (by decide +kernel) (by decide +kernel) (by decide +kernel) (e0k hE (k := 206) (c := 5) (by decide +kernel)).1 (e0k hE (k := 206) (c := 5) (by decide +kernel)).2 (by decide) (by decide +kernel) (show 0 = gm_na 32 by decide +kernel) fw_c0 (show 1 ≤ gm_ml 32 by decide +kernel) (Nat.le_of_ble_eq_true rfl) (by omega) (Nat.zero_le _) (Nat.zero_le _) ?_
    refine wy_step206 (lane := lane) (rock := rock) (wo := wo) (r := (nwy N h φ lane rock wo y0 r0 k).1) (dp := (nwy N h φ lane rock wo y0 r0 k).2) (y := y0 + (k : Int)) (by omega) hE (ti_fr (W := [((206 : Nat), some (5 : Int)), ((206 : Nat), some (6 : Int)), ((206 : Nat), some (7 : Int)), ((206 : Nat), some (8 : Int)), ((200 : Nat), some (6 : Int)), ((204 : Nat), none), ((205 : Nat), none)]) hT (fr_t fr_0 hf (by decide)) (by decide) (by decide +kernel)) hN hfw hI1 ((fr_j hf (by decide)).trans g2) ((fr_j hf (by decide)).trans g3) ((fr_j hf (by decide)).trans g4) h5 h6 h7 b2 b3 hwo9 ⟨by omega, by omega⟩ ⟨by omega, by omega⟩ ⟨by omega, by omega⟩ (fun M17 hf17 hI2 s5 s6 s7 => ?_)
    show gm_Wp X LX d _ _ 148 14 _ [] n K _ _ Q
    refine gm_sz (gm_p_iinc (pc := 14) (j := 2) (z := 1) (by decide +kernel) rfl) ?_
    refine gm_sz (gm_p_goto (pc := 17) (off := (-12)) (by decide +kernel) (by decide)) ?_
    rw [show y0 + (k : Int) + 1 = y0 + ((k + 1 : Nat) : Int) by omega]
    exact ih (k + 1) _ (by omega) (fr_t (fr_t fr_0 hf (by decide)) hf17 (by decide)) hI2 s5 s6 (by rw [s7]; omega)
theorem wy_c148_206 (hd : 15 ≤ d) (hE : E0 n K R) (hT : TI N h sp M) (hN : NR N) (hfw : FLW X LX n K R N h sp FI φ) (hI : FI M) (g2 : M 206 2 = lane) (g3 : M 206 3 = rock) (g4 : M 206 4 = wo) (g5 : M 206 5 = r0) (g6 : M 206 6 = 0) (g7 : M 206 7 = y0) (y9 : 0 ≤ y0) (b2 : 0 ≤ lane ∧ lane < N 0) (b3 : 0 ≤ rock ∧ rock ≤ 1) (hwo9 : gm_ir wo) (b5 : 0 ≤ r0 ∧ r0 ≤ 300) (hy : y0 ≤ lim) (hl : lim ≤ 300) (hq : ∀ M2, fr [((206 : Nat), some (5 : Int)), ((206 : Nat), some (6 : Int)), ((206 : Nat), some (7 : Int)), ((206 : Nat), some (8 : Int)), ((200 : Nat), some (6 : Int)), ((204 : Nat), none), ((205 : Nat), none)] M M2 → FI M2 → M2 206 5 = (nwy N h φ lane rock wo y0 r0 (lim - y0).toNat).1 → M2 206 6 = (nwy N h φ lane rock wo y0 r0 (lim - y0).toNat).2 → M2 206 7 = lim → Q (.inl none) n K R M2) : gm_Wp X LX d bc bs 148 0 (gm_ent 148 [gm_vr 206, gm_vi lim]) [] n K R M Q := by
  refine gm_sz (gm_p_load (pc := 0) (i := .aload_n 0) (sr := 2) (j := 0) (by decide +kernel) rfl rfl rfl) ?_
  refine gm_sz (fw_gi (pc := 1) (ix := 28) (ci := 5) (j := 7) (x := y0) (by decide +kernel) (e0k hE (k := 206) (c := 5) (by decide +kernel)) (by decide +kernel) (by decide +kernel) g7) ?_
  refine gm_sz (gm_p_stor (pc := 4) (i := .istore_n 2) (sr := 0) (j := 2) (by decide +kernel) rfl (show 3 ≤ _ from Nat.le_of_ble_eq_true rfl) rfl) ?_
  have q := wy_go206 (bc := bc) (bs := bs) hd hE hT hN hfw g2 g3 g4 y9 b2 b3 hwo9 b5 hl hq (lim - y0).toNat 0 M (by omega) fr_0 hI g5 g6 (by rw [g7]; omega)
  rw [show y0 + ((0 : Nat) : Int) = y0 by omega] at q
  exact q
end WY2
end
/-! 7a04.c5a -/
section
/-! FLOWS THAT ARE KEPT, five bits each in a long. -/
noncomputable def ll_shl (x y : Int) : Int := (Int64.ofInt x <<< ((Int32.ofInt y).toInt64 &&& 63)).toInt
noncomputable def ll_ushr (x y : Int) : Int := ((Int64.ofInt x).toUInt64 >>> ((Int32.ofInt y).toInt64.toUInt64 &&& Int64.toUInt64 63)).toInt64.toInt
/-- the five bits from s on -/
noncomputable def fld (x s : Int) : Int := gm_and (ll_ushr x s) 31
/-- f told there -/
noncomputable def fkeep (x s f : Int) : Int := gm_lor (gm_land x (gm_lxor (ll_shl 31 s) (-1))) (ll_shl f s)
noncomputable def bN (x : Int) : BitVec 64 := (Int64.ofInt x).toBitVec
theorem bN_toInt (z : Int64) : bN z.toInt = z.toBitVec := by unfold bN; rw [Int64.ofInt_toInt]
/-- the numbers that are shifted by -/
noncomputable def sh12 (s : Int) (k : Nat) : Prop := (((Int32.ofInt s).toInt64.toUInt64 &&& Int64.toUInt64 63).toBitVec % 64#64).toNat = k ∧ (((Int32.ofInt s).toInt64 &&& 63).toBitVec.smod 64#64).toNat = k ∧ k + 5 ≤ 60
theorem sh12_s {c : Int} (h : 0 ≤ c ∧ c < 12) : ∃ k : Nat, sh12 (c * 5) k ∧ (k : Int) = c * 5 := by
  have h12 : c = 0 ∨ c = 1 ∨ c = 2 ∨ c = 3 ∨ c = 4 ∨ c = 5 ∨ c = 6 ∨ c = 7 ∨ c = 8 ∨ c = 9 ∨ c = 10 ∨ c = 11 := by omega
  rcases h12 with rfl | rfl | rfl | rfl | rfl | rfl | rfl | rfl | rfl | rfl | rfl | rfl
  · exact ⟨0, ⟨by decide, by decide, by decide⟩, by decide⟩
  · exact ⟨5, ⟨by decide, by decide, by decide⟩, by decide⟩
  · exact ⟨10, ⟨by decide, by decide, by decide⟩, by decide⟩
  · exact ⟨15, ⟨by decide, by decide, by decide⟩, by decide⟩
  · exact ⟨20, ⟨by decide, by decide, by decide⟩, by decide⟩
  · exact ⟨25, ⟨by decide, by decide, by decide⟩, by decide⟩
  · exact ⟨30, ⟨by decide, by decide, by decide⟩, by decide⟩
  · exact ⟨35, ⟨by decide, by decide, by decide⟩, by decide⟩
  · exact ⟨40, ⟨by decide, by decide, by decide⟩, by decide⟩
  · exact ⟨45, ⟨by decide, by decide, by decide⟩, by decide⟩
  · exact ⟨50, ⟨by decide, by decide, by decide⟩, by decide⟩
  · exact ⟨55, ⟨by decide, by decide, by decide⟩, by decide⟩
theorem fld_31 (x : Int) : gm_and x 31 = (((bN x).toNat % 32 : Nat) : Int) := by
  unfold gm_and
  have e : (Int32.ofInt x &&& Int32.ofInt 31).toBitVec = BitVec.ofInt 32 x &&& 31#32 := rfl
  show (Int32.ofInt x &&& Int32.ofInt 31).toBitVec.toInt = _
  rw [e, BitVec.toInt_eq_toNat_cond, BitVec.toNat_and]
  have h1 : (BitVec.ofInt 32 x).toNat &&& (31#32).toNat = (BitVec.ofInt 32 x).toNat % 32 := Nat.and_two_pow_sub_one_eq_mod _ 5
  have h2 : ((bN x).toNat : Int) = x % 18446744073709551616 := by
    unfold bN
    show ((BitVec.ofInt 64 x).toNat : Int) = _
    rw [BitVec.toNat_ofInt]
    omega
  have h3 : ((BitVec.ofInt 32 x).toNat : Int) = x % 4294967296 := by
    rw [BitVec.toNat_ofInt]
    omega
  rw [h1]
  split <;> omega
theorem fld_n {x s : Int} {k : Nat} (hs : sh12 s k) : fld x s = (((bN x).toNat / 2 ^ k % 32 : Nat) : Int) := by
  have e1 : ((Int64.ofInt x).toUInt64 >>> ((Int32.ofInt s).toInt64.toUInt64 &&& Int64.toUInt64 63)).toInt64.toBitVec = (bN x) >>> k := by
    show ((Int64.ofInt x).toBitVec >>> (((Int32.ofInt s).toInt64.toUInt64 &&& Int64.toUInt64 63).toBitVec % 64#64)) = _
    rw [BitVec.ushiftRight_eq', hs.1]
    rfl
  unfold fld ll_ushr
  generalize ((Int64.ofInt x).toUInt64 >>> ((Int32.ofInt s).toInt64.toUInt64 &&& Int64.toUInt64 63)).toInt64 = z at e1 ⊢
  rw [fld_31, bN_toInt, e1, BitVec.toNat_ushiftRight, Nat.shiftRight_eq_div_pow]
theorem fld_eq {x y s s' : Int} {k k' : Nat} (hs : sh12 s k) (hs' : sh12 s' k') (h : ∀ i, i < 5 → (bN x).getLsbD (k + i) = (bN y).getLsbD (k' + i)) : fld x s = fld y s' := by
  rw [fld_n hs, fld_n hs']
  congr 1
  apply Nat.eq_of_testBit_eq
  intro i
  rw [show (32 : Nat) = 2 ^ 5 from rfl, Nat.testBit_mod_two_pow, Nat.testBit_mod_two_pow, Nat.testBit_div_two_pow, Nat.testBit_div_two_pow]
  by_cases hi : i < 5
  · have h9 : (bN x).toNat.testBit (k + i) = (bN y).toNat.testBit (k' + i) := h i hi
    rw [Nat.add_comm i k, Nat.add_comm i k', h9]
  · simp [hi]
theorem bN_or {a b : Int} : bN (gm_lor a b) = bN a ||| bN b := by unfold gm_lor; rw [bN_toInt]; rfl
theorem bN_and {a b : Int} : bN (gm_land a b) = bN a &&& bN b := by unfold gm_land; rw [bN_toInt]; rfl
theorem bN_xor {a b : Int} : bN (gm_lxor a b) = bN a ^^^ bN b := by unfold gm_lxor; rw [bN_toInt]; rfl
theorem bN_shl {a s : Int} {k : Nat} (hs : sh12 s k) : bN (ll_shl a s) = bN a <<< k := by
  unfold ll_shl
  rw [bN_toInt]
  show (Int64.ofInt a).toBitVec <<< (((Int32.ofInt s).toInt64 &&& 63).toBitVec.smod 64#64) = _
  rw [BitVec.shiftLeft_eq', hs.2.1]
  rfl
theorem b31 (i : Nat) : (bN 31).getLsbD i = decide (i < 5) := by
  have e : bN 31 = 31#64 := by decide
  rw [e]
  show (31#64).toNat.testBit i = _
  rw [show (31#64).toNat = 2 ^ 5 - 1 from rfl, Nat.testBit_two_pow_sub_one]
theorem bm1 (i : Nat) (h : i < 64) : (bN (-1)).getLsbD i = true := by
  have e : bN (-1) = BitVec.allOnes 64 := by decide
  rw [e, BitVec.getLsbD_allOnes]
  exact decide_eq_true h
theorem bf5 {f : Int} (hf : 0 ≤ f ∧ f < 32) (i : Nat) (h : 5 ≤ i) : (bN f).getLsbD i = false := by
  have e : (bN f).toNat < 32 := by
    unfold bN
    show (BitVec.ofInt 64 f).toNat < 32
    rw [BitVec.toNat_ofInt]
    omega
  show (bN f).toNat.testBit i = false
  exact Nat.testBit_lt_two_pow (Nat.lt_of_lt_of_le e (by
    have := Nat.pow_le_pow_right (n := 2) (by decide) h
    exact this))
theorem bN_keep {x s f : Int} {k : Nat} (hs : sh12 s k) (i : Nat) (hi : i < 64) : (bN (fkeep x s f)).getLsbD i = (((bN x).getLsbD i && !(decide (k ≤ i ∧ i < k + 5))) || (decide (k ≤ i) && (bN f).getLsbD (i - k))) := by
  unfold fkeep
  rw [bN_or, bN_and, bN_xor, bN_shl hs, bN_shl hs, BitVec.getLsbD_or, BitVec.getLsbD_and, BitVec.getLsbD_xor, BitVec.getLsbD_shiftLeft, BitVec.getLsbD_shiftLeft, b31, bm1 i hi]
  by_cases h1 : k ≤ i
  · by_cases h2 : i < k + 5
    · have h3 : i - k < 5 := by omega
      simp [h1, h2, h3, hi, Nat.not_lt.mpr h1]
    · have h3 : ¬ i - k < 5 := by omega
      simp [h1, h2, h3, hi, Nat.not_lt.mpr h1]
  · have h2 : i < k := by omega
    simp [h1, h2, hi]
theorem fld_new {x s f : Int} {k : Nat} (hs : sh12 s k) (hf : 0 ≤ f ∧ f < 32) : fld (fkeep x s f) s = f := by
  have h0 : sh12 0 0 := ⟨by decide, by decide, by decide⟩
  have e : fld (fkeep x s f) s = fld f 0 := fld_eq hs h0 (fun i hi => by
    rw [bN_keep hs (k + i) (by have := hs.2.2; omega)]
    have h1 : k ≤ k + i ∧ k + i < k + 5 := ⟨by omega, by omega⟩
    rw [decide_eq_true h1, decide_eq_true h1.1, show k + i - k = 0 + i by omega]
    simp)
  rw [e, fld_n h0]
  have : ((bN f).toNat : Int) = f := by
    unfold bN
    show ((BitVec.ofInt 64 f).toNat : Int) = f
    rw [BitVec.toNat_ofInt]
    omega
  omega
theorem fld_old {x s s' f : Int} {k k' : Nat} (hs : sh12 s k) (hs' : sh12 s' k') (hf : 0 ≤ f ∧ f < 32) (h : k + 5 ≤ k' ∨ k' + 5 ≤ k) : fld (fkeep x s f) s' = fld x s' := fld_eq hs' hs' (fun i hi => by
    rw [bN_keep hs (k' + i) (by have := hs'.2.2; omega)]
    have h1 : ¬ (k ≤ k' + i ∧ k' + i < k + 5) := by omega
    rw [decide_eq_false h1]
    by_cases h2 : k ≤ k' + i
    · rw [bf5 hf (k' + i - k) (by omega)]
      simp
    · rw [decide_eq_false h2]
      simp)
theorem fld_m1 {s : Int} {k : Nat} (hs : sh12 s k) : fld (-1) s = 31 := by
  have h0 : sh12 0 0 := ⟨by decide, by decide, by decide⟩
  have e : fld (-1) s = fld 31 0 := fld_eq hs h0 (fun i hi => by
    rw [bm1 _ (by have := hs.2.2; omega), b31]
    exact (decide_eq_true (by omega)).symm)
  rw [e]
  decide
end
/-! 7a05.r1wy -/
section
/-! THE REFERENCE'S WORLD AND WAYS (laid by wip/core/r1.py). -/
/-- what the reference is told, and the heats that it has made of it -/
noncomputable def TR (N h : Int → Int) (M : gm_M) : Prop := ws (M 227) = N ∧ ∀ y, 0 ≤ y → y < 300 → M 234 y = h y ∧ (0 ≤ h y ∧ h y ≤ 9)
section TRR
variable {N h : Int → Int} {M M2 : gm_M} {W : List (Nat × Option Int)}
theorem tr_w (hT : TR N h M) {j : Int} (h0 : 0 ≤ j) (h1 : j < 395) (h8 : ¬ j = 8) : M 227 j = N j := by
  rw [← hT.1]
  unfold ws
  rw [if_pos ⟨h0, h1, h8⟩]
theorem tr_x (hT : TR N h M) {j k : Int} (e : j = k) (h0 : 0 ≤ k) (h1 : k < 395) (h8 : ¬ k = 8) : M 227 j = N k := by
  rw [e]
  exact tr_w hT h0 h1 h8
theorem tr_fr (hT : TR N h M) (h9 : fr W M M2) (hw : W.all (fun w => !(w.1 == 227) && !(w.1 == 234)) = true) : TR N h M2 := by
  have e : ∀ k j, (k = 227 ∨ k = 234) → M2 k j = M k j := fun k j hk => h9 k j (fun hm => by have := List.all_eq_true.mp hw _ hm; simp at this; omega) (fun hm => by have := List.all_eq_true.mp hw _ hm; simp at this; omega)
  refine ⟨?_, fun y y1 y2 => ?_⟩
  · rw [show M2 227 = M 227 from funext fun j => e 227 j (Or.inl rfl)]
    exact hT.1
  · rw [e 234 y (Or.inr rfl)]
    exact hT.2 y y1 y2
end TRR
section RW1
variable {X : Int → Int} {LX d bc bs n : Nat} {K : gm_K} {R : gm_R} {M : gm_M} {Q : gm_Q} {lane row year l p c y x wo r0 rk : Int} {N h : Int → Int}
theorem re_of (hE : E0 n K R) (hT : TR N h M) (hN : NR N) (h1 : 0 ≤ p ∧ p < 8) (h2 : 0 ≤ c ∧ c < 3) (q0 : Q (.inl (some (gm_vi (N (95 + (p * 3 + c)))))) n K R (M)) : gm_Wp X LX d bc bs 299 0 (gm_ent 299 [gm_vr 226, gm_vi p, gm_vi c]) [] n K R M Q := by
  obtain ⟨⟨⟨a0, b0⟩, ⟨a1, b1⟩, ⟨a10, b10⟩, ⟨a11, b11⟩, ⟨a12, b12⟩, a9, b9⟩, ⟨⟨a2, b2⟩, ⟨a5, b5⟩, ⟨a3, b3⟩, ⟨a4, b4⟩, ⟨a6, b6⟩, ⟨a14, b14⟩, ⟨a7, b7⟩, a13, b13⟩, rF, rP, rL⟩ := id hN
  refine gm_sz (gm_p_load (pc := 0) (i := .aload_n 0) (sr := 2) (j := 0) (by decide +kernel) rfl rfl rfl) ?_
  refine gm_sz (fw_gr (pc := 1) (ix := 13) (ci := 11) (j := 1) (r := 227) (by decide +kernel) (e0k hE (k := 226) (c := 11) (by decide +kernel)) (by decide +kernel) (by decide +kernel) (e0r hE (k := 226) (j := 1) (r := 227) (by decide +kernel))) ?_
  refine gm_sz (gm_p_const (pc := 4) (i := .bipush 95) (v := gm_vi 95) (by decide +kernel) (by decide +kernel)) ?_
  refine gm_sz (gm_p_const (pc := 6) (i := .iconst 3) (v := gm_vi 3) (by decide +kernel) (by decide +kernel)) ?_
  refine gm_sz (gm_p_load (pc := 7) (i := .iload_n 1) (sr := 0) (j := 1) (by decide +kernel) rfl rfl rfl) ?_
  refine gm_sz (gm_p_bin (pc := 8) (i := .imul) (f := fun x y => x * y) (by decide +kernel) rfl) ?_
  refine gm_sz (gm_p_bin (pc := 9) (i := .iadd) (f := fun x y => x + y) (by decide +kernel) rfl) ?_
  refine gm_sz (gm_p_load (pc := 10) (i := .iload_n 2) (sr := 0) (j := 2) (by decide +kernel) rfl rfl rfl) ?_
  refine gm_sz (gm_p_bin (pc := 11) (i := .iadd) (f := fun x y => x + y) (by decide +kernel) rfl) ?_
  refine gm_sz (fw_ia (pc := 12) (k := 227) (len := 2093) (e0 := (95 + (3 * p)) + c) (x := N (95 + (p * 3 + c))) (by decide +kernel) (e0a hE (k := 227) (q := ((0 : Nat), (2093 : Nat))) (by decide +kernel)).1 (e0a hE (k := 227) (q := ((0 : Nat), (2093 : Nat))) (by decide +kernel)).2 (by decide) ⟨by omega, by omega⟩ (tr_x hT (show (95 + (3 * p)) + c = (95 + (p * 3 + c)) by omega) (by omega) (by omega) (by omega))) ?_
  exact gm_r_int (pc := 13) (by decide +kernel) (Or.inl (by decide +kernel)) q0
theorem re_ol (hE : E0 n K R) (hT : TR N h M) (hN : NR N) (h1 : 0 ≤ l ∧ l < 24) (h2 : 0 ≤ c ∧ c < 7) (q0 : Q (.inl (some (gm_vi (N (119 + (l * 7 + c)))))) n K R (M)) : gm_Wp X LX d bc bs 301 0 (gm_ent 301 [gm_vr 226, gm_vi l, gm_vi c]) [] n K R M Q := by
  obtain ⟨⟨⟨a0, b0⟩, ⟨a1, b1⟩, ⟨a10, b10⟩, ⟨a11, b11⟩, ⟨a12, b12⟩, a9, b9⟩, ⟨⟨a2, b2⟩, ⟨a5, b5⟩, ⟨a3, b3⟩, ⟨a4, b4⟩, ⟨a6, b6⟩, ⟨a14, b14⟩, ⟨a7, b7⟩, a13, b13⟩, rF, rP, rL⟩ := id hN
  refine gm_sz (gm_p_load (pc := 0) (i := .aload_n 0) (sr := 2) (j := 0) (by decide +kernel) rfl rfl rfl) ?_
  refine gm_sz (fw_gr (pc := 1) (ix := 13) (ci := 11) (j := 1) (r := 227) (by decide +kernel) (e0k hE (k := 226) (c := 11) (by decide +kernel)) (by decide +kernel) (by decide +kernel) (e0r hE (k := 226) (j := 1) (r := 227) (by decide +kernel))) ?_
  refine gm_sz (gm_p_const (pc := 4) (i := .bipush 119) (v := gm_vi 119) (by decide +kernel) (by decide +kernel)) ?_
  refine gm_sz (gm_p_const (pc := 6) (i := .bipush 7) (v := gm_vi 7) (by decide +kernel) (by decide +kernel)) ?_
  refine gm_sz (gm_p_load (pc := 8) (i := .iload_n 1) (sr := 0) (j := 1) (by decide +kernel) rfl rfl rfl) ?_
  refine gm_sz (gm_p_bin (pc := 9) (i := .imul) (f := fun x y => x * y) (by decide +kernel) rfl) ?_
  refine gm_sz (gm_p_bin (pc := 10) (i := .iadd) (f := fun x y => x + y) (by decide +kernel) rfl) ?_
  refine gm_sz (gm_p_load (pc := 11) (i := .iload_n 2) (sr := 0) (j := 2) (by decide +kernel) rfl rfl rfl) ?_
  refine gm_sz (gm_p_bin (pc := 12) (i := .iadd) (f := fun x y => x + y) (by decide +kernel) rfl) ?_
  refine gm_sz (fw_ia (pc := 13) (k := 227) (len := 2093) (e0 := (119 + (7 * l)) + c) (x := N (119 + (l * 7 + c))) (by decide +kernel) (e0a hE (k := 227) (q := ((0 : Nat), (2093 : Nat))) (by decide +kernel)).1 (e0a hE (k := 227) (q := ((0 : Nat), (2093 : Nat))) (by decide +kernel)).2 (by decide) ⟨by omega, by omega⟩ (tr_x hT (show (119 + (7 * l)) + c = (119 + (l * 7 + c)) by omega) (by omega) (by omega) (by omega))) ?_
  exact gm_r_int (pc := 14) (by decide +kernel) (Or.inl (by decide +kernel)) q0
theorem re_lan (hE : E0 n K R) (hT : TR N h M) (hN : NR N) (q0 : Q (.inl (some (gm_vi (N 0)))) n K R (M)) : gm_Wp X LX d bc bs 261 0 (gm_ent 261 [gm_vr 226]) [] n K R M Q := by
  obtain ⟨⟨⟨a0, b0⟩, ⟨a1, b1⟩, ⟨a10, b10⟩, ⟨a11, b11⟩, ⟨a12, b12⟩, a9, b9⟩, ⟨⟨a2, b2⟩, ⟨a5, b5⟩, ⟨a3, b3⟩, ⟨a4, b4⟩, ⟨a6, b6⟩, ⟨a14, b14⟩, ⟨a7, b7⟩, a13, b13⟩, rF, rP, rL⟩ := id hN
  refine gm_sz (gm_p_load (pc := 0) (i := .aload_n 0) (sr := 2) (j := 0) (by decide +kernel) rfl rfl rfl) ?_
  refine gm_sz (fw_gr (pc := 1) (ix := 13) (ci := 11) (j := 1) (r := 227) (by decide +kernel) (e0k hE (k := 226) (c := 11) (by decide +kernel)) (by decide +kernel) (by decide +kernel) (e0r hE (k := 226) (j := 1) (r := 227) (by decide +kernel))) ?_
  refine gm_sz (gm_p_const (pc := 4) (i := .iconst 0) (v := gm_vi 0) (by decide +kernel) (by decide +kernel)) ?_
  refine gm_sz (fw_ia (pc := 5) (k := 227) (len := 2093) (e0 := 0) (x := N 0) (by decide +kernel) (e0a hE (k := 227) (q := ((0 : Nat), (2093 : Nat))) (by decide +kernel)).1 (e0a hE (k := 227) (q := ((0 : Nat), (2093 : Nat))) (by decide +kernel)).2 (by decide) ⟨by omega, by omega⟩ (tr_w hT (by decide) (by decide) (by decide))) ?_
  exact gm_r_int (pc := 6) (by decide +kernel) (Or.inl (by decide +kernel)) q0
theorem re_lip (hE : E0 n K R) (hT : TR N h M) (hN : NR N) (q0 : Q (.inl (some (gm_vi (N 1)))) n K R (M)) : gm_Wp X LX d bc bs 259 0 (gm_ent 259 [gm_vr 226]) [] n K R M Q := by
  obtain ⟨⟨⟨a0, b0⟩, ⟨a1, b1⟩, ⟨a10, b10⟩, ⟨a11, b11⟩, ⟨a12, b12⟩, a9, b9⟩, ⟨⟨a2, b2⟩, ⟨a5, b5⟩, ⟨a3, b3⟩, ⟨a4, b4⟩, ⟨a6, b6⟩, ⟨a14, b14⟩, ⟨a7, b7⟩, a13, b13⟩, rF, rP, rL⟩ := id hN
  refine gm_sz (gm_p_load (pc := 0) (i := .aload_n 0) (sr := 2) (j := 0) (by decide +kernel) rfl rfl rfl) ?_
  refine gm_sz (fw_gr (pc := 1) (ix := 13) (ci := 11) (j := 1) (r := 227) (by decide +kernel) (e0k hE (k := 226) (c := 11) (by decide +kernel)) (by decide +kernel) (by decide +kernel) (e0r hE (k := 226) (j := 1) (r := 227) (by decide +kernel))) ?_
  refine gm_sz (gm_p_const (pc := 4) (i := .iconst 1) (v := gm_vi 1) (by decide +kernel) (by decide +kernel)) ?_
  refine gm_sz (fw_ia (pc := 5) (k := 227) (len := 2093) (e0 := 1) (x := N 1) (by decide +kernel) (e0a hE (k := 227) (q := ((0 : Nat), (2093 : Nat))) (by decide +kernel)).1 (e0a hE (k := 227) (q := ((0 : Nat), (2093 : Nat))) (by decide +kernel)).2 (by decide) ⟨by omega, by omega⟩ (tr_w hT (by decide) (by decide) (by decide))) ?_
  exact gm_r_int (pc := 6) (by decide +kernel) (Or.inl (by decide +kernel)) q0
theorem re_peo (hE : E0 n K R) (hT : TR N h M) (hN : NR N) (q0 : Q (.inl (some (gm_vi (N 3)))) n K R (M)) : gm_Wp X LX d bc bs 253 0 (gm_ent 253 [gm_vr 226]) [] n K R M Q := by
  obtain ⟨⟨⟨a0, b0⟩, ⟨a1, b1⟩, ⟨a10, b10⟩, ⟨a11, b11⟩, ⟨a12, b12⟩, a9, b9⟩, ⟨⟨a2, b2⟩, ⟨a5, b5⟩, ⟨a3, b3⟩, ⟨a4, b4⟩, ⟨a6, b6⟩, ⟨a14, b14⟩, ⟨a7, b7⟩, a13, b13⟩, rF, rP, rL⟩ := id hN
  refine gm_sz (gm_p_load (pc := 0) (i := .aload_n 0) (sr := 2) (j := 0) (by decide +kernel) rfl rfl rfl) ?_
  refine gm_sz (fw_gr (pc := 1) (ix := 13) (ci := 11) (j := 1) (r := 227) (by decide +kernel) (e0k hE (k := 226) (c := 11) (by decide +kernel)) (by decide +kernel) (by decide +kernel) (e0r hE (k := 226) (j := 1) (r := 227) (by decide +kernel))) ?_
  refine gm_sz (gm_p_const (pc := 4) (i := .iconst 3) (v := gm_vi 3) (by decide +kernel) (by decide +kernel)) ?_
  refine gm_sz (fw_ia (pc := 5) (k := 227) (len := 2093) (e0 := 3) (x := N 3) (by decide +kernel) (e0a hE (k := 227) (q := ((0 : Nat), (2093 : Nat))) (by decide +kernel)).1 (e0a hE (k := 227) (q := ((0 : Nat), (2093 : Nat))) (by decide +kernel)).2 (by decide) ⟨by omega, by omega⟩ (tr_w hT (by decide) (by decide) (by decide))) ?_
  exact gm_r_int (pc := 6) (by decide +kernel) (Or.inl (by decide +kernel)) q0
theorem re_let (hE : E0 n K R) (hT : TR N h M) (hN : NR N) (q0 : Q (.inl (some (gm_vi (N 4)))) n K R (M)) : gm_Wp X LX d bc bs 254 0 (gm_ent 254 [gm_vr 226]) [] n K R M Q := by
  obtain ⟨⟨⟨a0, b0⟩, ⟨a1, b1⟩, ⟨a10, b10⟩, ⟨a11, b11⟩, ⟨a12, b12⟩, a9, b9⟩, ⟨⟨a2, b2⟩, ⟨a5, b5⟩, ⟨a3, b3⟩, ⟨a4, b4⟩, ⟨a6, b6⟩, ⟨a14, b14⟩, ⟨a7, b7⟩, a13, b13⟩, rF, rP, rL⟩ := id hN
  refine gm_sz (gm_p_load (pc := 0) (i := .aload_n 0) (sr := 2) (j := 0) (by decide +kernel) rfl rfl rfl) ?_
  refine gm_sz (fw_gr (pc := 1) (ix := 13) (ci := 11) (j := 1) (r := 227) (by decide +kernel) (e0k hE (k := 226) (c := 11) (by decide +kernel)) (by decide +kernel) (by decide +kernel) (e0r hE (k := 226) (j := 1) (r := 227) (by decide +kernel))) ?_
  refine gm_sz (gm_p_const (pc := 4) (i := .iconst 4) (v := gm_vi 4) (by decide +kernel) (by decide +kernel)) ?_
  refine gm_sz (fw_ia (pc := 5) (k := 227) (len := 2093) (e0 := 4) (x := N 4) (by decide +kernel) (e0a hE (k := 227) (q := ((0 : Nat), (2093 : Nat))) (by decide +kernel)).1 (e0a hE (k := 227) (q := ((0 : Nat), (2093 : Nat))) (by decide +kernel)).2 (by decide) ⟨by omega, by omega⟩ (tr_w hT (by decide) (by decide) (by decide))) ?_
  exact gm_r_int (pc := 6) (by decide +kernel) (Or.inl (by decide +kernel)) q0
theorem re_now (hE : E0 n K R) (hT : TR N h M) (hN : NR N) (q0 : Q (.inl (some (gm_vi (N 9)))) n K R (M)) : gm_Wp X LX d bc bs 266 0 (gm_ent 266 [gm_vr 226]) [] n K R M Q := by
  obtain ⟨⟨⟨a0, b0⟩, ⟨a1, b1⟩, ⟨a10, b10⟩, ⟨a11, b11⟩, ⟨a12, b12⟩, a9, b9⟩, ⟨⟨a2, b2⟩, ⟨a5, b5⟩, ⟨a3, b3⟩, ⟨a4, b4⟩, ⟨a6, b6⟩, ⟨a14, b14⟩, ⟨a7, b7⟩, a13, b13⟩, rF, rP, rL⟩ := id hN
  refine gm_sz (gm_p_load (pc := 0) (i := .aload_n 0) (sr := 2) (j := 0) (by decide +kernel) rfl rfl rfl) ?_
  refine gm_sz (fw_gr (pc := 1) (ix := 13) (ci := 11) (j := 1) (r := 227) (by decide +kernel) (e0k hE (k := 226) (c := 11) (by decide +kernel)) (by decide +kernel) (by decide +kernel) (e0r hE (k := 226) (j := 1) (r := 227) (by decide +kernel))) ?_
  refine gm_sz (gm_p_const (pc := 4) (i := .bipush 9) (v := gm_vi 9) (by decide +kernel) (by decide +kernel)) ?_
  refine gm_sz (fw_ia (pc := 6) (k := 227) (len := 2093) (e0 := 9) (x := N 9) (by decide +kernel) (e0a hE (k := 227) (q := ((0 : Nat), (2093 : Nat))) (by decide +kernel)).1 (e0a hE (k := 227) (q := ((0 : Nat), (2093 : Nat))) (by decide +kernel)).2 (by decide) ⟨by omega, by omega⟩ (tr_w hT (by decide) (by decide) (by decide))) ?_
  exact gm_r_int (pc := 7) (by decide +kernel) (Or.inl (by decide +kernel)) q0
theorem re_rk0 (hd : 1 ≤ d) (hE : E0 n K R) (hT : TR N h M) (hN : NR N) (h1 : 0 ≤ l ∧ l < N 4) (q0 : 0 ≤ (N (119 + (l * 7 + 0))) → Q (.inl (some (gm_vi 0))) n K R (M)) (q1 : ¬ 0 ≤ (N (119 + (l * 7 + 0))) → Q (.inl (some (gm_vi 1))) n K R (M)) : gm_Wp X LX d bc bs 303 0 (gm_ent 303 [gm_vr 226, gm_vi l]) [] n K R M Q := by
  obtain ⟨⟨⟨a0, b0⟩, ⟨a1, b1⟩, ⟨a10, b10⟩, ⟨a11, b11⟩, ⟨a12, b12⟩, a9, b9⟩, ⟨⟨a2, b2⟩, ⟨a5, b5⟩, ⟨a3, b3⟩, ⟨a4, b4⟩, ⟨a6, b6⟩, ⟨a14, b14⟩, ⟨a7, b7⟩, a13, b13⟩, rF, rP, rL⟩ := id hN
  obtain ⟨⟨r0a, r0b⟩, -⟩ := rL l h1.1 h1.2
  refine gm_sz (gm_p_load (pc := 0) (i := .aload_n 0) (sr := 2) (j := 0) (by decide +kernel) rfl rfl rfl) ?_
  refine gm_sz (gm_p_load (pc := 1) (i := .iload_n 1) (sr := 0) (j := 1) (by decide +kernel) rfl rfl rfl) ?_
  refine gm_sz (gm_p_const (pc := 2) (i := .iconst 0) (v := gm_vi 0) (by decide +kernel) (by decide +kernel)) ?_
  refine gm_c_virt (k := 226) (ci := 11) (mj := 301) (ix := 82) (pc := 3) (as := [gm_vi l, gm_vi 0]) (st := []) (d' := d - 1) (bc' := 0) (bs' := 0) (by decide +kernel) (by decide +kernel) (by decide +kernel) (by decide +kernel) (e0k hE (k := 226) (c := 11) (by decide +kernel)).1 (e0k hE (k := 226) (c := 11) (by decide +kernel)).2 (by decide) (by decide +kernel) (show 2 = gm_na 301 by decide +kernel) (fw_c2 fw_si fw_si) (show 3 ≤ gm_ml 301 by decide +kernel) (Nat.le_of_ble_eq_true rfl) (by omega) (Nat.zero_le _) (Nat.zero_le _) ?_
  refine re_ol hE hT hN ⟨by omega, by omega⟩ ⟨by omega, by omega⟩ ?_
  show gm_Wp X LX d _ _ 303 6 _ [gm_vi (N (119 + (l * 7 + 0)))] n K _ _ Q
  refine fw_if (cc := .ge) (pc := 6) (off := 7) (by decide +kernel) (by decide) ⟨by omega, by omega⟩ (fun h6 => ?_) (fun h6 => ?_)
  · have h6 : 0 ≤ (N (119 + (l * 7 + 0))) := h6
    refine gm_sz (gm_p_const (pc := 13) (i := .iconst 0) (v := gm_vi 0) (by decide +kernel) (by decide +kernel)) ?_
    exact gm_r_int (pc := 14) (by decide +kernel) (Or.inr ⟨(by decide +kernel), Or.inl rfl⟩) (q0 h6)
  · have h6 : ¬ 0 ≤ (N (119 + (l * 7 + 0))) := h6
    refine gm_sz (gm_p_const (pc := 9) (i := .iconst 1) (v := gm_vi 1) (by decide +kernel) (by decide +kernel)) ?_
    refine gm_sz (gm_p_goto (pc := 10) (off := 4) (by decide +kernel) (by decide)) ?_
    exact gm_r_int (pc := 14) (by decide +kernel) (Or.inr ⟨(by decide +kernel), Or.inr rfl⟩) (q1 h6)
theorem re_rk (hd : 1 ≤ d) (hE : E0 n K R) (hT : TR N h M) (hN : NR N) (h1 : 0 ≤ l ∧ l < N 4) (hq : Q (.inl (some (gm_vi (if (N (119 + (l * 7 + 0))) = -1 then 1 else 0)))) n K R M) : gm_Wp X LX d bc bs 303 0 (gm_ent 303 [gm_vr 226, gm_vi l]) [] n K R M Q := by
  obtain ⟨⟨r0a, r0b⟩, -⟩ := hN.2.2.2.2 l h1.1 h1.2
  refine re_rk0 hd hE hT hN h1 (fun g => ?_) (fun g => ?_)
  · rw [if_neg (show ¬ (N (119 + (l * 7 + 0))) = -1 by omega)] at hq
    exact hq
  · rw [if_pos (show (N (119 + (l * 7 + 0))) = -1 by omega)] at hq
    exact hq
theorem re_fl (hE : E0 n K R) (hT : TR N h M) (hN : NR N) (hw : gm_ir wo) (hr : 0 ≤ r0 ∧ r0 ≤ 10000) (hy : gm_ir y) (hq : ∀ M2, fr [((226 : Nat), some (30 : Int))] M M2 → Q (.inl (some (gm_vi (nfl N y wo (N 5).toNat r0)))) n K R M2) : ∀ (u i : Nat) (z : Option gm_V) (M1 : gm_M), (i : Int) + (u : Int) = N 5 → fr [((226 : Nat), some (30 : Int))] M M1 → gm_Wp X LX d bc bs 307 6 [some (gm_vr 226), some (gm_vi r0), some (gm_vi y), some (gm_vi wo), some (gm_vi (nfl N y wo i r0)), some (gm_vi (i : Int)), z] [] n K R M1 Q := by
  obtain ⟨⟨⟨a0, b0⟩, ⟨a1, b1⟩, ⟨a10, b10⟩, ⟨a11, b11⟩, ⟨a12, b12⟩, a9, b9⟩, ⟨⟨a2, b2⟩, ⟨a5, b5⟩, ⟨a3, b3⟩, ⟨a4, b4⟩, ⟨a6, b6⟩, ⟨a14, b14⟩, ⟨a7, b7⟩, a13, b13⟩, rF, rP, rL⟩ := id hN
  obtain ⟨hw1, hw2⟩ := hw
  obtain ⟨hy1, hy2⟩ := hy
  have rF2 : ∀ f : Int, 0 ≤ f → f < N 5 → 0 ≤ (N (71 + (f * 3 + 2))) ∧ (N (71 + (f * 3 + 2))) ≤ 20 := fun f h1 h2 => (rF f h1 h2).2.2
  intro u
  induction u with
  | zero =>
    intro i z M1 hi hf
    have hin : i = (N 5).toNat := by omega
    rw [← hin] at hq
    refine gm_sz (gm_p_load (pc := 6) (i := .iload 5) (sr := 0) (j := 5) (by decide +kernel) rfl rfl rfl) ?_
    refine gm_sz (gm_p_load (pc := 8) (i := .aload_n 0) (sr := 2) (j := 0) (by decide +kernel) rfl rfl rfl) ?_
    refine gm_sz (fw_gr (pc := 9) (ix := 13) (ci := 11) (j := 1) (r := 227) (by decide +kernel) (e0k hE (k := 226) (c := 11) (by decide +kernel)) (by decide +kernel) (by decide +kernel) (e0r hE (k := 226) (j := 1) (r := 227) (by decide +kernel))) ?_
    refine gm_sz (gm_p_const (pc := 12) (i := .iconst 5) (v := gm_vi 5) (by decide +kernel) (by decide +kernel)) ?_
    refine gm_sz (fw_ia (pc := 13) (k := 227) (len := 2093) (e0 := 5) (x := N 5) (by decide +kernel) (e0a hE (k := 227) (q := ((0 : Nat), (2093 : Nat))) (by decide +kernel)).1 (e0a hE (k := 227) (q := ((0 : Nat), (2093 : Nat))) (by decide +kernel)).2 (by decide) ⟨by omega, by omega⟩ ((fr_c hf (by decide)).trans (tr_w hT (by decide) (by decide) (by decide)))) ?_
    refine fw_ict (cc := .ge) (pc := 14) (off := 84) (by decide +kernel) (by decide) ⟨by omega, by omega⟩ ⟨by omega, by omega⟩ (show (N 5) ≤ (i : Int) by omega) ?_
    refine gm_sz (gm_p_load (pc := 98) (i := .iload 4) (sr := 0) (j := 4) (by decide +kernel) rfl rfl rfl) ?_
    exact gm_r_int (pc := 100) (by decide +kernel) (Or.inl (by decide +kernel)) (hq M1 hf)
  | succ u ih =>
    intro i z M1 hi hf
    obtain ⟨j1, j2⟩ := nfl_b (y := y) (wo := wo) (r := r0) rF2 i (by omega)
    obtain ⟨⟨f0, f1⟩, ⟨f2, f3⟩, f4, f5⟩ := rF i (by omega) (by omega)
    refine gm_sz (gm_p_load (pc := 6) (i := .iload 5) (sr := 0) (j := 5) (by decide +kernel) rfl rfl rfl) ?_
    refine gm_sz (gm_p_load (pc := 8) (i := .aload_n 0) (sr := 2) (j := 0) (by decide +kernel) rfl rfl rfl) ?_
    refine gm_sz (fw_gr (pc := 9) (ix := 13) (ci := 11) (j := 1) (r := 227) (by decide +kernel) (e0k hE (k := 226) (c := 11) (by decide +kernel)) (by decide +kernel) (by decide +kernel) (e0r hE (k := 226) (j := 1) (r := 227) (by decide +kernel))) ?_
    refine gm_sz (gm_p_const (pc := 12) (i := .iconst 5) (v := gm_vi 5) (by decide +kernel) (by decide +kernel)) ?_
    refine gm_sz (fw_ia (pc := 13) (k := 227) (len := 2093) (e0 := 5) (x := N 5) (by decide +kernel) (e0a hE (k := 227) (q := ((0 : Nat), (2093 : Nat))) (by decide +kernel)).1 (e0a hE (k := 227) (q := ((0 : Nat), (2093 : Nat))) (by decide +kernel)).2 (by decide) ⟨by omega, by omega⟩ ((fr_c hf (by decide)).trans (tr_w hT (by decide) (by decide) (by decide)))) ?_
    refine fw_icf (cc := .ge) (pc := 14) (off := 84) (by decide +kernel) (by decide) ⟨by omega, by omega⟩ ⟨by omega, by omega⟩ (show ¬ (N 5) ≤ (i : Int) by omega) ?_
    refine gm_sz (gm_p_const (pc := 17) (i := .bipush 71) (v := gm_vi 71) (by decide +kernel) (by decide +kernel)) ?_
    refine gm_sz (gm_p_const (pc := 19) (i := .iconst 3) (v := gm_vi 3) (by decide +kernel) (by decide +kernel)) ?_
    refine gm_sz (gm_p_load (pc := 20) (i := .iload 5) (sr := 0) (j := 5) (by decide +kernel) rfl rfl rfl) ?_
    refine gm_sz (gm_p_bin (pc := 22) (i := .imul) (f := fun x y => x * y) (by decide +kernel) rfl) ?_
    refine gm_sz (gm_p_bin (pc := 23) (i := .iadd) (f := fun x y => x + y) (by decide +kernel) rfl) ?_
    refine gm_sz (gm_p_stor (pc := 24) (i := .istore 6) (sr := 0) (j := 6) (by decide +kernel) rfl (show 7 ≤ _ from Nat.le_of_ble_eq_true rfl) rfl) ?_
    refine gm_sz (gm_p_load (pc := 26) (i := .iload 5) (sr := 0) (j := 5) (by decide +kernel) rfl rfl rfl) ?_
    refine gm_sz (gm_p_load (pc := 28) (i := .iload_n 3) (sr := 0) (j := 3) (by decide +kernel) rfl rfl rfl) ?_
    refine fw_ic (cc := .eq) (pc := 29) (off := 63) (by decide +kernel) (by decide) ⟨by omega, by omega⟩ ⟨by omega, by omega⟩ (fun h29 => ?_) (fun h29 => ?_)
    · have h29 : (i : Int) = wo := h29
      refine gm_sz (gm_p_iinc (pc := 92) (j := 5) (z := 1) (by decide +kernel) rfl) ?_
      refine gm_sz (gm_p_goto (pc := 95) (off := (-89)) (by decide +kernel) (by decide)) ?_
      have e9 : nfl N y wo (i + 1) r0 = nfl N y wo i r0 := nfl_f (fun hh => by first | exact hh.1 h29 | exact h40 hh.2.1 | (have := hh.2.2; omega))
      rw [← e9]
      exact ih (i + 1) _ _ (by omega) (fr_t fr_0 hf (by decide))
    · have h29 : ¬ (i : Int) = wo := h29
      refine gm_sz (gm_p_load (pc := 32) (i := .aload_n 0) (sr := 2) (j := 0) (by decide +kernel) rfl rfl rfl) ?_
      refine gm_sz (fw_gr (pc := 33) (ix := 13) (ci := 11) (j := 1) (r := 227) (by decide +kernel) (e0k hE (k := 226) (c := 11) (by decide +kernel)) (by decide +kernel) (by decide +kernel) (e0r hE (k := 226) (j := 1) (r := 227) (by decide +kernel))) ?_
      refine gm_sz (gm_p_load (pc := 36) (i := .iload 6) (sr := 0) (j := 6) (by decide +kernel) rfl rfl rfl) ?_
      refine gm_sz (fw_ia (pc := 38) (k := 227) (len := 2093) (e0 := 71 + (3 * (i : Int))) (x := N (71 + ((i : Int) * 3 + 0))) (by decide +kernel) (e0a hE (k := 227) (q := ((0 : Nat), (2093 : Nat))) (by decide +kernel)).1 (e0a hE (k := 227) (q := ((0 : Nat), (2093 : Nat))) (by decide +kernel)).2 (by decide) ⟨by omega, by omega⟩ ((fr_c hf (by decide)).trans (tr_x hT (show 71 + (3 * (i : Int)) = (71 + ((i : Int) * 3 + 0)) by omega) (by omega) (by omega) (by omega)))) ?_
      refine gm_sz (gm_p_load (pc := 39) (i := .iload_n 2) (sr := 0) (j := 2) (by decide +kernel) rfl rfl rfl) ?_
      refine fw_ic (cc := .ne) (pc := 40) (off := 52) (by decide +kernel) (by decide) ⟨by omega, by omega⟩ ⟨by omega, by omega⟩ (fun h40 => ?_) (fun h40 => ?_)
      · have h40 : ¬ (N (71 + ((i : Int) * 3 + 0))) = y := h40
        refine gm_sz (gm_p_iinc (pc := 92) (j := 5) (z := 1) (by decide +kernel) rfl) ?_
        refine gm_sz (gm_p_goto (pc := 95) (off := (-89)) (by decide +kernel) (by decide)) ?_
        have e9 : nfl N y wo (i + 1) r0 = nfl N y wo i r0 := nfl_f (fun hh => by first | exact hh.1 h29 | exact h40 hh.2.1 | (have := hh.2.2; omega))
        rw [← e9]
        exact ih (i + 1) _ _ (by omega) (fr_t fr_0 hf (by decide))
      · have h40 : (N (71 + ((i : Int) * 3 + 0))) = y := Classical.not_not.mp h40
        refine gm_sz (gm_p_load (pc := 43) (i := .iload 4) (sr := 0) (j := 4) (by decide +kernel) rfl rfl rfl) ?_
        refine gm_sz (gm_p_load (pc := 45) (i := .aload_n 0) (sr := 2) (j := 0) (by decide +kernel) rfl rfl rfl) ?_
        refine gm_sz (fw_gr (pc := 46) (ix := 13) (ci := 11) (j := 1) (r := 227) (by decide +kernel) (e0k hE (k := 226) (c := 11) (by decide +kernel)) (by decide +kernel) (by decide +kernel) (e0r hE (k := 226) (j := 1) (r := 227) (by decide +kernel))) ?_
        refine gm_sz (gm_p_load (pc := 49) (i := .iload 6) (sr := 0) (j := 6) (by decide +kernel) rfl rfl rfl) ?_
        refine gm_sz (gm_p_const (pc := 51) (i := .iconst 1) (v := gm_vi 1) (by decide +kernel) (by decide +kernel)) ?_
        refine gm_sz (gm_p_bin (pc := 52) (i := .iadd) (f := fun x y => x + y) (by decide +kernel) rfl) ?_
        refine gm_sz (fw_ia (pc := 53) (k := 227) (len := 2093) (e0 := (71 + (3 * (i : Int))) + 1) (x := N (71 + ((i : Int) * 3 + 1))) (by decide +kernel) (e0a hE (k := 227) (q := ((0 : Nat), (2093 : Nat))) (by decide +kernel)).1 (e0a hE (k := 227) (q := ((0 : Nat), (2093 : Nat))) (by decide +kernel)).2 (by decide) ⟨by omega, by omega⟩ ((fr_c hf (by decide)).trans (tr_x hT (show (71 + (3 * (i : Int))) + 1 = (71 + ((i : Int) * 3 + 1)) by omega) (by omega) (by omega) (by omega)))) ?_
        refine fw_ic (cc := .ge) (pc := 54) (off := 6) (by decide +kernel) (by decide) ⟨by omega, by omega⟩ ⟨by omega, by omega⟩ (fun h54 => ?_) (fun h54 => ?_)
        · have h54 : (N (71 + ((i : Int) * 3 + 1))) ≤ (nfl N y wo i r0) := h54
          refine gm_sz (gm_p_load (pc := 60) (i := .iload 4) (sr := 0) (j := 4) (by decide +kernel) rfl rfl rfl) ?_
          refine gm_sz (gm_p_load (pc := 62) (i := .aload_n 0) (sr := 2) (j := 0) (by decide +kernel) rfl rfl rfl) ?_
          refine gm_sz (fw_gr (pc := 63) (ix := 13) (ci := 11) (j := 1) (r := 227) (by decide +kernel) (e0k hE (k := 226) (c := 11) (by decide +kernel)) (by decide +kernel) (by decide +kernel) (e0r hE (k := 226) (j := 1) (r := 227) (by decide +kernel))) ?_
          refine gm_sz (gm_p_load (pc := 66) (i := .iload 6) (sr := 0) (j := 6) (by decide +kernel) rfl rfl rfl) ?_
          refine gm_sz (gm_p_const (pc := 68) (i := .iconst 2) (v := gm_vi 2) (by decide +kernel) (by decide +kernel)) ?_
          refine gm_sz (gm_p_bin (pc := 69) (i := .iadd) (f := fun x y => x + y) (by decide +kernel) rfl) ?_
          refine gm_sz (fw_ia (pc := 70) (k := 227) (len := 2093) (e0 := (71 + (3 * (i : Int))) + 2) (x := N (71 + ((i : Int) * 3 + 2))) (by decide +kernel) (e0a hE (k := 227) (q := ((0 : Nat), (2093 : Nat))) (by decide +kernel)).1 (e0a hE (k := 227) (q := ((0 : Nat), (2093 : Nat))) (by decide +kernel)).2 (by decide) ⟨by omega, by omega⟩ ((fr_c hf (by decide)).trans (tr_x hT (show (71 + (3 * (i : Int))) + 2 = (71 + ((i : Int) * 3 + 2)) by omega) (by omega) (by omega) (by omega)))) ?_
          refine gm_sz (gm_p_bin (pc := 71) (i := .iadd) (f := fun x y => x + y) (by decide +kernel) rfl) ?_
          refine gm_sz (gm_p_stor (pc := 72) (i := .istore 4) (sr := 0) (j := 4) (by decide +kernel) rfl (show 5 ≤ _ from Nat.le_of_ble_eq_true rfl) rfl) ?_
          refine gm_sz (gm_p_load (pc := 74) (i := .aload_n 0) (sr := 2) (j := 0) (by decide +kernel) rfl rfl rfl) ?_
          refine gm_sz (gm_p_dup (pc := 75) (by decide +kernel) fw_sr) ?_
          refine gm_sz (fw_gi (pc := 76) (ix := 365) (ci := 11) (j := 30) (x := M1 226 30) (by decide +kernel) (e0k hE (k := 226) (c := 11) (by decide +kernel)) (by decide +kernel) (by decide +kernel) rfl) ?_
          refine gm_sz (gm_p_load (pc := 79) (i := .aload_n 0) (sr := 2) (j := 0) (by decide +kernel) rfl rfl rfl) ?_
          refine gm_sz (fw_gr (pc := 80) (ix := 13) (ci := 11) (j := 1) (r := 227) (by decide +kernel) (e0k hE (k := 226) (c := 11) (by decide +kernel)) (by decide +kernel) (by decide +kernel) (e0r hE (k := 226) (j := 1) (r := 227) (by decide +kernel))) ?_
          refine gm_sz (gm_p_load (pc := 83) (i := .iload 6) (sr := 0) (j := 6) (by decide +kernel) rfl rfl rfl) ?_
          refine gm_sz (gm_p_const (pc := 85) (i := .iconst 2) (v := gm_vi 2) (by decide +kernel) (by decide +kernel)) ?_
          refine gm_sz (gm_p_bin (pc := 86) (i := .iadd) (f := fun x y => x + y) (by decide +kernel) rfl) ?_
          refine gm_sz (fw_ia (pc := 87) (k := 227) (len := 2093) (e0 := (71 + (3 * (i : Int))) + 2) (x := N (71 + ((i : Int) * 3 + 2))) (by decide +kernel) (e0a hE (k := 227) (q := ((0 : Nat), (2093 : Nat))) (by decide +kernel)).1 (e0a hE (k := 227) (q := ((0 : Nat), (2093 : Nat))) (by decide +kernel)).2 (by decide) ⟨by omega, by omega⟩ ((fr_c hf (by decide)).trans (tr_x hT (show (71 + (3 * (i : Int))) + 2 = (71 + ((i : Int) * 3 + 2)) by omega) (by omega) (by omega) (by omega)))) ?_
          refine gm_sz (gm_p_bin (pc := 88) (i := .iadd) (f := fun x y => x + y) (by decide +kernel) rfl) ?_
          refine gm_sz (fw_pi (pc := 89) (ix := 365) (ci := 11) (j := 30) (M' := gm_uM M1 226 30 ((M1 226 30) + (N (71 + ((i : Int) * 3 + 2))))) (by decide +kernel) (e0k hE (k := 226) (c := 11) (by decide +kernel)) (by decide +kernel) (by decide +kernel) (by decide +kernel) rfl) ?_
          refine gm_sz (gm_p_iinc (pc := 92) (j := 5) (z := 1) (by decide +kernel) rfl) ?_
          refine gm_sz (gm_p_goto (pc := 95) (off := (-89)) (by decide +kernel) (by decide)) ?_
          have e9 : nfl N y wo (i + 1) r0 = (nfl N y wo i r0) + (N (71 + ((i : Int) * 3 + 2))) := nfl_t h29 h40 (by omega)
          rw [← e9]
          exact ih (i + 1) _ _ (by omega) (fr_p (fr_t fr_0 hf (by decide)) (Or.inr (by decide)))
        · have h54 : ¬ (N (71 + ((i : Int) * 3 + 1))) ≤ (nfl N y wo i r0) := h54
          refine gm_sz (gm_p_goto (pc := 57) (off := 35) (by decide +kernel) (by decide)) ?_
          refine gm_sz (gm_p_iinc (pc := 92) (j := 5) (z := 1) (by decide +kernel) rfl) ?_
          refine gm_sz (gm_p_goto (pc := 95) (off := (-89)) (by decide +kernel) (by decide)) ?_
          have e9 : nfl N y wo (i + 1) r0 = nfl N y wo i r0 := nfl_f (fun hh => by first | exact hh.1 h29 | exact h40 hh.2.1 | (have := hh.2.2; omega))
          rw [← e9]
          exact ih (i + 1) _ _ (by omega) (fr_t fr_0 hf (by decide))
theorem re_c307 (hE : E0 n K R) (hT : TR N h M) (hN : NR N) (hw : gm_ir wo) (hr : 0 ≤ r0 ∧ r0 ≤ 10000) (hy : gm_ir y) (hq : ∀ M2, fr [((226 : Nat), some (30 : Int))] M M2 → Q (.inl (some (gm_vi (nfl N y wo (N 5).toNat r0)))) n K R M2) : gm_Wp X LX d bc bs 307 0 (gm_ent 307 [gm_vr 226, gm_vi r0, gm_vi y, gm_vi wo]) [] n K R M Q := by
  have a5 := hN.2.1.2.1
  refine gm_sz (gm_p_load (pc := 0) (i := .iload_n 1) (sr := 0) (j := 1) (by decide +kernel) rfl rfl rfl) ?_
  refine gm_sz (gm_p_stor (pc := 1) (i := .istore 4) (sr := 0) (j := 4) (by decide +kernel) rfl (show 5 ≤ _ from Nat.le_of_ble_eq_true rfl) rfl) ?_
  refine gm_sz (gm_p_const (pc := 3) (i := .iconst 0) (v := gm_vi 0) (by decide +kernel) (by decide +kernel)) ?_
  refine gm_sz (gm_p_stor (pc := 4) (i := .istore 5) (sr := 0) (j := 5) (by decide +kernel) rfl (show 6 ≤ _ from Nat.le_of_ble_eq_true rfl) rfl) ?_
  exact re_fl hE hT hN hw hr hy hq (N 5).toNat 0 _ M (by omega) fr_0
end RW1
/-- flowAt of the reference, by what it answers -/
noncomputable def okR (W : List (Nat × Option Int)) : Bool := W.all fun w => !(w.1 == 235) && (!(w.1 == 227) && !(w.1 == 226 && (w.2 == none || w.2 == some 26)))
noncomputable def RSt (FI : gm_M → Prop) : Prop := ∀ (W : List (Nat × Option Int)) (M M2 : gm_M), okR W = true → fr W M M2 → FI M → FI M2
noncomputable def FLR (X : Int → Int) (LX n : Nat) (K : gm_K) (R : gm_R) (N h : Int → Int) (FI : gm_M → Prop) (φ : Int → Int → Int → Int) : Prop := (∀ l r y, 0 ≤ φ l r y ∧ φ l r y ≤ 30) ∧ RSt FI ∧ ∀ (d bc bs : Nat) (M : gm_M) (Q : gm_Q) (lane row year : Int), 12 ≤ d → 0 ≤ lane ∧ lane < N 0 → 0 ≤ row ∧ row < N 1 → 0 ≤ year ∧ year < 300 → TR N h M → FI M → (∀ M2, fr [((226 : Nat), some (26 : Int)), ((226 : Nat), some (17 : Int)), ((226 : Nat), some (18 : Int)), ((226 : Nat), some (19 : Int)), ((226 : Nat), some (20 : Int)), ((226 : Nat), some (21 : Int)), ((226 : Nat), some (22 : Int)), ((226 : Nat), some (23 : Int)), ((235 : Nat), none), ((233 : Nat), none)] M M2 → FI M2 → Q (.inl (some (gm_vi (φ lane row year)))) n K R M2) → gm_Wp X LX d bc bs 292 0 (gm_ent 292 [gm_vr 226, gm_vi lane, gm_vi row, gm_vi year]) [] n K R M Q
section RW2
variable {X : Int → Int} {LX d bc bs n : Nat} {K : gm_K} {R : gm_R} {M : gm_M} {Q : gm_Q} {lane y0 wo r0 rk l : Int} {N h : Int → Int} {FI : gm_M → Prop} {φ : Int → Int → Int → Int}
/-- what a run leaves: rows, depths, the year when it is out -/
noncomputable def rrun (N h : Int → Int) (φ : Int → Int → Int → Int) (lane rk wo y0 r0 : Int) (M : gm_M) : Prop := (∀ y, 0 ≤ y → y < y0 → M 236 y = -1 ∧ M 237 y = -1) ∧ (∀ k : Nat, y0 + (k : Int) < 300 → M 236 (y0 + (k : Int)) = min (nwy N h φ lane rk wo y0 r0 k).1 (N 1) ∧ M 237 (y0 + (k : Int)) = (nwy N h φ lane rk wo y0 r0 k).2) ∧ ((M 226 29 = -1 ∧ ∀ k : Nat, y0 + (k : Int) < 300 → (nwy N h φ lane rk wo y0 r0 k).1 < N 1) ∨ ∃ j : Nat, y0 + (j : Int) < 300 ∧ M 226 29 = y0 + (j : Int) ∧ N 1 ≤ (nwy N h φ lane rk wo y0 r0 j).1 ∧ ∀ i, i < j → (nwy N h φ lane rk wo y0 r0 i).1 < N 1)
/-- as far as it has run -/
noncomputable def rr1 (N h : Int → Int) (φ : Int → Int → Int → Int) (lane rk wo y0 r0 : Int) (k : Nat) (o : Int) (M : gm_M) : Prop := (∀ y, 0 ≤ y → y < y0 → M 236 y = -1 ∧ M 237 y = -1) ∧ (∀ i, i < k → M 236 (y0 + (i : Int)) = min (nwy N h φ lane rk wo y0 r0 i).1 (N 1) ∧ M 237 (y0 + (i : Int)) = (nwy N h φ lane rk wo y0 r0 i).2) ∧ ((o = -1 ∧ ∀ i, i < k → (nwy N h φ lane rk wo y0 r0 i).1 < N 1) ∨ ∃ j : Nat, j < k ∧ o = y0 + (j : Int) ∧ N 1 ≤ (nwy N h φ lane rk wo y0 r0 j).1 ∧ ∀ i, i < j → (nwy N h φ lane rk wo y0 r0 i).1 < N 1)
theorem rr1_s {k : Nat} {o o2 : Int} {M M2 : gm_M} (y9 : 0 ≤ y0) (h9 : rr1 N h φ lane rk wo y0 r0 k o M) (e6 : ∀ j, ¬ j = y0 + (k : Int) → M2 236 j = M 236 j) (e7 : ∀ j, ¬ j = y0 + (k : Int) → M2 237 j = M 237 j) (f6 : M2 236 (y0 + (k : Int)) = min (nwy N h φ lane rk wo y0 r0 k).1 (N 1)) (f7 : M2 237 (y0 + (k : Int)) = (nwy N h φ lane rk wo y0 r0 k).2) (ho : (o < 0 ∧ N 1 ≤ (nwy N h φ lane rk wo y0 r0 k).1 ∧ o2 = y0 + (k : Int)) ∨ (o < 0 ∧ (nwy N h φ lane rk wo y0 r0 k).1 < N 1 ∧ o2 = o) ∨ (0 ≤ o ∧ o2 = o)) : rr1 N h φ lane rk wo y0 r0 (k + 1) o2 M2 := by
  obtain ⟨a, b, c⟩ := h9
  refine ⟨fun y y1 y2 => ?_, fun i hi => ?_, ?_⟩
  · rw [e6 y (by omega), e7 y (by omega)]; exact a y y1 y2
  · by_cases e : i = k
    · subst e; exact ⟨f6, f7⟩
    · rw [e6 _ (by omega), e7 _ (by omega)]; exact b i (by omega)
  · rcases c with ⟨c1, c2⟩ | ⟨j, c1, c2, c3, c4⟩
    · rcases ho with ⟨h1, h2, h3⟩ | ⟨h1, h2, h3⟩ | ⟨h1, h3⟩
      · exact Or.inr ⟨k, by omega, h3, h2, c2⟩
      · refine Or.inl ⟨by omega, fun i hi => ?_⟩
        by_cases e : i = k
        · subst e; exact h2
        · exact c2 i (by omega)
      · omega
    · rcases ho with ⟨h1, h2, h3⟩ | ⟨h1, h2, h3⟩ | ⟨h1, h3⟩
      · omega
      · omega
      · exact Or.inr ⟨j, by omega, by omega, c3, c4⟩
theorem rr1_out {k : Nat} {o : Int} {M : gm_M} (y9 : 0 ≤ y0) (h9 : rr1 N h φ lane rk wo y0 r0 k o M) (ho : 0 ≤ o) : N 1 ≤ (nwy N h φ lane rk wo y0 r0 k).1 := by
  obtain ⟨-, -, ⟨c1, c2⟩ | ⟨j, c1, c2, c3, c4⟩⟩ := h9
  · omega
  · have key : ∀ u : Nat, N 1 ≤ (nwy N h φ lane rk wo y0 r0 (j + u)).1 := by
      intro u
      induction u with
      | zero => exact c3
      | succ u ih =>
        show N 1 ≤ (nst N h φ lane rk wo (y0 + ((j + u : Nat) : Int)) (nwy N h φ lane rk wo y0 r0 (j + u))).1
        unfold nst
        rw [if_pos ih]
        exact ih
    have := key (k - j)
    rwa [show j + (k - j) = k by omega] at this
theorem rr1_no {k : Nat} {o : Int} {M : gm_M} (h9 : rr1 N h φ lane rk wo y0 r0 k o M) (y9 : 0 ≤ y0) : (o < 0 → o = -1) ∧ -1 ≤ o ∧ (0 ≤ o → o < y0 + (k : Int)) := by
  obtain ⟨-, -, ⟨c1, c2⟩ | ⟨j, c1, c2, c3, c4⟩⟩ := h9
  · exact ⟨fun _ => c1, by omega, fun h => by omega⟩
  · exact ⟨fun h => by omega, by omega, fun h => by omega⟩
theorem re_rn (hd : 14 ≤ d) (hE : E0 n K R) (hT : TR N h M) (hN : NR N) (hfw : FLR X LX n K R N h FI φ) (k2 : 0 ≤ lane ∧ lane < N 0) (k3 : 0 ≤ rk ∧ rk ≤ 1) (hwo9 : gm_ir wo) (k5 : 0 ≤ r0 ∧ r0 ≤ 300) (y9 : 0 ≤ y0 ∧ y0 < 300) (hq : ∀ M2, fr [((226 : Nat), some (29 : Int)), ((226 : Nat), some (30 : Int)), ((226 : Nat), some (26 : Int)), ((226 : Nat), some (17 : Int)), ((226 : Nat), some (18 : Int)), ((226 : Nat), some (19 : Int)), ((226 : Nat), some (20 : Int)), ((226 : Nat), some (21 : Int)), ((226 : Nat), some (22 : Int)), ((226 : Nat), some (23 : Int)), ((235 : Nat), none), ((233 : Nat), none), ((236 : Nat), none), ((237 : Nat), none)] M M2 → FI M2 → rrun N h φ lane rk wo y0 r0 M2 → Q (.inl none) n K R M2) : ∀ (u k : Nat) (r dp o : Int) (M1 : gm_M), y0 + (k : Int) + (u : Int) = 300 → fr [((226 : Nat), some (29 : Int)), ((226 : Nat), some (30 : Int)), ((226 : Nat), some (26 : Int)), ((226 : Nat), some (17 : Int)), ((226 : Nat), some (18 : Int)), ((226 : Nat), some (19 : Int)), ((226 : Nat), some (20 : Int)), ((226 : Nat), some (21 : Int)), ((226 : Nat), some (22 : Int)), ((226 : Nat), some (23 : Int)), ((235 : Nat), none), ((233 : Nat), none), ((236 : Nat), none), ((237 : Nat), none)] M M1 → FI M1 → M1 226 29 = o → rr1 N h φ lane rk wo y0 r0 k o M1 → (y0 + (k : Int) < 300 → r = (nwy N h φ lane rk wo y0 r0 k).1 ∧ dp = (nwy N h φ lane rk wo y0 r0 k).2) → gm_Wp X LX d bc bs 306 50 [some (gm_vr 226), some (gm_vi lane), some (gm_vi r0), some (gm_vi y0), some (gm_vi rk), some (gm_vi wo), some (gm_vi r), some (gm_vi dp), some (gm_vi (y0 + (k : Int)))] [] n K R M1 Q := by
  have hh : ∀ y, 0 ≤ y → y < 300 → 0 ≤ h y ∧ h y ≤ 9 := fun y y1 y2 => (hT.2 y y1 y2).2
  obtain ⟨⟨⟨a0, b0⟩, ⟨a1, b1⟩, ⟨a10, b10⟩, ⟨a11, b11⟩, ⟨a12, b12⟩, a9, b9⟩, ⟨⟨a2, b2⟩, ⟨a5, b5⟩, ⟨a3, b3⟩, ⟨a4, b4⟩, ⟨a6, b6⟩, ⟨a14, b14⟩, ⟨a7, b7⟩, a13, b13⟩, rF, rP, rL⟩ := id hN
  obtain ⟨y91, y92⟩ := y9
  intro u
  induction u with
  | zero =>
    intro k r dp o M1 hk hf hI1 h29 hr hrd
    refine gm_sz (gm_p_load (pc := 50) (i := .iload 8) (sr := 0) (j := 8) (by decide +kernel) rfl rfl rfl) ?_
    refine gm_sz (gm_p_const (pc := 52) (i := .sipush 300) (v := gm_vi 300) (by decide +kernel) (by decide +kernel)) ?_
    refine fw_ict (cc := .ge) (pc := 55) (off := 158) (by decide +kernel) (by decide) ⟨by omega, by omega⟩ ⟨by decide, by decide⟩ (show 300 ≤ (y0 + (k : Int)) by omega) ?_
    refine gm_r_void (pc := 213) (by decide +kernel) (by decide +kernel) (hq M1 hf hI1 ⟨hr.1, fun i hi => hr.2.1 i (by omega), ?_⟩)
    rcases hr.2.2 with ⟨c1, c2⟩ | ⟨j, c1, c2, c3, c4⟩
    · exact Or.inl ⟨h29.trans c1, fun i hi => c2 i (by omega)⟩
    · exact Or.inr ⟨j, by omega, h29.trans c2, c3, c4⟩
  | succ u ih =>
    intro k r dp o M1 hk hf hI1 h29 hr hrd
    obtain ⟨hr1, hd1⟩ := hrd (by omega)
    obtain ⟨⟨w1, w2⟩, w3, w4⟩ := nwy_b (lane := lane) (rock := rk) (wo := wo) hN hfw.1 hh y91 k5 k (by omega)
    have hh9 := hh (y0 + (k : Int)) (by omega) (by omega)
    obtain ⟨o1, o2, o3⟩ := rr1_no hr y91
    have oo := rr1_out y91 hr
    rw [← hr1] at w1 w2 oo
    rw [← hd1] at w3 w4
    refine gm_sz (gm_p_load (pc := 50) (i := .iload 8) (sr := 0) (j := 8) (by decide +kernel) rfl rfl rfl) ?_
    refine gm_sz (gm_p_const (pc := 52) (i := .sipush 300) (v := gm_vi 300) (by decide +kernel) (by decide +kernel)) ?_
    refine fw_icf (cc := .ge) (pc := 55) (off := 158) (by decide +kernel) (by decide) ⟨by omega, by omega⟩ ⟨by decide, by decide⟩ (show ¬ 300 ≤ (y0 + (k : Int)) by omega) ?_
    refine gm_sz (gm_p_load (pc := 58) (i := .aload_n 0) (sr := 2) (j := 0) (by decide +kernel) rfl rfl rfl) ?_
    refine gm_sz (fw_gr (pc := 59) (ix := 45) (ci := 11) (j := 27) (r := 236) (by decide +kernel) (e0k hE (k := 226) (c := 11) (by decide +kernel)) (by decide +kernel) (by decide +kernel) (e0r hE (k := 226) (j := 27) (r := 236) (by decide +kernel))) ?_
    refine gm_sz (gm_p_load (pc := 62) (i := .iload 8) (sr := 0) (j := 8) (by decide +kernel) rfl rfl rfl) ?_
    refine gm_sz (gm_p_load (pc := 64) (i := .iload 6) (sr := 0) (j := 6) (by decide +kernel) rfl rfl rfl) ?_
    refine gm_sz (gm_p_load (pc := 66) (i := .aload_n 0) (sr := 2) (j := 0) (by decide +kernel) rfl rfl rfl) ?_
    refine gm_c_virt (k := 226) (ci := 11) (mj := 259) (ix := 94) (pc := 67) (as := []) (st := [gm_vi r, gm_vi (y0 + (k : Int)), gm_vr 236]) (d' := d - 1) (bc' := 0) (bs' := 0) (by decide +kernel) (by decide +kernel) (by decide +kernel) (by decide +kernel) (e0k hE (k := 226) (c := 11) (by decide +kernel)).1 (e0k hE (k := 226) (c := 11) (by decide +kernel)).2 (by decide) (by decide +kernel) (show 0 = gm_na 259 by decide +kernel) fw_c0 (show 1 ≤ gm_ml 259 by decide +kernel) (Nat.le_of_ble_eq_true rfl) (by omega) (Nat.zero_le _) (Nat.zero_le _) ?_
    refine re_lip hE (tr_fr (W := [((226 : Nat), some (29 : Int)), ((226 : Nat), some (30 : Int)), ((226 : Nat), some (26 : Int)), ((226 : Nat), some (17 : Int)), ((226 : Nat), some (18 : Int)), ((226 : Nat), some (19 : Int)), ((226 : Nat), some (20 : Int)), ((226 : Nat), some (21 : Int)), ((226 : Nat), some (22 : Int)), ((226 : Nat), some (23 : Int)), ((235 : Nat), none), ((233 : Nat), none), ((236 : Nat), none), ((237 : Nat), none)]) hT (fr_t fr_0 hf (by decide)) (by decide)) hN ?_
    show gm_Wp X LX d _ _ 306 70 _ [gm_vi (N 1), gm_vi r, gm_vi (y0 + (k : Int)), gm_vr 236] n K _ _ Q
    refine gm_sz (gm_p_min (pc := 70) (ix := 345) (x := r) (y := N 1) (by decide +kernel) (by decide +kernel) (gm_w_id (by omega) (by omega)) (gm_w_id (by omega) (by omega)) (Nat.le_of_ble_eq_true rfl) (by omega)) ?_
    refine gm_sz (fw_is (pc := 73) (k := 236) (len := 300) (e0 := y0 + (k : Int)) (x := min r (N 1)) (M' := gm_uM M1 236 (y0 + (k : Int)) (min r (N 1))) (by decide +kernel) (e0a hE (k := 236) (q := ((0 : Nat), (300 : Nat))) (by decide +kernel)).1 (e0a hE (k := 236) (q := ((0 : Nat), (300 : Nat))) (by decide +kernel)).2 (by decide) ⟨by omega, by omega⟩ rfl) ?_
    refine gm_sz (gm_p_load (pc := 74) (i := .aload_n 0) (sr := 2) (j := 0) (by decide +kernel) rfl rfl rfl) ?_
    refine gm_sz (fw_gr (pc := 75) (ix := 48) (ci := 11) (j := 28) (r := 237) (by decide +kernel) (e0k hE (k := 226) (c := 11) (by decide +kernel)) (by decide +kernel) (by decide +kernel) (e0r hE (k := 226) (j := 28) (r := 237) (by decide +kernel))) ?_
    refine gm_sz (gm_p_load (pc := 78) (i := .iload 8) (sr := 0) (j := 8) (by decide +kernel) rfl rfl rfl) ?_
    refine gm_sz (gm_p_load (pc := 80) (i := .iload 7) (sr := 0) (j := 7) (by decide +kernel) rfl rfl rfl) ?_
    refine gm_sz (fw_is (pc := 82) (k := 237) (len := 300) (e0 := y0 + (k : Int)) (x := dp) (M' := gm_uM (gm_uM M1 236 (y0 + (k : Int)) (min r (N 1))) 237 (y0 + (k : Int)) dp) (by decide +kernel) (e0a hE (k := 237) (q := ((0 : Nat), (300 : Nat))) (by decide +kernel)).1 (e0a hE (k := 237) (q := ((0 : Nat), (300 : Nat))) (by decide +kernel)).2 (by decide) ⟨by omega, by omega⟩ rfl) ?_
    refine gm_sz (gm_p_load (pc := 83) (i := .aload_n 0) (sr := 2) (j := 0) (by decide +kernel) rfl rfl rfl) ?_
    refine gm_sz (gm_p_load (pc := 84) (i := .aload_n 0) (sr := 2) (j := 0) (by decide +kernel) rfl rfl rfl) ?_
    refine gm_sz (fw_gi (pc := 85) (ix := 368) (ci := 11) (j := 29) (x := o) (by decide +kernel) (e0k hE (k := 226) (c := 11) (by decide +kernel)) (by decide +kernel) (by decide +kernel) ((uM_ne (by omega)).trans ((uM_ne (by omega)).trans h29))) ?_
    refine fw_if (cc := .ge) (pc := 88) (off := 17) (by decide +kernel) (by decide) ⟨by omega, by omega⟩ (fun h88 => ?_) (fun h88 => ?_)
    · have h88 : 0 ≤ o := h88
      refine gm_sz (gm_p_load (pc := 105) (i := .aload_n 0) (sr := 2) (j := 0) (by decide +kernel) rfl rfl rfl) ?_
      refine gm_sz (fw_gi (pc := 106) (ix := 368) (ci := 11) (j := 29) (x := o) (by decide +kernel) (e0k hE (k := 226) (c := 11) (by decide +kernel)) (by decide +kernel) (by decide +kernel) ((uM_ne (by omega)).trans ((uM_ne (by omega)).trans h29))) ?_
      refine gm_sz (fw_pi (pc := 109) (ix := 368) (ci := 11) (j := 29) (M' := gm_uM (gm_uM (gm_uM M1 236 (y0 + (k : Int)) (min r (N 1))) 237 (y0 + (k : Int)) dp) 226 29 o) (by decide +kernel) (e0k hE (k := 226) (c := 11) (by decide +kernel)) (by decide +kernel) (by decide +kernel) (by decide +kernel) rfl) ?_
      refine gm_sz (gm_p_load (pc := 112) (i := .aload_n 0) (sr := 2) (j := 0) (by decide +kernel) rfl rfl rfl) ?_
      refine gm_sz (fw_gi (pc := 113) (ix := 368) (ci := 11) (j := 29) (x := o) (by decide +kernel) (e0k hE (k := 226) (c := 11) (by decide +kernel)) (by decide +kernel) (by decide +kernel) uM_at) ?_
      refine fw_ift (cc := .ge) (pc := 116) (off := 91) (by decide +kernel) (by decide) ⟨by omega, by omega⟩ (show 0 ≤ o by omega) ?_
      refine gm_sz (gm_p_iinc (pc := 207) (j := 8) (z := 1) (by decide +kernel) rfl) ?_
      refine gm_sz (gm_p_goto (pc := 210) (off := (-160)) (by decide +kernel) (by decide)) ?_
      have r9 : rr1 N h φ lane rk wo y0 r0 (k + 1) o _ := rr1_s (M2 := gm_uM (gm_uM (gm_uM M1 236 (y0 + (k : Int)) (min r (N 1))) 237 (y0 + (k : Int)) dp) 226 29 o) y91 hr (fun j hj => ((uM_ne (by omega)).trans ((uM_ne (by omega)).trans ((uM_ne (fun hh => hj hh.2)).trans rfl)))) (fun j hj => ((uM_ne (by omega)).trans ((uM_ne (fun hh => hj hh.2)).trans ((uM_ne (by omega)).trans rfl)))) (((uM_ne (by omega)).trans ((uM_ne (by omega)).trans uM_at)).trans (by rw [hr1])) (((uM_ne (by omega)).trans uM_at).trans hd1) (Or.inr (Or.inr ⟨by omega, rfl⟩))
      rw [show y0 + (k : Int) + 1 = y0 + ((k + 1 : Nat) : Int) by omega]
      refine ih (k + 1) _ _ _ _ (by omega) (fr_p (fr_p (fr_p (fr_t fr_0 hf (by decide)) (Or.inl (by decide))) (Or.inl (by decide))) (Or.inr (by decide))) (hfw.2.1 [((236 : Nat), none), ((237 : Nat), none), ((226 : Nat), some (29 : Int))] _ _ (by decide) (fr_p (fr_p (fr_p fr_0 (Or.inl (by decide))) (Or.inl (by decide))) (Or.inr (by decide))) hI1) uM_at r9 ?_
      intro hlt
      have e9 : nst N h φ lane rk wo (y0 + (k : Int)) (r, dp) = (r, dp) := if_pos (by omega)
      have e8 : nwy N h φ lane rk wo y0 r0 (k + 1) = nst N h φ lane rk wo (y0 + (k : Int)) (r, dp) := by show nst N h φ lane rk wo (y0 + (k : Int)) (nwy N h φ lane rk wo y0 r0 k) = _; rw [hr1, hd1]
      rw [e8, e9]
      exact ⟨rfl, rfl⟩
    · have h88 : ¬ 0 ≤ o := h88
      refine gm_sz (gm_p_load (pc := 91) (i := .iload 6) (sr := 0) (j := 6) (by decide +kernel) rfl rfl rfl) ?_
      refine gm_sz (gm_p_load (pc := 93) (i := .aload_n 0) (sr := 2) (j := 0) (by decide +kernel) rfl rfl rfl) ?_
      refine gm_c_virt (k := 226) (ci := 11) (mj := 259) (ix := 94) (pc := 94) (as := []) (st := [gm_vi r, gm_vr 226]) (d' := d - 1) (bc' := 0) (bs' := 0) (by decide +kernel) (by decide +kernel) (by decide +kernel) (by decide +kernel) (e0k hE (k := 226) (c := 11) (by decide +kernel)).1 (e0k hE (k := 226) (c := 11) (by decide +kernel)).2 (by decide) (by decide +kernel) (show 0 = gm_na 259 by decide +kernel) fw_c0 (show 1 ≤ gm_ml 259 by decide +kernel) (Nat.le_of_ble_eq_true rfl) (by omega) (Nat.zero_le _) (Nat.zero_le _) ?_
      refine re_lip hE (tr_fr (W := [((226 : Nat), some (29 : Int)), ((226 : Nat), some (30 : Int)), ((226 : Nat), some (26 : Int)), ((226 : Nat), some (17 : Int)), ((226 : Nat), some (18 : Int)), ((226 : Nat), some (19 : Int)), ((226 : Nat), some (20 : Int)), ((226 : Nat), some (21 : Int)), ((226 : Nat), some (22 : Int)), ((226 : Nat), some (23 : Int)), ((235 : Nat), none), ((233 : Nat), none), ((236 : Nat), none), ((237 : Nat), none)]) hT (fr_p (fr_p (fr_t fr_0 hf (by decide)) (Or.inl (by decide))) (Or.inl (by decide))) (by decide)) hN ?_
      show gm_Wp X LX d _ _ 306 97 _ [gm_vi (N 1), gm_vi r, gm_vr 226] n K _ _ Q
      refine fw_ic (cc := .lt) (pc := 97) (off := 8) (by decide +kernel) (by decide) ⟨by omega, by omega⟩ ⟨by omega, by omega⟩ (fun h97 => ?_) (fun h97 => ?_)
      · have h97 : r < (N 1) := h97
        refine gm_sz (gm_p_load (pc := 105) (i := .aload_n 0) (sr := 2) (j := 0) (by decide +kernel) rfl rfl rfl) ?_
        refine gm_sz (fw_gi (pc := 106) (ix := 368) (ci := 11) (j := 29) (x := o) (by decide +kernel) (e0k hE (k := 226) (c := 11) (by decide +kernel)) (by decide +kernel) (by decide +kernel) ((uM_ne (by omega)).trans ((uM_ne (by omega)).trans h29))) ?_
        refine gm_sz (fw_pi (pc := 109) (ix := 368) (ci := 11) (j := 29) (M' := gm_uM (gm_uM (gm_uM M1 236 (y0 + (k : Int)) (min r (N 1))) 237 (y0 + (k : Int)) dp) 226 29 o) (by decide +kernel) (e0k hE (k := 226) (c := 11) (by decide +kernel)) (by decide +kernel) (by decide +kernel) (by decide +kernel) rfl) ?_
        refine gm_sz (gm_p_load (pc := 112) (i := .aload_n 0) (sr := 2) (j := 0) (by decide +kernel) rfl rfl rfl) ?_
        refine gm_sz (fw_gi (pc := 113) (ix := 368) (ci := 11) (j := 29) (x := o) (by decide +kernel) (e0k hE (k := 226) (c := 11) (by decide +kernel)) (by decide +kernel) (by decide +kernel) uM_at) ?_
        refine fw_iff (cc := .ge) (pc := 116) (off := 91) (by decide +kernel) (by decide) ⟨by omega, by omega⟩ (show ¬ 0 ≤ o by omega) ?_
        refine gm_sz (gm_p_load (pc := 119) (i := .iload 8) (sr := 0) (j := 8) (by decide +kernel) rfl rfl rfl) ?_
        refine gm_sz (gm_p_const (pc := 121) (i := .sipush 299) (v := gm_vi 299) (by decide +kernel) (by decide +kernel)) ?_
        refine fw_ic (cc := .ne) (pc := 124) (off := 6) (by decide +kernel) (by decide) ⟨by omega, by omega⟩ ⟨by decide, by decide⟩ (fun h124 => ?_) (fun h124 => ?_)
        · have h124 : ¬ (y0 + (k : Int)) = 299 := h124
          refine gm_sz (gm_p_load (pc := 130) (i := .iload 4) (sr := 0) (j := 4) (by decide +kernel) rfl rfl rfl) ?_
          refine fw_if (cc := .eq) (pc := 132) (off := 7) (by decide +kernel) (by decide) ⟨by omega, by omega⟩ (fun h132 => ?_) (fun h132 => ?_)
          · have h132 : rk = 0 := h132
            refine gm_sz (gm_p_load (pc := 139) (i := .iload 6) (sr := 0) (j := 6) (by decide +kernel) rfl rfl rfl) ?_
            refine gm_sz (gm_p_load (pc := 141) (i := .aload_n 0) (sr := 2) (j := 0) (by decide +kernel) rfl rfl rfl) ?_
            refine gm_sz (fw_gr (pc := 142) (ix := 13) (ci := 11) (j := 1) (r := 227) (by decide +kernel) (e0k hE (k := 226) (c := 11) (by decide +kernel)) (by decide +kernel) (by decide +kernel) (e0r hE (k := 226) (j := 1) (r := 227) (by decide +kernel))) ?_
            refine gm_sz (gm_p_const (pc := 145) (i := .bipush 10) (v := gm_vi 10) (by decide +kernel) (by decide +kernel)) ?_
            refine gm_sz (fw_ia (pc := 147) (k := 227) (len := 2093) (e0 := 10) (x := N 10) (by decide +kernel) (e0a hE (k := 227) (q := ((0 : Nat), (2093 : Nat))) (by decide +kernel)).1 (e0a hE (k := 227) (q := ((0 : Nat), (2093 : Nat))) (by decide +kernel)).2 (by decide) ⟨by omega, by omega⟩ ((uM_ne (by omega)).trans ((uM_ne (by omega)).trans ((uM_ne (by omega)).trans ((fr_c hf (by decide)).trans (tr_w hT (by decide) (by decide) (by decide))))))) ?_
            refine fw_ic (cc := .ge) (pc := 148) (off := 21) (by decide +kernel) (by decide) ⟨by omega, by omega⟩ ⟨by omega, by omega⟩ (fun h148 => ?_) (fun h148 => ?_)
            · have h148 : (N 10) ≤ r := h148
              refine gm_sz (gm_p_const (pc := 169) (i := .iconst 0) (v := gm_vi 0) (by decide +kernel) (by decide +kernel)) ?_
              refine gm_sz (gm_p_load (pc := 170) (i := .iload 7) (sr := 0) (j := 7) (by decide +kernel) rfl rfl rfl) ?_
              refine gm_sz (gm_p_load (pc := 172) (i := .aload_n 0) (sr := 2) (j := 0) (by decide +kernel) rfl rfl rfl) ?_
              refine gm_sz (fw_gr (pc := 173) (ix := 39) (ci := 11) (j := 24) (r := 234) (by decide +kernel) (e0k hE (k := 226) (c := 11) (by decide +kernel)) (by decide +kernel) (by decide +kernel) (e0r hE (k := 226) (j := 24) (r := 234) (by decide +kernel))) ?_
              refine gm_sz (gm_p_load (pc := 176) (i := .iload 8) (sr := 0) (j := 8) (by decide +kernel) rfl rfl rfl) ?_
              refine gm_sz (fw_ia (pc := 178) (k := 234) (len := 300) (e0 := y0 + (k : Int)) (x := h (y0 + (k : Int))) (by decide +kernel) (e0a hE (k := 234) (q := ((0 : Nat), (300 : Nat))) (by decide +kernel)).1 (e0a hE (k := 234) (q := ((0 : Nat), (300 : Nat))) (by decide +kernel)).2 (by decide) ⟨by omega, by omega⟩ ((uM_ne (by omega)).trans ((uM_ne (by omega)).trans ((uM_ne (by omega)).trans ((fr_c hf (by decide)).trans ((hT.2 _ (by omega) (by omega)).1)))))) ?_
              refine gm_sz (gm_p_bin (pc := 179) (i := .isub) (f := fun x y => x - y) (by decide +kernel) rfl) ?_
              refine gm_sz (gm_p_max (pc := 180) (ix := 350) (x := 0) (y := dp - (h (y0 + (k : Int)))) (by decide +kernel) (by decide +kernel) (gm_w_id (by omega) (by omega)) (gm_w_id (by omega) (by omega)) (Nat.le_of_ble_eq_true rfl) (by omega)) ?_
              refine gm_sz (gm_p_stor (pc := 183) (i := .istore 7) (sr := 0) (j := 7) (by decide +kernel) rfl (show 8 ≤ _ from Nat.le_of_ble_eq_true rfl) rfl) ?_
              refine gm_sz (gm_p_load (pc := 185) (i := .aload_n 0) (sr := 2) (j := 0) (by decide +kernel) rfl rfl rfl) ?_
              refine gm_sz (gm_p_load (pc := 186) (i := .iload 6) (sr := 0) (j := 6) (by decide +kernel) rfl rfl rfl) ?_
              refine gm_sz (gm_p_load (pc := 188) (i := .aload_n 0) (sr := 2) (j := 0) (by decide +kernel) rfl rfl rfl) ?_
              refine gm_sz (gm_p_load (pc := 189) (i := .iload_n 1) (sr := 0) (j := 1) (by decide +kernel) rfl rfl rfl) ?_
              refine gm_sz (gm_p_load (pc := 190) (i := .iload 6) (sr := 0) (j := 6) (by decide +kernel) rfl rfl rfl) ?_
              refine gm_sz (gm_p_load (pc := 192) (i := .iload 8) (sr := 0) (j := 8) (by decide +kernel) rfl rfl rfl) ?_
              refine gm_c_virt (k := 226) (ci := 11) (mj := 292) (ix := 362) (pc := 194) (as := [gm_vi lane, gm_vi r, gm_vi (y0 + (k : Int))]) (st := [gm_vi r, gm_vr 226]) (d' := d - 1) (bc' := 0) (bs' := 0) (by decide +kernel) (by decide +kernel) (by decide +kernel) (by decide +kernel) (e0k hE (k := 226) (c := 11) (by decide +kernel)).1 (e0k hE (k := 226) (c := 11) (by decide +kernel)).2 (by decide) (by decide +kernel) (show 3 = gm_na 292 by decide +kernel) (fw_c3 fw_si fw_si fw_si) (show 4 ≤ gm_ml 292 by decide +kernel) (Nat.le_of_ble_eq_true rfl) (by omega) (Nat.zero_le _) (Nat.zero_le _) ?_
              refine hfw.2.2 _ _ _ _ _ _ _ _ (by omega) ⟨by omega, by omega⟩ ⟨by omega, by omega⟩ ⟨by omega, by omega⟩ (tr_fr (W := [((226 : Nat), some (29 : Int)), ((226 : Nat), some (30 : Int)), ((226 : Nat), some (26 : Int)), ((226 : Nat), some (17 : Int)), ((226 : Nat), some (18 : Int)), ((226 : Nat), some (19 : Int)), ((226 : Nat), some (20 : Int)), ((226 : Nat), some (21 : Int)), ((226 : Nat), some (22 : Int)), ((226 : Nat), some (23 : Int)), ((235 : Nat), none), ((233 : Nat), none), ((236 : Nat), none), ((237 : Nat), none)]) hT (fr_p (fr_p (fr_p (fr_t fr_0 hf (by decide)) (Or.inl (by decide))) (Or.inl (by decide))) (Or.inr (by decide))) (by decide)) (hfw.2.1 [((236 : Nat), none), ((237 : Nat), none), ((226 : Nat), some (29 : Int))] _ _ (by decide) (fr_p (fr_p (fr_p fr_0 (Or.inl (by decide))) (Or.inl (by decide))) (Or.inr (by decide))) hI1) (fun M194 hf194 hI194 => ?_)
              show gm_Wp X LX d _ _ 306 197 _ [gm_vi (φ lane r (y0 + (k : Int))), gm_vi r, gm_vr 226] n K _ _ Q
              have hφ9 := hfw.1 lane r (y0 + (k : Int))
              refine gm_sz (gm_p_bin (pc := 197) (i := .iadd) (f := fun x y => x + y) (by decide +kernel) rfl) ?_
              refine gm_sz (gm_p_load (pc := 198) (i := .iload 8) (sr := 0) (j := 8) (by decide +kernel) rfl rfl rfl) ?_
              refine gm_sz (gm_p_load (pc := 200) (i := .iload 5) (sr := 0) (j := 5) (by decide +kernel) rfl rfl rfl) ?_
              refine gm_c_virt (k := 226) (ci := 11) (mj := 307) (ix := 371) (pc := 202) (as := [gm_vi (r + (φ lane r (y0 + (k : Int)))), gm_vi (y0 + (k : Int)), gm_vi wo]) (st := []) (d' := d - 1) (bc' := 0) (bs' := 0) (by decide +kernel) (by decide +kernel) (by decide +kernel) (by decide +kernel) (e0k hE (k := 226) (c := 11) (by decide +kernel)).1 (e0k hE (k := 226) (c := 11) (by decide +kernel)).2 (by decide) (by decide +kernel) (show 3 = gm_na 307 by decide +kernel) (fw_c3 fw_si fw_si fw_si) (show 4 ≤ gm_ml 307 by decide +kernel) (Nat.le_of_ble_eq_true rfl) (by omega) (Nat.zero_le _) (Nat.zero_le _) ?_
              refine re_c307 (r0 := r + (φ lane r (y0 + (k : Int)))) (y := y0 + (k : Int)) (wo := wo) hE (tr_fr (W := [((226 : Nat), some (29 : Int)), ((226 : Nat), some (30 : Int)), ((226 : Nat), some (26 : Int)), ((226 : Nat), some (17 : Int)), ((226 : Nat), some (18 : Int)), ((226 : Nat), some (19 : Int)), ((226 : Nat), some (20 : Int)), ((226 : Nat), some (21 : Int)), ((226 : Nat), some (22 : Int)), ((226 : Nat), some (23 : Int)), ((235 : Nat), none), ((233 : Nat), none), ((236 : Nat), none), ((237 : Nat), none)]) hT (fr_t (fr_p (fr_p (fr_p (fr_t fr_0 hf (by decide)) (Or.inl (by decide))) (Or.inl (by decide))) (Or.inr (by decide))) hf194 (by decide)) (by decide)) hN hwo9 ⟨by omega, by omega⟩ ⟨by omega, by omega⟩ (fun M202 hf202 => ?_)
              show gm_Wp X LX d _ _ 306 205 _ [gm_vi (nfl N (y0 + (k : Int)) wo (N 5).toNat (r + (φ lane r (y0 + (k : Int)))))] n K _ _ Q
              refine gm_sz (gm_p_stor (pc := 205) (i := .istore 6) (sr := 0) (j := 6) (by decide +kernel) rfl (show 7 ≤ _ from Nat.le_of_ble_eq_true rfl) rfl) ?_
              refine gm_sz (gm_p_iinc (pc := 207) (j := 8) (z := 1) (by decide +kernel) rfl) ?_
              refine gm_sz (gm_p_goto (pc := 210) (off := (-160)) (by decide +kernel) (by decide)) ?_
              have r9 : rr1 N h φ lane rk wo y0 r0 (k + 1) o _ := rr1_s (M2 := M202) y91 hr (fun j hj => ((fr_c hf202 (by decide)).trans ((fr_c hf194 (by decide)).trans ((uM_ne (by omega)).trans ((uM_ne (by omega)).trans ((uM_ne (fun hh => hj hh.2)).trans rfl)))))) (fun j hj => ((fr_c hf202 (by decide)).trans ((fr_c hf194 (by decide)).trans ((uM_ne (by omega)).trans ((uM_ne (fun hh => hj hh.2)).trans ((uM_ne (by omega)).trans rfl)))))) (((fr_c hf202 (by decide)).trans ((fr_c hf194 (by decide)).trans ((uM_ne (by omega)).trans ((uM_ne (by omega)).trans uM_at)))).trans (by rw [hr1])) (((fr_c hf202 (by decide)).trans ((fr_c hf194 (by decide)).trans ((uM_ne (by omega)).trans uM_at))).trans hd1) (Or.inr (Or.inl ⟨by omega, by omega, rfl⟩))
              rw [show y0 + (k : Int) + 1 = y0 + ((k + 1 : Nat) : Int) by omega]
              refine ih (k + 1) _ _ _ _ (by omega) (fr_t (fr_t (fr_p (fr_p (fr_p (fr_t fr_0 hf (by decide)) (Or.inl (by decide))) (Or.inl (by decide))) (Or.inr (by decide))) hf194 (by decide)) hf202 (by decide)) (hfw.2.1 [((226 : Nat), some (30 : Int))] _ _ (by decide) (fr_t fr_0 hf202 (by decide)) hI194) ((fr_j hf202 (by decide)).trans ((fr_j hf194 (by decide)).trans uM_at)) r9 ?_
              intro hlt
              have e9 : nst N h φ lane rk wo (y0 + (k : Int)) (r, dp) = (nfl N (y0 + (k : Int)) wo (N 5).toNat (r + φ lane r (y0 + (k : Int))), ndp N h rk (y0 + (k : Int)) (r, dp)) := if_neg (by omega)
              have e8 : nwy N h φ lane rk wo y0 r0 (k + 1) = nst N h φ lane rk wo (y0 + (k : Int)) (r, dp) := by show nst N h φ lane rk wo (y0 + (k : Int)) (nwy N h φ lane rk wo y0 r0 k) = _; rw [hr1, hd1]
              rw [e8, e9]
              refine ⟨rfl, ?_⟩
              show _ = ndp N h rk (y0 + (k : Int)) (r, dp)
              unfold ndp
              dsimp only
              repeat (first | rw [if_pos (by omega)] | rw [if_neg (by omega)])
            · have h148 : ¬ (N 10) ≤ r := h148
              refine gm_sz (gm_p_const (pc := 151) (i := .bipush 99) (v := gm_vi 99) (by decide +kernel) (by decide +kernel)) ?_
              refine gm_sz (gm_p_load (pc := 153) (i := .iload 7) (sr := 0) (j := 7) (by decide +kernel) rfl rfl rfl) ?_
              refine gm_sz (gm_p_load (pc := 155) (i := .aload_n 0) (sr := 2) (j := 0) (by decide +kernel) rfl rfl rfl) ?_
              refine gm_sz (fw_gr (pc := 156) (ix := 13) (ci := 11) (j := 1) (r := 227) (by decide +kernel) (e0k hE (k := 226) (c := 11) (by decide +kernel)) (by decide +kernel) (by decide +kernel) (e0r hE (k := 226) (j := 1) (r := 227) (by decide +kernel))) ?_
              refine gm_sz (gm_p_const (pc := 159) (i := .bipush 11) (v := gm_vi 11) (by decide +kernel) (by decide +kernel)) ?_
              refine gm_sz (fw_ia (pc := 161) (k := 227) (len := 2093) (e0 := 11) (x := N 11) (by decide +kernel) (e0a hE (k := 227) (q := ((0 : Nat), (2093 : Nat))) (by decide +kernel)).1 (e0a hE (k := 227) (q := ((0 : Nat), (2093 : Nat))) (by decide +kernel)).2 (by decide) ⟨by omega, by omega⟩ ((uM_ne (by omega)).trans ((uM_ne (by omega)).trans ((uM_ne (by omega)).trans ((fr_c hf (by decide)).trans (tr_w hT (by decide) (by decide) (by decide))))))) ?_
              refine gm_sz (gm_p_bin (pc := 162) (i := .iadd) (f := fun x y => x + y) (by decide +kernel) rfl) ?_
              refine gm_sz (gm_p_min (pc := 163) (ix := 345) (x := 99) (y := dp + (N 11)) (by decide +kernel) (by decide +kernel) (gm_w_id (by omega) (by omega)) (gm_w_id (by omega) (by omega)) (Nat.le_of_ble_eq_true rfl) (by omega)) ?_
              refine gm_sz (gm_p_goto (pc := 166) (off := 17) (by decide +kernel) (by decide)) ?_
              refine gm_sz (gm_p_stor (pc := 183) (i := .istore 7) (sr := 0) (j := 7) (by decide +kernel) rfl (show 8 ≤ _ from Nat.le_of_ble_eq_true rfl) rfl) ?_
              refine gm_sz (gm_p_load (pc := 185) (i := .aload_n 0) (sr := 2) (j := 0) (by decide +kernel) rfl rfl rfl) ?_
              refine gm_sz (gm_p_load (pc := 186) (i := .iload 6) (sr := 0) (j := 6) (by decide +kernel) rfl rfl rfl) ?_
              refine gm_sz (gm_p_load (pc := 188) (i := .aload_n 0) (sr := 2) (j := 0) (by decide +kernel) rfl rfl rfl) ?_
              refine gm_sz (gm_p_load (pc := 189) (i := .iload_n 1) (sr := 0) (j := 1) (by decide +kernel) rfl rfl rfl) ?_
              refine gm_sz (gm_p_load (pc := 190) (i := .iload 6) (sr := 0) (j := 6) (by decide +kernel) rfl rfl rfl) ?_
              refine gm_sz (gm_p_load (pc := 192) (i := .iload 8) (sr := 0) (j := 8) (by decide +kernel) rfl rfl rfl) ?_
              refine gm_c_virt (k := 226) (ci := 11) (mj := 292) (ix := 362) (pc := 194) (as := [gm_vi lane, gm_vi r, gm_vi (y0 + (k : Int))]) (st := [gm_vi r, gm_vr 226]) (d' := d - 1) (bc' := 0) (bs' := 0) (by decide +kernel) (by decide +kernel) (by decide +kernel) (by decide +kernel) (e0k hE (k := 226) (c := 11) (by decide +kernel)).1 (e0k hE (k := 226) (c := 11) (by decide +kernel)).2 (by decide) (by decide +kernel) (show 3 = gm_na 292 by decide +kernel) (fw_c3 fw_si fw_si fw_si) (show 4 ≤ gm_ml 292 by decide +kernel) (Nat.le_of_ble_eq_true rfl) (by omega) (Nat.zero_le _) (Nat.zero_le _) ?_
              refine hfw.2.2 _ _ _ _ _ _ _ _ (by omega) ⟨by omega, by omega⟩ ⟨by omega, by omega⟩ ⟨by omega, by omega⟩ (tr_fr (W := [((226 : Nat), some (29 : Int)), ((226 : Nat), some (30 : Int)), ((226 : Nat), some (26 : Int)), ((226 : Nat), some (17 : Int)), ((226 : Nat), some (18 : Int)), ((226 : Nat), some (19 : Int)), ((226 : Nat), some (20 : Int)), ((226 : Nat), some (21 : Int)), ((226 : Nat), some (22 : Int)), ((226 : Nat), some (23 : Int)), ((235 : Nat), none), ((233 : Nat), none), ((236 : Nat), none), ((237 : Nat), none)]) hT (fr_p (fr_p (fr_p (fr_t fr_0 hf (by decide)) (Or.inl (by decide))) (Or.inl (by decide))) (Or.inr (by decide))) (by decide)) (hfw.2.1 [((236 : Nat), none), ((237 : Nat), none), ((226 : Nat), some (29 : Int))] _ _ (by decide) (fr_p (fr_p (fr_p fr_0 (Or.inl (by decide))) (Or.inl (by decide))) (Or.inr (by decide))) hI1) (fun M194 hf194 hI194 => ?_)
              show gm_Wp X LX d _ _ 306 197 _ [gm_vi (φ lane r (y0 + (k : Int))), gm_vi r, gm_vr 226] n K _ _ Q
              have hφ9 := hfw.1 lane r (y0 + (k : Int))
              refine gm_sz (gm_p_bin (pc := 197) (i := .iadd) (f := fun x y => x + y) (by decide +kernel) rfl) ?_
              refine gm_sz (gm_p_load (pc := 198) (i := .iload 8) (sr := 0) (j := 8) (by decide +kernel) rfl rfl rfl) ?_
              refine gm_sz (gm_p_load (pc := 200) (i := .iload 5) (sr := 0) (j := 5) (by decide +kernel) rfl rfl rfl) ?_
              refine gm_c_virt (k := 226) (ci := 11) (mj := 307) (ix := 371) (pc := 202) (as := [gm_vi (r + (φ lane r (y0 + (k : Int)))), gm_vi (y0 + (k : Int)), gm_vi wo]) (st := []) (d' := d - 1) (bc' := 0) (bs' := 0) (by decide +kernel) (by decide +kernel) (by decide +kernel) (by decide +kernel) (e0k hE (k := 226) (c := 11) (by decide +kernel)).1 (e0k hE (k := 226) (c := 11) (by decide +kernel)).2 (by decide) (by decide +kernel) (show 3 = gm_na 307 by decide +kernel) (fw_c3 fw_si fw_si fw_si) (show 4 ≤ gm_ml 307 by decide +kernel) (Nat.le_of_ble_eq_true rfl) (by omega) (Nat.zero_le _) (Nat.zero_le _) ?_
              refine re_c307 (r0 := r + (φ lane r (y0 + (k : Int)))) (y := y0 + (k : Int)) (wo := wo) hE (tr_fr (W := [((226 : Nat), some (29 : Int)), ((226 : Nat), some (30 : Int)), ((226 : Nat), some (26 : Int)), ((226 : Nat), some (17 : Int)), ((226 : Nat), some (18 : Int)), ((226 : Nat), some (19 : Int)), ((226 : Nat), some (20 : Int)), ((226 : Nat), some (21 : Int)), ((226 : Nat), some (22 : Int)), ((226 : Nat), some (23 : Int)), ((235 : Nat), none), ((233 : Nat), none), ((236 : Nat), none), ((237 : Nat), none)]) hT (fr_t (fr_p (fr_p (fr_p (fr_t fr_0 hf (by decide)) (Or.inl (by decide))) (Or.inl (by decide))) (Or.inr (by decide))) hf194 (by decide)) (by decide)) hN hwo9 ⟨by omega, by omega⟩ ⟨by omega, by omega⟩ (fun M202 hf202 => ?_)
              show gm_Wp X LX d _ _ 306 205 _ [gm_vi (nfl N (y0 + (k : Int)) wo (N 5).toNat (r + (φ lane r (y0 + (k : Int)))))] n K _ _ Q
              refine gm_sz (gm_p_stor (pc := 205) (i := .istore 6) (sr := 0) (j := 6) (by decide +kernel) rfl (show 7 ≤ _ from Nat.le_of_ble_eq_true rfl) rfl) ?_
              refine gm_sz (gm_p_iinc (pc := 207) (j := 8) (z := 1) (by decide +kernel) rfl) ?_
              refine gm_sz (gm_p_goto (pc := 210) (off := (-160)) (by decide +kernel) (by decide)) ?_
              have r9 : rr1 N h φ lane rk wo y0 r0 (k + 1) o _ := rr1_s (M2 := M202) y91 hr (fun j hj => ((fr_c hf202 (by decide)).trans ((fr_c hf194 (by decide)).trans ((uM_ne (by omega)).trans ((uM_ne (by omega)).trans ((uM_ne (fun hh => hj hh.2)).trans rfl)))))) (fun j hj => ((fr_c hf202 (by decide)).trans ((fr_c hf194 (by decide)).trans ((uM_ne (by omega)).trans ((uM_ne (fun hh => hj hh.2)).trans ((uM_ne (by omega)).trans rfl)))))) (((fr_c hf202 (by decide)).trans ((fr_c hf194 (by decide)).trans ((uM_ne (by omega)).trans ((uM_ne (by omega)).trans uM_at)))).trans (by rw [hr1])) (((fr_c hf202 (by decide)).trans ((fr_c hf194 (by decide)).trans ((uM_ne (by omega)).trans uM_at))).trans hd1) (Or.inr (Or.inl ⟨by omega, by omega, rfl⟩))
              rw [show y0 + (k : Int) + 1 = y0 + ((k + 1 : Nat) : Int) by omega]
              refine ih (k + 1) _ _ _ _ (by omega) (fr_t (fr_t (fr_p (fr_p (fr_p (fr_t fr_0 hf (by decide)) (Or.inl (by decide))) (Or.inl (by decide))) (Or.inr (by decide))) hf194 (by decide)) hf202 (by decide)) (hfw.2.1 [((226 : Nat), some (30 : Int))] _ _ (by decide) (fr_t fr_0 hf202 (by decide)) hI194) ((fr_j hf202 (by decide)).trans ((fr_j hf194 (by decide)).trans uM_at)) r9 ?_
              intro hlt
              have e9 : nst N h φ lane rk wo (y0 + (k : Int)) (r, dp) = (nfl N (y0 + (k : Int)) wo (N 5).toNat (r + φ lane r (y0 + (k : Int))), ndp N h rk (y0 + (k : Int)) (r, dp)) := if_neg (by omega)
              have e8 : nwy N h φ lane rk wo y0 r0 (k + 1) = nst N h φ lane rk wo (y0 + (k : Int)) (r, dp) := by show nst N h φ lane rk wo (y0 + (k : Int)) (nwy N h φ lane rk wo y0 r0 k) = _; rw [hr1, hd1]
              rw [e8, e9]
              refine ⟨rfl, ?_⟩
              show _ = ndp N h rk (y0 + (k : Int)) (r, dp)
              unfold ndp
              dsimp only
              repeat (first | rw [if_pos (by omega)] | rw [if_neg (by omega)])
          · have h132 : ¬ rk = 0 := h132
            refine gm_sz (gm_p_const (pc := 135) (i := .iconst 0) (v := gm_vi 0) (by decide +kernel) (by decide +kernel)) ?_
            refine gm_sz (gm_p_goto (pc := 136) (off := 47) (by decide +kernel) (by decide)) ?_
            refine gm_sz (gm_p_stor (pc := 183) (i := .istore 7) (sr := 0) (j := 7) (by decide +kernel) rfl (show 8 ≤ _ from Nat.le_of_ble_eq_true rfl) rfl) ?_
            refine gm_sz (gm_p_load (pc := 185) (i := .aload_n 0) (sr := 2) (j := 0) (by decide +kernel) rfl rfl rfl) ?_
            refine gm_sz (gm_p_load (pc := 186) (i := .iload 6) (sr := 0) (j := 6) (by decide +kernel) rfl rfl rfl) ?_
            refine gm_sz (gm_p_load (pc := 188) (i := .aload_n 0) (sr := 2) (j := 0) (by decide +kernel) rfl rfl rfl) ?_
            refine gm_sz (gm_p_load (pc := 189) (i := .iload_n 1) (sr := 0) (j := 1) (by decide +kernel) rfl rfl rfl) ?_
            refine gm_sz (gm_p_load (pc := 190) (i := .iload 6) (sr := 0) (j := 6) (by decide +kernel) rfl rfl rfl) ?_
            refine gm_sz (gm_p_load (pc := 192) (i := .iload 8) (sr := 0) (j := 8) (by decide +kernel) rfl rfl rfl) ?_
            refine gm_c_virt (k := 226) (ci := 11) (mj := 292) (ix := 362) (pc := 194) (as := [gm_vi lane, gm_vi r, gm_vi (y0 + (k : Int))]) (st := [gm_vi r, gm_vr 226]) (d' := d - 1) (bc' := 0) (bs' := 0) (by decide +kernel) (by decide +kernel) (by decide +kernel) (by decide +kernel) (e0k hE (k := 226) (c := 11) (by decide +kernel)).1 (e0k hE (k := 226) (c := 11) (by decide +kernel)).2 (by decide) (by decide +kernel) (show 3 = gm_na 292 by decide +kernel) (fw_c3 fw_si fw_si fw_si) (show 4 ≤ gm_ml 292 by decide +kernel) (Nat.le_of_ble_eq_true rfl) (by omega) (Nat.zero_le _) (Nat.zero_le _) ?_
            refine hfw.2.2 _ _ _ _ _ _ _ _ (by omega) ⟨by omega, by omega⟩ ⟨by omega, by omega⟩ ⟨by omega, by omega⟩ (tr_fr (W := [((226 : Nat), some (29 : Int)), ((226 : Nat), some (30 : Int)), ((226 : Nat), some (26 : Int)), ((226 : Nat), some (17 : Int)), ((226 : Nat), some (18 : Int)), ((226 : Nat), some (19 : Int)), ((226 : Nat), some (20 : Int)), ((226 : Nat), some (21 : Int)), ((226 : Nat), some (22 : Int)), ((226 : Nat), some (23 : Int)), ((235 : Nat), none), ((233 : Nat), none), ((236 : Nat), none), ((237 : Nat), none)]) hT (fr_p (fr_p (fr_p (fr_t fr_0 hf (by decide)) (Or.inl (by decide))) (Or.inl (by decide))) (Or.inr (by decide))) (by decide)) (hfw.2.1 [((236 : Nat), none), ((237 : Nat), none), ((226 : Nat), some (29 : Int))] _ _ (by decide) (fr_p (fr_p (fr_p fr_0 (Or.inl (by decide))) (Or.inl (by decide))) (Or.inr (by decide))) hI1) (fun M194 hf194 hI194 => ?_)
            show gm_Wp X LX d _ _ 306 197 _ [gm_vi (φ lane r (y0 + (k : Int))), gm_vi r, gm_vr 226] n K _ _ Q
            have hφ9 := hfw.1 lane r (y0 + (k : Int))
            refine gm_sz (gm_p_bin (pc := 197) (i := .iadd) (f := fun x y => x + y) (by decide +kernel) rfl) ?_
            refine gm_sz (gm_p_load (pc := 198) (i := .iload 8) (sr := 0) (j := 8) (by decide +kernel) rfl rfl rfl) ?_
            refine gm_sz (gm_p_load (pc := 200) (i := .iload 5) (sr := 0) (j := 5) (by decide +kernel) rfl rfl rfl) ?_
            refine gm_c_virt (k := 226) (ci := 11) (mj := 307) (ix := 371) (pc := 202) (as := [gm_vi (r + (φ lane r (y0 + (k : Int)))), gm_vi (y0 + (k : Int)), gm_vi wo]) (st := []) (d' := d - 1) (bc' := 0) (bs' := 0) (by decide +kernel) (by decide +kernel) (by decide +kernel) (by decide +kernel) (e0k hE (k := 226) (c := 11) (by decide +kernel)).1 (e0k hE (k := 226) (c := 11) (by decide +kernel)).2 (by decide) (by decide +kernel) (show 3 = gm_na 307 by decide +kernel) (fw_c3 fw_si fw_si fw_si) (show 4 ≤ gm_ml 307 by decide +kernel) (Nat.le_of_ble_eq_true rfl) (by omega) (Nat.zero_le _) (Nat.zero_le _) ?_
            refine re_c307 (r0 := r + (φ lane r (y0 + (k : Int)))) (y := y0 + (k : Int)) (wo := wo) hE (tr_fr (W := [((226 : Nat), some (29 : Int)), ((226 : Nat), some (30 : Int)), ((226 : Nat), some (26 : Int)), ((226 : Nat), some (17 : Int)), ((226 : Nat), some (18 : Int)), ((226 : Nat), some (19 : Int)), ((226 : Nat), some (20 : Int)), ((226 : Nat), some (21 : Int)), ((226 : Nat), some (22 : Int)), ((226 : Nat), some (23 : Int)), ((235 : Nat), none), ((233 : Nat), none), ((236 : Nat), none), ((237 : Nat), none)]) hT (fr_t (fr_p (fr_p (fr_p (fr_t fr_0 hf (by decide)) (Or.inl (by decide))) (Or.inl (by decide))) (Or.inr (by decide))) hf194 (by decide)) (by decide)) hN hwo9 ⟨by omega, by omega⟩ ⟨by omega, by omega⟩ (fun M202 hf202 => ?_)
            show gm_Wp X LX d _ _ 306 205 _ [gm_vi (nfl N (y0 + (k : Int)) wo (N 5).toNat (r + (φ lane r (y0 + (k : Int)))))] n K _ _ Q
            refine gm_sz (gm_p_stor (pc := 205) (i := .istore 6) (sr := 0) (j := 6) (by decide +kernel) rfl (show 7 ≤ _ from Nat.le_of_ble_eq_true rfl) rfl) ?_
            refine gm_sz (gm_p_iinc (pc := 207) (j := 8) (z := 1) (by decide +kernel) rfl) ?_
            refine gm_sz (gm_p_goto (pc := 210) (off := (-160)) (by decide +kernel) (by decide)) ?_
            have r9 : rr1 N h φ lane rk wo y0 r0 (k + 1) o _ := rr1_s (M2 := M202) y91 hr (fun j hj => ((fr_c hf202 (by decide)).trans ((fr_c hf194 (by decide)).trans ((uM_ne (by omega)).trans ((uM_ne (by omega)).trans ((uM_ne (fun hh => hj hh.2)).trans rfl)))))) (fun j hj => ((fr_c hf202 (by decide)).trans ((fr_c hf194 (by decide)).trans ((uM_ne (by omega)).trans ((uM_ne (fun hh => hj hh.2)).trans ((uM_ne (by omega)).trans rfl)))))) (((fr_c hf202 (by decide)).trans ((fr_c hf194 (by decide)).trans ((uM_ne (by omega)).trans ((uM_ne (by omega)).trans uM_at)))).trans (by rw [hr1])) (((fr_c hf202 (by decide)).trans ((fr_c hf194 (by decide)).trans ((uM_ne (by omega)).trans uM_at))).trans hd1) (Or.inr (Or.inl ⟨by omega, by omega, rfl⟩))
            rw [show y0 + (k : Int) + 1 = y0 + ((k + 1 : Nat) : Int) by omega]
            refine ih (k + 1) _ _ _ _ (by omega) (fr_t (fr_t (fr_p (fr_p (fr_p (fr_t fr_0 hf (by decide)) (Or.inl (by decide))) (Or.inl (by decide))) (Or.inr (by decide))) hf194 (by decide)) hf202 (by decide)) (hfw.2.1 [((226 : Nat), some (30 : Int))] _ _ (by decide) (fr_t fr_0 hf202 (by decide)) hI194) ((fr_j hf202 (by decide)).trans ((fr_j hf194 (by decide)).trans uM_at)) r9 ?_
            intro hlt
            have e9 : nst N h φ lane rk wo (y0 + (k : Int)) (r, dp) = (nfl N (y0 + (k : Int)) wo (N 5).toNat (r + φ lane r (y0 + (k : Int))), ndp N h rk (y0 + (k : Int)) (r, dp)) := if_neg (by omega)
            have e8 : nwy N h φ lane rk wo y0 r0 (k + 1) = nst N h φ lane rk wo (y0 + (k : Int)) (r, dp) := by show nst N h φ lane rk wo (y0 + (k : Int)) (nwy N h φ lane rk wo y0 r0 k) = _; rw [hr1, hd1]
            rw [e8, e9]
            refine ⟨rfl, ?_⟩
            show _ = ndp N h rk (y0 + (k : Int)) (r, dp)
            unfold ndp
            dsimp only
            repeat (first | rw [if_pos (by omega)] | rw [if_neg (by omega)])
        · have h124 : (y0 + (k : Int)) = 299 := Classical.not_not.mp h124
          refine gm_sz (gm_p_goto (pc := 127) (off := 80) (by decide +kernel) (by decide)) ?_
          refine gm_sz (gm_p_iinc (pc := 207) (j := 8) (z := 1) (by decide +kernel) rfl) ?_
          refine gm_sz (gm_p_goto (pc := 210) (off := (-160)) (by decide +kernel) (by decide)) ?_
          have r9 : rr1 N h φ lane rk wo y0 r0 (k + 1) o _ := rr1_s (M2 := gm_uM (gm_uM (gm_uM M1 236 (y0 + (k : Int)) (min r (N 1))) 237 (y0 + (k : Int)) dp) 226 29 o) y91 hr (fun j hj => ((uM_ne (by omega)).trans ((uM_ne (by omega)).trans ((uM_ne (fun hh => hj hh.2)).trans rfl)))) (fun j hj => ((uM_ne (by omega)).trans ((uM_ne (fun hh => hj hh.2)).trans ((uM_ne (by omega)).trans rfl)))) (((uM_ne (by omega)).trans ((uM_ne (by omega)).trans uM_at)).trans (by rw [hr1])) (((uM_ne (by omega)).trans uM_at).trans hd1) (Or.inr (Or.inl ⟨by omega, by omega, rfl⟩))
          rw [show y0 + (k : Int) + 1 = y0 + ((k + 1 : Nat) : Int) by omega]
          refine ih (k + 1) _ _ _ _ (by omega) (fr_p (fr_p (fr_p (fr_t fr_0 hf (by decide)) (Or.inl (by decide))) (Or.inl (by decide))) (Or.inr (by decide))) (hfw.2.1 [((236 : Nat), none), ((237 : Nat), none), ((226 : Nat), some (29 : Int))] _ _ (by decide) (fr_p (fr_p (fr_p fr_0 (Or.inl (by decide))) (Or.inl (by decide))) (Or.inr (by decide))) hI1) uM_at r9 ?_
          intro hlt
          omega
      · have h97 : ¬ r < (N 1) := h97
        refine gm_sz (gm_p_load (pc := 100) (i := .iload 8) (sr := 0) (j := 8) (by decide +kernel) rfl rfl rfl) ?_
        refine gm_sz (gm_p_goto (pc := 102) (off := 7) (by decide +kernel) (by decide)) ?_
        refine gm_sz (fw_pi (pc := 109) (ix := 368) (ci := 11) (j := 29) (M' := gm_uM (gm_uM (gm_uM M1 236 (y0 + (k : Int)) (min r (N 1))) 237 (y0 + (k : Int)) dp) 226 29 (y0 + (k : Int))) (by decide +kernel) (e0k hE (k := 226) (c := 11) (by decide +kernel)) (by decide +kernel) (by decide +kernel) (by decide +kernel) rfl) ?_
        refine gm_sz (gm_p_load (pc := 112) (i := .aload_n 0) (sr := 2) (j := 0) (by decide +kernel) rfl rfl rfl) ?_
        refine gm_sz (fw_gi (pc := 113) (ix := 368) (ci := 11) (j := 29) (x := y0 + (k : Int)) (by decide +kernel) (e0k hE (k := 226) (c := 11) (by decide +kernel)) (by decide +kernel) (by decide +kernel) uM_at) ?_
        refine fw_ift (cc := .ge) (pc := 116) (off := 91) (by decide +kernel) (by decide) ⟨by omega, by omega⟩ (show 0 ≤ (y0 + (k : Int)) by omega) ?_
        refine gm_sz (gm_p_iinc (pc := 207) (j := 8) (z := 1) (by decide +kernel) rfl) ?_
        refine gm_sz (gm_p_goto (pc := 210) (off := (-160)) (by decide +kernel) (by decide)) ?_
        have r9 : rr1 N h φ lane rk wo y0 r0 (k + 1) (y0 + (k : Int)) _ := rr1_s (M2 := gm_uM (gm_uM (gm_uM M1 236 (y0 + (k : Int)) (min r (N 1))) 237 (y0 + (k : Int)) dp) 226 29 (y0 + (k : Int))) y91 hr (fun j hj => ((uM_ne (by omega)).trans ((uM_ne (by omega)).trans ((uM_ne (fun hh => hj hh.2)).trans rfl)))) (fun j hj => ((uM_ne (by omega)).trans ((uM_ne (fun hh => hj hh.2)).trans ((uM_ne (by omega)).trans rfl)))) (((uM_ne (by omega)).trans ((uM_ne (by omega)).trans uM_at)).trans (by rw [hr1])) (((uM_ne (by omega)).trans uM_at).trans hd1) (Or.inl ⟨by omega, by omega, rfl⟩)
        rw [show y0 + (k : Int) + 1 = y0 + ((k + 1 : Nat) : Int) by omega]
        refine ih (k + 1) _ _ _ _ (by omega) (fr_p (fr_p (fr_p (fr_t fr_0 hf (by decide)) (Or.inl (by decide))) (Or.inl (by decide))) (Or.inr (by decide))) (hfw.2.1 [((236 : Nat), none), ((237 : Nat), none), ((226 : Nat), some (29 : Int))] _ _ (by decide) (fr_p (fr_p (fr_p fr_0 (Or.inl (by decide))) (Or.inl (by decide))) (Or.inr (by decide))) hI1) uM_at r9 ?_
        intro hlt
        have e9 : nst N h φ lane rk wo (y0 + (k : Int)) (r, dp) = (r, dp) := if_pos (by omega)
        have e8 : nwy N h φ lane rk wo y0 r0 (k + 1) = nst N h φ lane rk wo (y0 + (k : Int)) (r, dp) := by show nst N h φ lane rk wo (y0 + (k : Int)) (nwy N h φ lane rk wo y0 r0 k) = _; rw [hr1, hd1]
        rw [e8, e9]
        exact ⟨rfl, rfl⟩
theorem re_r0 (hd : 14 ≤ d) (hE : E0 n K R) (hT : TR N h M) (hN : NR N) (hfw : FLR X LX n K R N h FI φ) (k2 : 0 ≤ lane ∧ lane < N 0) (k3 : 0 ≤ rk ∧ rk ≤ 1) (hwo9 : gm_ir wo) (k5 : 0 ≤ r0 ∧ r0 ≤ 300) (y9 : 0 ≤ y0 ∧ y0 < 300) (hI : FI M) (hq : ∀ M2, fr [((226 : Nat), some (29 : Int)), ((226 : Nat), some (30 : Int)), ((226 : Nat), some (26 : Int)), ((226 : Nat), some (17 : Int)), ((226 : Nat), some (18 : Int)), ((226 : Nat), some (19 : Int)), ((226 : Nat), some (20 : Int)), ((226 : Nat), some (21 : Int)), ((226 : Nat), some (22 : Int)), ((226 : Nat), some (23 : Int)), ((235 : Nat), none), ((233 : Nat), none), ((236 : Nat), none), ((237 : Nat), none)] M M2 → FI M2 → rrun N h φ lane rk wo y0 r0 M2 → Q (.inl none) n K R M2) : ∀ (u : Nat) (i : Int) (z7 z8 : Option gm_V) (M1 : gm_M), i + (u : Int) = y0 → 0 ≤ i → fr [((236 : Nat), none), ((237 : Nat), none)] M M1 → (∀ y, 0 ≤ y → y < i → M1 236 y = -1 ∧ M1 237 y = -1) → gm_Wp X LX d bc bs 306 3 [some (gm_vr 226), some (gm_vi lane), some (gm_vi r0), some (gm_vi y0), some (gm_vi rk), some (gm_vi wo), some (gm_vi i), z7, z8] [] n K R M1 Q := by
  obtain ⟨y91, y92⟩ := y9
  intro u
  induction u with
  | zero =>
    intro i z7 z8 M1 hi hi0 hf hz
    have ei : i = y0 := by omega
    subst ei
    refine gm_sz (gm_p_load (pc := 3) (i := .iload 6) (sr := 0) (j := 6) (by decide +kernel) rfl rfl rfl) ?_
    refine gm_sz (gm_p_load (pc := 5) (i := .iload_n 3) (sr := 0) (j := 3) (by decide +kernel) rfl rfl rfl) ?_
    refine fw_ict (cc := .ge) (pc := 6) (off := 25) (by decide +kernel) (by decide) ⟨by omega, by omega⟩ ⟨by omega, by omega⟩ (show i ≤ i by omega) ?_
    refine gm_sz (gm_p_load (pc := 31) (i := .iload_n 2) (sr := 0) (j := 2) (by decide +kernel) rfl rfl rfl) ?_
    refine gm_sz (gm_p_stor (pc := 32) (i := .istore 6) (sr := 0) (j := 6) (by decide +kernel) rfl (show 7 ≤ _ from Nat.le_of_ble_eq_true rfl) rfl) ?_
    refine gm_sz (gm_p_const (pc := 34) (i := .iconst 0) (v := gm_vi 0) (by decide +kernel) (by decide +kernel)) ?_
    refine gm_sz (gm_p_stor (pc := 35) (i := .istore 7) (sr := 0) (j := 7) (by decide +kernel) rfl (show 8 ≤ _ from Nat.le_of_ble_eq_true rfl) rfl) ?_
    refine gm_sz (gm_p_load (pc := 37) (i := .aload_n 0) (sr := 2) (j := 0) (by decide +kernel) rfl rfl rfl) ?_
    refine gm_sz (gm_p_const (pc := 38) (i := .iconst (-1)) (v := gm_vi (-1)) (by decide +kernel) (by decide +kernel)) ?_
    refine gm_sz (fw_pi (pc := 39) (ix := 368) (ci := 11) (j := 29) (M' := gm_uM M1 226 29 (-1)) (by decide +kernel) (e0k hE (k := 226) (c := 11) (by decide +kernel)) (by decide +kernel) (by decide +kernel) (by decide +kernel) rfl) ?_
    refine gm_sz (gm_p_load (pc := 42) (i := .aload_n 0) (sr := 2) (j := 0) (by decide +kernel) rfl rfl rfl) ?_
    refine gm_sz (gm_p_const (pc := 43) (i := .iconst 0) (v := gm_vi 0) (by decide +kernel) (by decide +kernel)) ?_
    refine gm_sz (fw_pi (pc := 44) (ix := 365) (ci := 11) (j := 30) (M' := gm_uM (gm_uM M1 226 29 (-1)) 226 30 0) (by decide +kernel) (e0k hE (k := 226) (c := 11) (by decide +kernel)) (by decide +kernel) (by decide +kernel) (by decide +kernel) rfl) ?_
    refine gm_sz (gm_p_load (pc := 47) (i := .iload_n 3) (sr := 0) (j := 3) (by decide +kernel) rfl rfl rfl) ?_
    refine gm_sz (gm_p_stor (pc := 48) (i := .istore 8) (sr := 0) (j := 8) (by decide +kernel) rfl (show 9 ≤ _ from Nat.le_of_ble_eq_true rfl) rfl) ?_
    have z9 : ∀ y, 0 ≤ y → y < i → (gm_uM (gm_uM M1 226 29 (-1)) 226 30 0) 236 y = -1 ∧ (gm_uM (gm_uM M1 226 29 (-1)) 226 30 0) 237 y = -1 := fun y y1 y2 => ⟨((uM_ne (by omega)).trans ((uM_ne (by omega)).trans rfl)).trans (hz y y1 y2).1, ((uM_ne (by omega)).trans ((uM_ne (by omega)).trans rfl)).trans (hz y y1 y2).2⟩
    have q := re_rn (X := X) (LX := LX) (d := d) (bc := bc) (bs := bs) hd hE hT hN hfw k2 k3 hwo9 k5 ⟨y91, y92⟩ hq (300 - i).toNat 0 r0 0 (-1) (gm_uM (gm_uM M1 226 29 (-1)) 226 30 0) (by omega) (fr_p (fr_p (fr_t fr_0 hf (by decide)) (Or.inr (by decide))) (Or.inr (by decide))) (hfw.2.1 [((236 : Nat), none), ((237 : Nat), none), ((226 : Nat), some (29 : Int)), ((226 : Nat), some (30 : Int))] _ _ (by decide) (fr_p (fr_p (fr_t fr_0 hf (by decide)) (Or.inr (by decide))) (Or.inr (by decide))) hI) ((uM_ne (by omega)).trans uM_at) ⟨z9, (fun i hi => absurd hi (Nat.not_lt_zero _)), Or.inl ⟨rfl, fun i hi => absurd hi (Nat.not_lt_zero _)⟩⟩ (fun _ => ⟨rfl, rfl⟩)
    rw [show i + ((0 : Nat) : Int) = i by omega] at q
    exact q
  | succ u ih =>
    intro i z7 z8 M1 hi hi0 hf hz
    refine gm_sz (gm_p_load (pc := 3) (i := .iload 6) (sr := 0) (j := 6) (by decide +kernel) rfl rfl rfl) ?_
    refine gm_sz (gm_p_load (pc := 5) (i := .iload_n 3) (sr := 0) (j := 3) (by decide +kernel) rfl rfl rfl) ?_
    refine fw_icf (cc := .ge) (pc := 6) (off := 25) (by decide +kernel) (by decide) ⟨by omega, by omega⟩ ⟨by omega, by omega⟩ (show ¬ y0 ≤ i by omega) ?_
    refine gm_sz (gm_p_load (pc := 9) (i := .aload_n 0) (sr := 2) (j := 0) (by decide +kernel) rfl rfl rfl) ?_
    refine gm_sz (fw_gr (pc := 10) (ix := 45) (ci := 11) (j := 27) (r := 236) (by decide +kernel) (e0k hE (k := 226) (c := 11) (by decide +kernel)) (by decide +kernel) (by decide +kernel) (e0r hE (k := 226) (j := 27) (r := 236) (by decide +kernel))) ?_
    refine gm_sz (gm_p_load (pc := 13) (i := .iload 6) (sr := 0) (j := 6) (by decide +kernel) rfl rfl rfl) ?_
    refine gm_sz (gm_p_const (pc := 15) (i := .iconst (-1)) (v := gm_vi (-1)) (by decide +kernel) (by decide +kernel)) ?_
    refine gm_sz (fw_is (pc := 16) (k := 236) (len := 300) (e0 := i) (x := (-1)) (M' := gm_uM M1 236 i (-1)) (by decide +kernel) (e0a hE (k := 236) (q := ((0 : Nat), (300 : Nat))) (by decide +kernel)).1 (e0a hE (k := 236) (q := ((0 : Nat), (300 : Nat))) (by decide +kernel)).2 (by decide) ⟨by omega, by omega⟩ rfl) ?_
    refine gm_sz (gm_p_load (pc := 17) (i := .aload_n 0) (sr := 2) (j := 0) (by decide +kernel) rfl rfl rfl) ?_
    refine gm_sz (fw_gr (pc := 18) (ix := 48) (ci := 11) (j := 28) (r := 237) (by decide +kernel) (e0k hE (k := 226) (c := 11) (by decide +kernel)) (by decide +kernel) (by decide +kernel) (e0r hE (k := 226) (j := 28) (r := 237) (by decide +kernel))) ?_
    refine gm_sz (gm_p_load (pc := 21) (i := .iload 6) (sr := 0) (j := 6) (by decide +kernel) rfl rfl rfl) ?_
    refine gm_sz (gm_p_const (pc := 23) (i := .iconst (-1)) (v := gm_vi (-1)) (by decide +kernel) (by decide +kernel)) ?_
    refine gm_sz (fw_is (pc := 24) (k := 237) (len := 300) (e0 := i) (x := (-1)) (M' := gm_uM (gm_uM M1 236 i (-1)) 237 i (-1)) (by decide +kernel) (e0a hE (k := 237) (q := ((0 : Nat), (300 : Nat))) (by decide +kernel)).1 (e0a hE (k := 237) (q := ((0 : Nat), (300 : Nat))) (by decide +kernel)).2 (by decide) ⟨by omega, by omega⟩ rfl) ?_
    refine gm_sz (gm_p_iinc (pc := 25) (j := 6) (z := 1) (by decide +kernel) rfl) ?_
    refine gm_sz (gm_p_goto (pc := 28) (off := (-25)) (by decide +kernel) (by decide)) ?_
    refine ih (i + 1) _ _ _ (by omega) (by omega) (fr_p (fr_p (fr_t fr_0 hf (by decide)) (Or.inl (by decide))) (Or.inl (by decide))) (fun y y1 y2 => ?_)
    by_cases e : y = i
    · subst e
      exact ⟨((uM_ne (by omega)).trans uM_at), uM_at⟩
    · exact ⟨((uM_ne (by omega)).trans ((uM_ne (fun hh => e hh.2)).trans rfl)).trans (hz y y1 (by omega)).1, ((uM_ne (fun hh => e hh.2)).trans ((uM_ne (by omega)).trans rfl)).trans (hz y y1 (by omega)).2⟩
theorem re_c306 (hd : 14 ≤ d) (hE : E0 n K R) (hT : TR N h M) (hN : NR N) (hfw : FLR X LX n K R N h FI φ) (k2 : 0 ≤ lane ∧ lane < N 0) (k3 : 0 ≤ rk ∧ rk ≤ 1) (hwo9 : gm_ir wo) (k5 : 0 ≤ r0 ∧ r0 ≤ 300) (y9 : 0 ≤ y0 ∧ y0 < 300) (hI : FI M) (hq : ∀ M2, fr [((226 : Nat), some (29 : Int)), ((226 : Nat), some (30 : Int)), ((226 : Nat), some (26 : Int)), ((226 : Nat), some (17 : Int)), ((226 : Nat), some (18 : Int)), ((226 : Nat), some (19 : Int)), ((226 : Nat), some (20 : Int)), ((226 : Nat), some (21 : Int)), ((226 : Nat), some (22 : Int)), ((226 : Nat), some (23 : Int)), ((235 : Nat), none), ((233 : Nat), none), ((236 : Nat), none), ((237 : Nat), none)] M M2 → FI M2 → rrun N h φ lane rk wo y0 r0 M2 → Q (.inl none) n K R M2) : gm_Wp X LX d bc bs 306 0 (gm_ent 306 [gm_vr 226, gm_vi lane, gm_vi r0, gm_vi y0, gm_vi rk, gm_vi wo]) [] n K R M Q := by
  refine gm_sz (gm_p_const (pc := 0) (i := .iconst 0) (v := gm_vi 0) (by decide +kernel) (by decide +kernel)) ?_
  refine gm_sz (gm_p_stor (pc := 1) (i := .istore 6) (sr := 0) (j := 6) (by decide +kernel) rfl (show 7 ≤ _ from Nat.le_of_ble_eq_true rfl) rfl) ?_
  exact re_r0 hd hE hT hN hfw k2 k3 hwo9 k5 y9 hI hq y0.toNat 0 _ _ M (by have := y9.1; omega) (Int.le_refl _) fr_0 (fun y y1 y2 => by omega)
theorem re_c305 (hd : 16 ≤ d) (hE : E0 n K R) (hT : TR N h M) (hN : NR N) (hfw : FLR X LX n K R N h FI φ) (hI : FI M) (h1 : 0 ≤ l ∧ l < N 4) (hwo9 : gm_ir wo) (hq : ∀ M2, fr [((226 : Nat), some (29 : Int)), ((226 : Nat), some (30 : Int)), ((226 : Nat), some (26 : Int)), ((226 : Nat), some (17 : Int)), ((226 : Nat), some (18 : Int)), ((226 : Nat), some (19 : Int)), ((226 : Nat), some (20 : Int)), ((226 : Nat), some (21 : Int)), ((226 : Nat), some (22 : Int)), ((226 : Nat), some (23 : Int)), ((235 : Nat), none), ((233 : Nat), none), ((236 : Nat), none), ((237 : Nat), none)] M M2 → FI M2 → rrun N h φ ((N (119 + (l * 7 + 2)))) (if (N (119 + (l * 7 + 0))) = -1 then 1 else 0) wo ((N (119 + (l * 7 + 3)))) ((N (119 + (l * 7 + 4)))) M2 → Q (.inl none) n K R M2) : gm_Wp X LX d bc bs 305 0 (gm_ent 305 [gm_vr 226, gm_vi l, gm_vi wo]) [] n K R M Q := by
  obtain ⟨⟨⟨a0, b0⟩, ⟨a1, b1⟩, ⟨a10, b10⟩, ⟨a11, b11⟩, ⟨a12, b12⟩, a9, b9⟩, ⟨⟨a2, b2⟩, ⟨a5, b5⟩, ⟨a3, b3⟩, ⟨a4, b4⟩, ⟨a6, b6⟩, ⟨a14, b14⟩, ⟨a7, b7⟩, a13, b13⟩, rF, rP, rL⟩ := id hN
  obtain ⟨-, -, ⟨l1, l2⟩, ⟨l3, l4⟩, ⟨l5, l6⟩, -⟩ := rL l h1.1 h1.2
  have rk9 : 0 ≤ (if (N (119 + (l * 7 + 0))) = -1 then (1 : Int) else 0) ∧ (if (N (119 + (l * 7 + 0))) = -1 then (1 : Int) else 0) ≤ 1 := by split <;> exact ⟨by decide, by decide⟩
  refine gm_sz (gm_p_load (pc := 0) (i := .aload_n 0) (sr := 2) (j := 0) (by decide +kernel) rfl rfl rfl) ?_
  refine gm_sz (gm_p_load (pc := 1) (i := .aload_n 0) (sr := 2) (j := 0) (by decide +kernel) rfl rfl rfl) ?_
  refine gm_sz (gm_p_load (pc := 2) (i := .iload_n 1) (sr := 0) (j := 1) (by decide +kernel) rfl rfl rfl) ?_
  refine gm_sz (gm_p_const (pc := 3) (i := .iconst 2) (v := gm_vi 2) (by decide +kernel) (by decide +kernel)) ?_
  refine gm_c_virt (k := 226) (ci := 11) (mj := 301) (ix := 82) (pc := 4) (as := [gm_vi l, gm_vi 2]) (st := [gm_vr 226]) (d' := d - 1) (bc' := 0) (bs' := 0) (by decide +kernel) (by decide +kernel) (by decide +kernel) (by decide +kernel) (e0k hE (k := 226) (c := 11) (by decide +kernel)).1 (e0k hE (k := 226) (c := 11) (by decide +kernel)).2 (by decide) (by decide +kernel) (show 2 = gm_na 301 by decide +kernel) (fw_c2 fw_si fw_si) (show 3 ≤ gm_ml 301 by decide +kernel) (Nat.le_of_ble_eq_true rfl) (by omega) (Nat.zero_le _) (Nat.zero_le _) ?_
  refine re_ol hE hT hN ⟨by omega, by omega⟩ ⟨by omega, by omega⟩ ?_
  show gm_Wp X LX d _ _ 305 7 _ [gm_vi (N (119 + (l * 7 + 2))), gm_vr 226] n K _ _ Q
  refine gm_sz (gm_p_load (pc := 7) (i := .aload_n 0) (sr := 2) (j := 0) (by decide +kernel) rfl rfl rfl) ?_
  refine gm_sz (gm_p_load (pc := 8) (i := .iload_n 1) (sr := 0) (j := 1) (by decide +kernel) rfl rfl rfl) ?_
  refine gm_sz (gm_p_const (pc := 9) (i := .iconst 4) (v := gm_vi 4) (by decide +kernel) (by decide +kernel)) ?_
  refine gm_c_virt (k := 226) (ci := 11) (mj := 301) (ix := 82) (pc := 10) (as := [gm_vi l, gm_vi 4]) (st := [gm_vi (N (119 + (l * 7 + 2))), gm_vr 226]) (d' := d - 1) (bc' := 0) (bs' := 0) (by decide +kernel) (by decide +kernel) (by decide +kernel) (by decide +kernel) (e0k hE (k := 226) (c := 11) (by decide +kernel)).1 (e0k hE (k := 226) (c := 11) (by decide +kernel)).2 (by decide) (by decide +kernel) (show 2 = gm_na 301 by decide +kernel) (fw_c2 fw_si fw_si) (show 3 ≤ gm_ml 301 by decide +kernel) (Nat.le_of_ble_eq_true rfl) (by omega) (Nat.zero_le _) (Nat.zero_le _) ?_
  refine re_ol hE hT hN ⟨by omega, by omega⟩ ⟨by omega, by omega⟩ ?_
  show gm_Wp X LX d _ _ 305 13 _ [gm_vi (N (119 + (l * 7 + 4))), gm_vi (N (119 + (l * 7 + 2))), gm_vr 226] n K _ _ Q
  refine gm_sz (gm_p_load (pc := 13) (i := .aload_n 0) (sr := 2) (j := 0) (by decide +kernel) rfl rfl rfl) ?_
  refine gm_sz (gm_p_load (pc := 14) (i := .iload_n 1) (sr := 0) (j := 1) (by decide +kernel) rfl rfl rfl) ?_
  refine gm_sz (gm_p_const (pc := 15) (i := .iconst 3) (v := gm_vi 3) (by decide +kernel) (by decide +kernel)) ?_
  refine gm_c_virt (k := 226) (ci := 11) (mj := 301) (ix := 82) (pc := 16) (as := [gm_vi l, gm_vi 3]) (st := [gm_vi (N (119 + (l * 7 + 4))), gm_vi (N (119 + (l * 7 + 2))), gm_vr 226]) (d' := d - 1) (bc' := 0) (bs' := 0) (by decide +kernel) (by decide +kernel) (by decide +kernel) (by decide +kernel) (e0k hE (k := 226) (c := 11) (by decide +kernel)).1 (e0k hE (k := 226) (c := 11) (by decide +kernel)).2 (by decide) (by decide +kernel) (show 2 = gm_na 301 by decide +kernel) (fw_c2 fw_si fw_si) (show 3 ≤ gm_ml 301 by decide +kernel) (Nat.le_of_ble_eq_true rfl) (by omega) (Nat.zero_le _) (Nat.zero_le _) ?_
  refine re_ol hE hT hN ⟨by omega, by omega⟩ ⟨by omega, by omega⟩ ?_
  show gm_Wp X LX d _ _ 305 19 _ [gm_vi (N (119 + (l * 7 + 3))), gm_vi (N (119 + (l * 7 + 4))), gm_vi (N (119 + (l * 7 + 2))), gm_vr 226] n K _ _ Q
  refine gm_sz (gm_p_load (pc := 19) (i := .aload_n 0) (sr := 2) (j := 0) (by decide +kernel) rfl rfl rfl) ?_
  refine gm_sz (gm_p_load (pc := 20) (i := .iload_n 1) (sr := 0) (j := 1) (by decide +kernel) rfl rfl rfl) ?_
  refine gm_c_virt (k := 226) (ci := 11) (mj := 303) (ix := 374) (pc := 21) (as := [gm_vi l]) (st := [gm_vi (N (119 + (l * 7 + 3))), gm_vi (N (119 + (l * 7 + 4))), gm_vi (N (119 + (l * 7 + 2))), gm_vr 226]) (d' := d - 1) (bc' := 0) (bs' := 0) (by decide +kernel) (by decide +kernel) (by decide +kernel) (by decide +kernel) (e0k hE (k := 226) (c := 11) (by decide +kernel)).1 (e0k hE (k := 226) (c := 11) (by decide +kernel)).2 (by decide) (by decide +kernel) (show 1 = gm_na 303 by decide +kernel) (fw_c1 fw_si) (show 2 ≤ gm_ml 303 by decide +kernel) (Nat.le_of_ble_eq_true rfl) (by omega) (Nat.zero_le _) (Nat.zero_le _) ?_
  refine re_rk (by omega) hE hT hN ⟨by omega, by omega⟩ ?_
  show gm_Wp X LX d _ _ 305 24 _ [gm_vi (if (N (119 + (l * 7 + 0))) = -1 then (1 : Int) else 0), gm_vi (N (119 + (l * 7 + 3))), gm_vi (N (119 + (l * 7 + 4))), gm_vi (N (119 + (l * 7 + 2))), gm_vr 226] n K _ _ Q
  refine gm_sz (gm_p_load (pc := 24) (i := .iload_n 2) (sr := 0) (j := 2) (by decide +kernel) rfl rfl rfl) ?_
  refine gm_c_virt (k := 226) (ci := 11) (mj := 306) (ix := 377) (pc := 25) (as := [gm_vi (N (119 + (l * 7 + 2))), gm_vi (N (119 + (l * 7 + 4))), gm_vi (N (119 + (l * 7 + 3))), gm_vi (if (N (119 + (l * 7 + 0))) = -1 then (1 : Int) else 0), gm_vi wo]) (st := []) (d' := d - 1) (bc' := 0) (bs' := 0) (by decide +kernel) (by decide +kernel) (by decide +kernel) (by decide +kernel) (e0k hE (k := 226) (c := 11) (by decide +kernel)).1 (e0k hE (k := 226) (c := 11) (by decide +kernel)).2 (by decide) (by decide +kernel) (show 5 = gm_na 306 by decide +kernel) (fw_c5 fw_si fw_si fw_si fw_si fw_si) (show 6 ≤ gm_ml 306 by decide +kernel) (Nat.le_of_ble_eq_true rfl) (by omega) (Nat.zero_le _) (Nat.zero_le _) ?_
  refine re_c306 (lane := N (119 + (l * 7 + 2))) (r0 := N (119 + (l * 7 + 4))) (y0 := N (119 + (l * 7 + 3))) (rk := (if (N (119 + (l * 7 + 0))) = -1 then (1 : Int) else 0)) (wo := wo) (by omega) hE hT hN hfw ⟨by omega, by omega⟩ rk9 hwo9 ⟨by omega, by omega⟩ ⟨by omega, by omega⟩ hI (fun M25 hf25 hI25 hr25 => ?_)
  show gm_Wp X LX d _ _ 305 28 _ [] n K _ _ Q
  have hr25 : rrun N h φ (N (119 + (l * 7 + 2))) (if (N (119 + (l * 7 + 0))) = -1 then (1 : Int) else 0) wo (N (119 + (l * 7 + 3))) (N (119 + (l * 7 + 4))) M25 := hr25
  exact gm_r_void (pc := 28) (by decide +kernel) (by decide +kernel) (hq _ (fr_t fr_0 hf25 (by decide)) hI25 hr25)
theorem re_c304 (hd : 17 ≤ d) (hE : E0 n K R) (hT : TR N h M) (hN : NR N) (hfw : FLR X LX n K R N h FI φ) (hI : FI M) (h1 : 0 ≤ l ∧ l < N 4) (hq : ∀ M2, fr [((226 : Nat), some (29 : Int)), ((226 : Nat), some (30 : Int)), ((226 : Nat), some (26 : Int)), ((226 : Nat), some (17 : Int)), ((226 : Nat), some (18 : Int)), ((226 : Nat), some (19 : Int)), ((226 : Nat), some (20 : Int)), ((226 : Nat), some (21 : Int)), ((226 : Nat), some (22 : Int)), ((226 : Nat), some (23 : Int)), ((235 : Nat), none), ((233 : Nat), none), ((236 : Nat), none), ((237 : Nat), none)] M M2 → FI M2 → rrun N h φ ((N (119 + (l * 7 + 2)))) (if (N (119 + (l * 7 + 0))) = -1 then 1 else 0) (-1) ((N (119 + (l * 7 + 3)))) ((N (119 + (l * 7 + 4)))) M2 → Q (.inl (some (gm_vi (M2 226 29)))) n K R M2) : gm_Wp X LX d bc bs 304 0 (gm_ent 304 [gm_vr 226, gm_vi l]) [] n K R M Q := by
  have b4 := hN.2.1.2.2.2.1
  refine gm_sz (gm_p_load (pc := 0) (i := .aload_n 0) (sr := 2) (j := 0) (by decide +kernel) rfl rfl rfl) ?_
  refine gm_sz (gm_p_load (pc := 1) (i := .iload_n 1) (sr := 0) (j := 1) (by decide +kernel) rfl rfl rfl) ?_
  refine gm_sz (gm_p_const (pc := 2) (i := .iconst (-1)) (v := gm_vi (-1)) (by decide +kernel) (by decide +kernel)) ?_
  refine gm_c_virt (k := 226) (ci := 11) (mj := 305) (ix := 381) (pc := 3) (as := [gm_vi l, gm_vi (-1)]) (st := []) (d' := d - 1) (bc' := 0) (bs' := 0) (by decide +kernel) (by decide +kernel) (by decide +kernel) (by decide +kernel) (e0k hE (k := 226) (c := 11) (by decide +kernel)).1 (e0k hE (k := 226) (c := 11) (by decide +kernel)).2 (by decide) (by decide +kernel) (show 2 = gm_na 305 by decide +kernel) (fw_c2 fw_si fw_si) (show 3 ≤ gm_ml 305 by decide +kernel) (Nat.le_of_ble_eq_true rfl) (by omega) (Nat.zero_le _) (Nat.zero_le _) ?_
  refine re_c305 (l := l) (wo := (-1)) (by omega) hE hT hN hfw hI ⟨by omega, by omega⟩ ⟨by decide, by decide⟩ (fun M3 hf3 hI3 hr3 => ?_)
  show gm_Wp X LX d _ _ 304 6 _ [] n K _ _ Q
  have hr3 : rrun N h φ ((N (119 + (l * 7 + 2)))) (if (N (119 + (l * 7 + 0))) = -1 then 1 else 0) (-1) ((N (119 + (l * 7 + 3)))) ((N (119 + (l * 7 + 4)))) M3 := hr3
  refine gm_sz (gm_p_load (pc := 6) (i := .aload_n 0) (sr := 2) (j := 0) (by decide +kernel) rfl rfl rfl) ?_
  refine gm_sz (fw_gi (pc := 7) (ix := 368) (ci := 11) (j := 29) (x := M3 226 29) (by decide +kernel) (e0k hE (k := 226) (c := 11) (by decide +kernel)) (by decide +kernel) (by decide +kernel) rfl) ?_
  exact gm_r_int (pc := 10) (by decide +kernel) (Or.inl (by decide +kernel)) (hq _ (fr_t fr_0 hf3 (by decide)) hI3 hr3)
end RW2
end
/-! 7a06.u0up -/
section
/-! A FUNCTION, ONE NUMBER OF IT OTHERWISE. -/
noncomputable def nup (V : Int → Int) (i v : Int) : Int → Int := fun j => if j = i then v else V j
theorem nup_s {M : gm_M} {V : Int → Int} {k : Nat} {i v : Int} (hV : M k = V) : gm_uM M k i v k = nup V i v := by
  subst hV
  funext j
  unfold gm_uM nup
  by_cases e : j = i
  · rw [if_pos ⟨rfl, e⟩, if_pos e]
  · rw [if_neg (fun hh => e hh.2), if_neg e]
theorem nup_at {V : Int → Int} {i v : Int} : nup V i v i = v := if_pos rfl
theorem nup_ne {V : Int → Int} {i j v : Int} (h : ¬ j = i) : nup V i v j = V j := if_neg h
end
