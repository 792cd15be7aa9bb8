/-! THE REFERENCE'S ACTS (laid by wip/core/r6.py). -/
section AC6
variable {X : Int → Int} {LX d bc bs n : Nat} {K : gm_K} {R : gm_R} {M : gm_M} {Q : gm_Q} {l p f t v w y c : Int} {N h : Int → Int} {FI : gm_M → Prop} {φ : Int → Int → Int → Int} {Ψ : (Int → Int) → Int → Int → Int → Int → Prop} {o dd : Int → Int} {A : List (Int → Int)}
theorem re_let9 (hE : E0 n K R) (hv : M 227 4 = v) (hq : Q (.inl (some (gm_vi v))) n K R M) : gm_Wp X LX d bc bs 254 0 (gm_ent 254 [gm_vr 226]) [] n K R M Q := by
  refine gm_sz (gm_p_load (pc := 0) (i := .aload_n 0) (sr := 2) (j := 0) (by decide +kernel) rfl rfl rfl) ?_
  refine gm_sz (fw_gr (pc := 1) (ix := 13) (ci := 11) (j := 1) (r := 227) (by decide +kernel) (e0k hE (k := 226) (c := 11) (by decide +kernel)) (by decide +kernel) (by decide +kernel) (e0r hE (k := 226) (j := 1) (r := 227) (by decide +kernel))) ?_
  refine gm_sz (gm_p_const (pc := 4) (i := .iconst 4) (v := gm_vi 4) (by decide +kernel) (by decide +kernel)) ?_
  refine gm_sz (fw_ia (pc := 5) (k := 227) (len := 2093) (e0 := 4) (x := v) (by decide +kernel) (e0a hE (k := 227) (q := (0, 2093)) (by decide +kernel)).1 (e0a hE (k := 227) (q := (0, 2093)) (by decide +kernel)).2 (by decide) ⟨by omega, by omega⟩ hv) ?_
  exact gm_r_int (pc := 6) (by decide +kernel) (Or.inl (by decide +kernel)) hq
theorem re_ti (hd : 2 ≤ d) (hE : E0 n K R) (hT : TR N h M) (hN : NR N) (h4 : 0 ≤ N 4 ∧ N 4 < 24) (hq : ∀ M2, fr [(227, none)] M M2 → ws (M2 227) = nthr N f t l y → (∀ j, 395 ≤ j → M2 227 j = M 227 j) → M2 227 8 = M 227 8 → Q (.inl none) n K R M2) : gm_Wp X LX d bc bs 271 0 (gm_ent 271 [gm_vr 226, gm_vi f, gm_vi t, gm_vi l, gm_vi y]) [] n K R M Q := by
  obtain ⟨⟨⟨a0, b0⟩, ⟨a1, b1⟩, ⟨a10, b10⟩, ⟨a11, b11⟩, ⟨a12, b12⟩, a9, b9⟩, ⟨⟨a2, b2⟩, ⟨a5, b5⟩, ⟨a3, b3⟩, ⟨a4, b4⟩, ⟨a6, b6⟩, ⟨a14, b14⟩, ⟨a7, b7⟩, a13, b13⟩, rF, rP, rL⟩ := id hN
  refine gm_sz (gm_p_load (pc := 0) (i := .aload_n 0) (sr := 2) (j := 0) (by decide +kernel) rfl rfl rfl) ?_
  refine gm_c_virt (k := 226) (ci := 11) (mj := 254) (ix := 100) (pc := 1) (as := []) (st := []) (d' := d - 1) (bc' := 0) (bs' := 0) (by decide +kernel) (by decide +kernel) (by decide +kernel) (by decide +kernel) (e0k hE (k := 226) (c := 11) (by decide +kernel)).1 (e0k hE (k := 226) (c := 11) (by decide +kernel)).2 (by decide) (by decide +kernel) (show 0 = gm_na 254 by decide +kernel) fw_c0 (show 1 ≤ gm_ml 254 by decide +kernel) (Nat.le_of_ble_eq_true rfl) (by omega) (Nat.zero_le _) (Nat.zero_le _) ?_
  refine re_let9 hE (tr_w hT (by decide) (by decide) (by decide)) ?_
  show gm_Wp X LX d _ _ 271 4 _ [gm_vi (N 4)] n K _ _ Q
  refine gm_sz (gm_p_stor (pc := 4) (i := .istore 5) (sr := 0) (j := 5) (by decide +kernel) rfl (show 6 ≤ _ from Nat.le_of_ble_eq_true rfl) rfl) ?_
  refine gm_sz (gm_p_load (pc := 6) (i := .aload_n 0) (sr := 2) (j := 0) (by decide +kernel) rfl rfl rfl) ?_
  refine gm_sz (gm_p_load (pc := 7) (i := .iload 5) (sr := 0) (j := 5) (by decide +kernel) rfl rfl rfl) ?_
  refine gm_sz (gm_p_const (pc := 9) (i := .iconst 0) (v := gm_vi 0) (by decide +kernel) (by decide +kernel)) ?_
  refine gm_sz (gm_p_load (pc := 10) (i := .iload_n 1) (sr := 0) (j := 1) (by decide +kernel) rfl rfl rfl) ?_
  refine gm_c_virt (k := 226) (ci := 11) (mj := 272) (ix := 173) (pc := 11) (as := [gm_vi (N 4), gm_vi 0, gm_vi f]) (st := []) (d' := d - 1) (bc' := 0) (bs' := 0) (by decide +kernel) (by decide +kernel) (by decide +kernel) (by decide +kernel) (e0k hE (k := 226) (c := 11) (by decide +kernel)).1 (e0k hE (k := 226) (c := 11) (by decide +kernel)).2 (by decide) (by decide +kernel) (show 3 = gm_na 272 by decide +kernel) (fw_c3 fw_si fw_si fw_si) (show 4 ≤ gm_ml 272 by decide +kernel) (Nat.le_of_ble_eq_true rfl) (by omega) (Nat.zero_le _) (Nat.zero_le _) ?_
  refine re_sl272 hE ⟨by omega, by omega⟩ ⟨by omega, by omega⟩ ?_
  show gm_Wp X LX d _ _ 271 14 _ [] n K _ _ Q
  refine gm_sz (gm_p_load (pc := 14) (i := .aload_n 0) (sr := 2) (j := 0) (by decide +kernel) rfl rfl rfl) ?_
  refine gm_sz (gm_p_load (pc := 15) (i := .iload 5) (sr := 0) (j := 5) (by decide +kernel) rfl rfl rfl) ?_
  refine gm_sz (gm_p_const (pc := 17) (i := .iconst 1) (v := gm_vi 1) (by decide +kernel) (by decide +kernel)) ?_
  refine gm_sz (gm_p_load (pc := 18) (i := .iload_n 2) (sr := 0) (j := 2) (by decide +kernel) rfl rfl rfl) ?_
  refine gm_c_virt (k := 226) (ci := 11) (mj := 272) (ix := 173) (pc := 19) (as := [gm_vi (N 4), gm_vi 1, gm_vi t]) (st := []) (d' := d - 1) (bc' := 0) (bs' := 0) (by decide +kernel) (by decide +kernel) (by decide +kernel) (by decide +kernel) (e0k hE (k := 226) (c := 11) (by decide +kernel)).1 (e0k hE (k := 226) (c := 11) (by decide +kernel)).2 (by decide) (by decide +kernel) (show 3 = gm_na 272 by decide +kernel) (fw_c3 fw_si fw_si fw_si) (show 4 ≤ gm_ml 272 by decide +kernel) (Nat.le_of_ble_eq_true rfl) (by omega) (Nat.zero_le _) (Nat.zero_le _) ?_
  refine re_sl272 hE ⟨by omega, by omega⟩ ⟨by omega, by omega⟩ ?_
  show gm_Wp X LX d _ _ 271 22 _ [] n K _ _ Q
  refine gm_sz (gm_p_load (pc := 22) (i := .aload_n 0) (sr := 2) (j := 0) (by decide +kernel) rfl rfl rfl) ?_
  refine gm_sz (gm_p_load (pc := 23) (i := .iload 5) (sr := 0) (j := 5) (by decide +kernel) rfl rfl rfl) ?_
  refine gm_sz (gm_p_const (pc := 25) (i := .iconst 2) (v := gm_vi 2) (by decide +kernel) (by decide +kernel)) ?_
  refine gm_sz (gm_p_load (pc := 26) (i := .iload_n 3) (sr := 0) (j := 3) (by decide +kernel) rfl rfl rfl) ?_
  refine gm_c_virt (k := 226) (ci := 11) (mj := 272) (ix := 173) (pc := 27) (as := [gm_vi (N 4), gm_vi 2, gm_vi l]) (st := []) (d' := d - 1) (bc' := 0) (bs' := 0) (by decide +kernel) (by decide +kernel) (by decide +kernel) (by decide +kernel) (e0k hE (k := 226) (c := 11) (by decide +kernel)).1 (e0k hE (k := 226) (c := 11) (by decide +kernel)).2 (by decide) (by decide +kernel) (show 3 = gm_na 272 by decide +kernel) (fw_c3 fw_si fw_si fw_si) (show 4 ≤ gm_ml 272 by decide +kernel) (Nat.le_of_ble_eq_true rfl) (by omega) (Nat.zero_le _) (Nat.zero_le _) ?_
  refine re_sl272 hE ⟨by omega, by omega⟩ ⟨by omega, by omega⟩ ?_
  show gm_Wp X LX d _ _ 271 30 _ [] n K _ _ Q
  refine gm_sz (gm_p_load (pc := 30) (i := .aload_n 0) (sr := 2) (j := 0) (by decide +kernel) rfl rfl rfl) ?_
  refine gm_sz (gm_p_load (pc := 31) (i := .iload 5) (sr := 0) (j := 5) (by decide +kernel) rfl rfl rfl) ?_
  refine gm_sz (gm_p_const (pc := 33) (i := .iconst 3) (v := gm_vi 3) (by decide +kernel) (by decide +kernel)) ?_
  refine gm_sz (gm_p_load (pc := 34) (i := .aload_n 0) (sr := 2) (j := 0) (by decide +kernel) rfl rfl rfl) ?_
  refine gm_c_virt (k := 226) (ci := 11) (mj := 266) (ix := 162) (pc := 35) (as := []) (st := [gm_vi 3, gm_vi (N 4), gm_vr 226]) (d' := d - 1) (bc' := 0) (bs' := 0) (by decide +kernel) (by decide +kernel) (by decide +kernel) (by decide +kernel) (e0k hE (k := 226) (c := 11) (by decide +kernel)).1 (e0k hE (k := 226) (c := 11) (by decide +kernel)).2 (by decide) (by decide +kernel) (show 0 = gm_na 266 by decide +kernel) fw_c0 (show 1 ≤ gm_ml 266 by decide +kernel) (Nat.le_of_ble_eq_true rfl) (by omega) (Nat.zero_le _) (Nat.zero_le _) ?_
  refine re_now9 hE ((uM_ne (by omega)).trans ((uM_ne (by omega)).trans ((uM_ne (by omega)).trans (tr_w hT (by decide) (by decide) (by decide))))) ?_
  show gm_Wp X LX d _ _ 271 38 _ [gm_vi (N 9), gm_vi 3, gm_vi (N 4), gm_vr 226] n K _ _ Q
  refine gm_c_virt (k := 226) (ci := 11) (mj := 272) (ix := 173) (pc := 38) (as := [gm_vi (N 4), gm_vi 3, gm_vi (N 9)]) (st := []) (d' := d - 1) (bc' := 0) (bs' := 0) (by decide +kernel) (by decide +kernel) (by decide +kernel) (by decide +kernel) (e0k hE (k := 226) (c := 11) (by decide +kernel)).1 (e0k hE (k := 226) (c := 11) (by decide +kernel)).2 (by decide) (by decide +kernel) (show 3 = gm_na 272 by decide +kernel) (fw_c3 fw_si fw_si fw_si) (show 4 ≤ gm_ml 272 by decide +kernel) (Nat.le_of_ble_eq_true rfl) (by omega) (Nat.zero_le _) (Nat.zero_le _) ?_
  refine re_sl272 hE ⟨by omega, by omega⟩ ⟨by omega, by omega⟩ ?_
  show gm_Wp X LX d _ _ 271 41 _ [] n K _ _ Q
  refine gm_sz (gm_p_load (pc := 41) (i := .aload_n 0) (sr := 2) (j := 0) (by decide +kernel) rfl rfl rfl) ?_
  refine gm_sz (gm_p_load (pc := 42) (i := .iload 5) (sr := 0) (j := 5) (by decide +kernel) rfl rfl rfl) ?_
  refine gm_sz (gm_p_const (pc := 44) (i := .iconst 4) (v := gm_vi 4) (by decide +kernel) (by decide +kernel)) ?_
  refine gm_sz (gm_p_load (pc := 45) (i := .iload 4) (sr := 0) (j := 4) (by decide +kernel) rfl rfl rfl) ?_
  refine gm_c_virt (k := 226) (ci := 11) (mj := 272) (ix := 173) (pc := 47) (as := [gm_vi (N 4), gm_vi 4, gm_vi y]) (st := []) (d' := d - 1) (bc' := 0) (bs' := 0) (by decide +kernel) (by decide +kernel) (by decide +kernel) (by decide +kernel) (e0k hE (k := 226) (c := 11) (by decide +kernel)).1 (e0k hE (k := 226) (c := 11) (by decide +kernel)).2 (by decide) (by decide +kernel) (show 3 = gm_na 272 by decide +kernel) (fw_c3 fw_si fw_si fw_si) (show 4 ≤ gm_ml 272 by decide +kernel) (Nat.le_of_ble_eq_true rfl) (by omega) (Nat.zero_le _) (Nat.zero_le _) ?_
  refine re_sl272 hE ⟨by omega, by omega⟩ ⟨by omega, by omega⟩ ?_
  show gm_Wp X LX d _ _ 271 50 _ [] n K _ _ Q
  refine gm_sz (gm_p_load (pc := 50) (i := .aload_n 0) (sr := 2) (j := 0) (by decide +kernel) rfl rfl rfl) ?_
  refine gm_sz (gm_p_load (pc := 51) (i := .iload 5) (sr := 0) (j := 5) (by decide +kernel) rfl rfl rfl) ?_
  refine gm_sz (gm_p_const (pc := 53) (i := .iconst 5) (v := gm_vi 5) (by decide +kernel) (by decide +kernel)) ?_
  refine gm_sz (gm_p_const (pc := 54) (i := .iconst (-1)) (v := gm_vi (-1)) (by decide +kernel) (by decide +kernel)) ?_
  refine gm_c_virt (k := 226) (ci := 11) (mj := 272) (ix := 173) (pc := 55) (as := [gm_vi (N 4), gm_vi 5, gm_vi (-1)]) (st := []) (d' := d - 1) (bc' := 0) (bs' := 0) (by decide +kernel) (by decide +kernel) (by decide +kernel) (by decide +kernel) (e0k hE (k := 226) (c := 11) (by decide +kernel)).1 (e0k hE (k := 226) (c := 11) (by decide +kernel)).2 (by decide) (by decide +kernel) (show 3 = gm_na 272 by decide +kernel) (fw_c3 fw_si fw_si fw_si) (show 4 ≤ gm_ml 272 by decide +kernel) (Nat.le_of_ble_eq_true rfl) (by omega) (Nat.zero_le _) (Nat.zero_le _) ?_
  refine re_sl272 hE ⟨by omega, by omega⟩ ⟨by omega, by omega⟩ ?_
  show gm_Wp X LX d _ _ 271 58 _ [] n K _ _ Q
  refine gm_sz (gm_p_load (pc := 58) (i := .aload_n 0) (sr := 2) (j := 0) (by decide +kernel) rfl rfl rfl) ?_
  refine gm_sz (gm_p_load (pc := 59) (i := .iload 5) (sr := 0) (j := 5) (by decide +kernel) rfl rfl rfl) ?_
  refine gm_sz (gm_p_const (pc := 61) (i := .bipush 6) (v := gm_vi 6) (by decide +kernel) (by decide +kernel)) ?_
  refine gm_sz (gm_p_const (pc := 63) (i := .iconst (-1)) (v := gm_vi (-1)) (by decide +kernel) (by decide +kernel)) ?_
  refine gm_c_virt (k := 226) (ci := 11) (mj := 272) (ix := 173) (pc := 64) (as := [gm_vi (N 4), gm_vi 6, gm_vi (-1)]) (st := []) (d' := d - 1) (bc' := 0) (bs' := 0) (by decide +kernel) (by decide +kernel) (by decide +kernel) (by decide +kernel) (e0k hE (k := 226) (c := 11) (by decide +kernel)).1 (e0k hE (k := 226) (c := 11) (by decide +kernel)).2 (by decide) (by decide +kernel) (show 3 = gm_na 272 by decide +kernel) (fw_c3 fw_si fw_si fw_si) (show 4 ≤ gm_ml 272 by decide +kernel) (Nat.le_of_ble_eq_true rfl) (by omega) (Nat.zero_le _) (Nat.zero_le _) ?_
  refine re_sl272 hE ⟨by omega, by omega⟩ ⟨by omega, by omega⟩ ?_
  show gm_Wp X LX d _ _ 271 67 _ [] n K _ _ Q
  refine gm_sz (gm_p_load (pc := 67) (i := .aload_n 0) (sr := 2) (j := 0) (by decide +kernel) rfl rfl rfl) ?_
  refine gm_sz (fw_gr (pc := 68) (ix := 13) (ci := 11) (j := 1) (r := 227) (by decide +kernel) (e0k hE (k := 226) (c := 11) (by decide +kernel)) (by decide +kernel) (by decide +kernel) (e0r hE (k := 226) (j := 1) (r := 227) (by decide +kernel))) ?_
  refine gm_sz (gm_p_const (pc := 71) (i := .iconst 4) (v := gm_vi 4) (by decide +kernel) (by decide +kernel)) ?_
  refine gm_sz (gm_p_dup2 (pc := 72) (by decide +kernel) fw_si fw_sr) ?_
  refine gm_sz (fw_ia (pc := 73) (k := 227) (len := 2093) (e0 := 4) (x := N 4) (by decide +kernel) (e0a hE (k := 227) (q := (0, 2093)) (by decide +kernel)).1 (e0a hE (k := 227) (q := (0, 2093)) (by decide +kernel)).2 (by decide) ⟨by omega, by omega⟩ ((uM_ne (by omega)).trans ((uM_ne (by omega)).trans ((uM_ne (by omega)).trans ((uM_ne (by omega)).trans ((uM_ne (by omega)).trans ((uM_ne (by omega)).trans ((uM_ne (by omega)).trans (tr_w hT (by decide) (by decide) (by decide)))))))))) ?_
  refine gm_sz (gm_p_const (pc := 74) (i := .iconst 1) (v := gm_vi 1) (by decide +kernel) (by decide +kernel)) ?_
  refine gm_sz (gm_p_bin (pc := 75) (i := .iadd) (f := fun x y => x + y) (by decide +kernel) rfl) ?_
  refine gm_sz (fw_is (pc := 76) (k := 227) (len := 2093) (e0 := 4) (x := (N 4) + 1) (M' := gm_uM (gm_uM (gm_uM (gm_uM (gm_uM (gm_uM (gm_uM (gm_uM M 227 ((119 + (7 * (N 4))) + 0) f) 227 ((119 + (7 * (N 4))) + 1) t) 227 ((119 + (7 * (N 4))) + 2) l) 227 ((119 + (7 * (N 4))) + 3) (N 9)) 227 ((119 + (7 * (N 4))) + 4) y) 227 ((119 + (7 * (N 4))) + 5) (-1)) 227 ((119 + (7 * (N 4))) + 6) (-1)) 227 4 ((N 4) + 1)) (by decide +kernel) (e0a hE (k := 227) (q := (0, 2093)) (by decide +kernel)).1 (e0a hE (k := 227) (q := (0, 2093)) (by decide +kernel)).2 (by decide) ⟨by omega, by omega⟩ rfl) ?_
  have e1 : (gm_uM (gm_uM (gm_uM (gm_uM (gm_uM (gm_uM (gm_uM (gm_uM M 227 ((119 + (7 * (N 4))) + 0) f) 227 ((119 + (7 * (N 4))) + 1) t) 227 ((119 + (7 * (N 4))) + 2) l) 227 ((119 + (7 * (N 4))) + 3) (N 9)) 227 ((119 + (7 * (N 4))) + 4) y) 227 ((119 + (7 * (N 4))) + 5) (-1)) 227 ((119 + (7 * (N 4))) + 6) (-1)) 227 4 ((N 4) + 1)) 227 = nup (nup (nup (nup (nup (nup (nup (nup (M 227) ((119 + (7 * (N 4))) + 0) (f)) ((119 + (7 * (N 4))) + 1) (t)) ((119 + (7 * (N 4))) + 2) (l)) ((119 + (7 * (N 4))) + 3) (N 9)) ((119 + (7 * (N 4))) + 4) (y)) ((119 + (7 * (N 4))) + 5) ((-1))) ((119 + (7 * (N 4))) + 6) ((-1))) (4) ((N 4) + 1) := by
    exact (nup_s (nup_s (nup_s (nup_s (nup_s (nup_s (nup_s (nup_s rfl))))))))
  have e2 : ws (nup (nup (nup (nup (nup (nup (nup (nup (M 227) ((119 + (7 * (N 4))) + 0) (f)) ((119 + (7 * (N 4))) + 1) (t)) ((119 + (7 * (N 4))) + 2) (l)) ((119 + (7 * (N 4))) + 3) (N 9)) ((119 + (7 * (N 4))) + 4) (y)) ((119 + (7 * (N 4))) + 5) ((-1))) ((119 + (7 * (N 4))) + 6) ((-1))) (4) ((N 4) + 1)) = nup (nup (nup (nup (nup (nup (nup (nup (ws (M 227)) (119 + (N 4 * 7 + 0)) (f)) (119 + (N 4 * 7 + 1)) (t)) (119 + (N 4 * 7 + 2)) (l)) (119 + (N 4 * 7 + 3)) (N 9)) (119 + (N 4 * 7 + 4)) (y)) (119 + (N 4 * 7 + 5)) (-1)) (119 + (N 4 * 7 + 6)) (-1)) (4) (N 4 + 1) := by
    rw [ws_put (k := 4) ⟨by omega, by omega, by omega⟩, ws_put (k := (119 + (7 * (N 4))) + 6) ⟨by omega, by omega, by omega⟩, ws_put (k := (119 + (7 * (N 4))) + 5) ⟨by omega, by omega, by omega⟩, ws_put (k := (119 + (7 * (N 4))) + 4) ⟨by omega, by omega, by omega⟩, ws_put (k := (119 + (7 * (N 4))) + 3) ⟨by omega, by omega, by omega⟩, ws_put (k := (119 + (7 * (N 4))) + 2) ⟨by omega, by omega, by omega⟩, ws_put (k := (119 + (7 * (N 4))) + 1) ⟨by omega, by omega, by omega⟩, ws_put (k := (119 + (7 * (N 4))) + 0) ⟨by omega, by omega, by omega⟩]
    rw [show (119 + (7 * (N 4))) + 0 = 119 + (N 4 * 7 + 0) by omega, show (119 + (7 * (N 4))) + 1 = 119 + (N 4 * 7 + 1) by omega, show (119 + (7 * (N 4))) + 2 = 119 + (N 4 * 7 + 2) by omega, show (119 + (7 * (N 4))) + 3 = 119 + (N 4 * 7 + 3) by omega, show (119 + (7 * (N 4))) + 4 = 119 + (N 4 * 7 + 4) by omega, show (119 + (7 * (N 4))) + 5 = 119 + (N 4 * 7 + 5) by omega, show (119 + (7 * (N 4))) + 6 = 119 + (N 4 * 7 + 6) by omega]
  have e3 : ws ((gm_uM (gm_uM (gm_uM (gm_uM (gm_uM (gm_uM (gm_uM (gm_uM M 227 ((119 + (7 * (N 4))) + 0) f) 227 ((119 + (7 * (N 4))) + 1) t) 227 ((119 + (7 * (N 4))) + 2) l) 227 ((119 + (7 * (N 4))) + 3) (N 9)) 227 ((119 + (7 * (N 4))) + 4) y) 227 ((119 + (7 * (N 4))) + 5) (-1)) 227 ((119 + (7 * (N 4))) + 6) (-1)) 227 4 ((N 4) + 1)) 227) = nthr N f t l y := by
    rw [e1, e2, hT.1]
    funext i
    unfold nthr
    by_cases h4 : i = 4
    · subst h4
      rw [nup_at, nup_ne (by omega), nup_ne (by omega), nup_ne (by omega), nup_ne (by omega), nup_ne (by omega), nup_ne (by omega), nup_ne (by omega), nup_at]
    · rw [nup_ne h4]
      unfold nup
      try dsimp only
      rw [if_neg h4]
  exact gm_r_void (pc := 77) (by decide +kernel) (by decide +kernel) (hq (gm_uM (gm_uM (gm_uM (gm_uM (gm_uM (gm_uM (gm_uM (gm_uM M 227 ((119 + (7 * (N 4))) + 0) f) 227 ((119 + (7 * (N 4))) + 1) t) 227 ((119 + (7 * (N 4))) + 2) l) 227 ((119 + (7 * (N 4))) + 3) (N 9)) 227 ((119 + (7 * (N 4))) + 4) y) 227 ((119 + (7 * (N 4))) + 5) (-1)) 227 ((119 + (7 * (N 4))) + 6) (-1)) 227 4 ((N 4) + 1)) (fr_p (fr_p (fr_p (fr_p (fr_p (fr_p (fr_p (fr_p fr_0 (Or.inl (by decide))) (Or.inl (by decide))) (Or.inl (by decide))) (Or.inl (by decide))) (Or.inl (by decide))) (Or.inl (by decide))) (Or.inl (by decide))) (Or.inl (by decide))) e3 (fun j hj => ((uM_ne (by omega)).trans ((uM_ne (by omega)).trans ((uM_ne (by omega)).trans ((uM_ne (by omega)).trans ((uM_ne (by omega)).trans ((uM_ne (by omega)).trans ((uM_ne (by omega)).trans ((uM_ne (by omega)).trans rfl))))))))) ((uM_ne (by omega)).trans ((uM_ne (by omega)).trans ((uM_ne (by omega)).trans ((uM_ne (by omega)).trans ((uM_ne (by omega)).trans ((uM_ne (by omega)).trans ((uM_ne (by omega)).trans ((uM_ne (by omega)).trans rfl)))))))))
theorem nthr_4 (h0 : 0 ≤ N 4) {M2 : gm_M} (h9 : ws (M2 227) = nthr N f t l y) : M2 227 4 = N 4 + 1 := by
  have e1 : M2 227 4 = ws (M2 227) 4 := rfl
  rw [e1, h9]
  unfold nthr
  rw [nup_ne (by omega), nup_ne (by omega), nup_ne (by omega), nup_ne (by omega), nup_ne (by omega), nup_ne (by omega), nup_ne (by omega), nup_at]
theorem ra_315 (hd : 6 ≤ d) (hE : E0 n K R) (hT : TR N h M) (hN : NR N) (hH : HISR A (M 227 8) M) (hf : gm_ir f) (ht : gm_ir t) (q3 : ¬ ((0 ≤ f ∧ f < N 3) ∧ (0 ≤ t ∧ t < N 3)) → ∀ M2, fr [(226, some 0)] M M2 → M2 226 0 = 1 → Q (.inl (some (gm_vi 0))) n K R M2) (q0 : 0 ≤ f ∧ f < N 3 → 0 ≤ t ∧ t < N 3 → f = t → ∀ M2, fr [(226, some 0)] M M2 → M2 226 0 = 2 → Q (.inl (some (gm_vi 0))) n K R M2) (q1 : 0 ≤ f ∧ f < N 3 → 0 ≤ t ∧ t < N 3 → ¬ f = t → N 4 = 24 → ∀ M2, fr [(226, some 0)] M M2 → M2 226 0 = 3 → Q (.inl (some (gm_vi 0))) n K R M2) (hq : 0 ≤ f ∧ f < N 3 → 0 ≤ t ∧ t < N 3 → ¬ f = t → N 4 < 24 → ∀ M2 : gm_M, fr [(226, some 0), (226, some 6), (230, none), (227, none)] M M2 → HISR ((N :: A).take 12) (M 227 8) M2 → ws (M2 227) = nthr N f t ((N (95 + (f * 3 + 0)))) ((N (95 + (f * 3 + 1)))) → (∀ j, 395 ≤ j → M2 227 j = M 227 j) → M2 227 8 = M 227 8 → M2 226 0 = 0 → Q (.inl (some (gm_vi (N 4)))) n K R M2) : gm_Wp X LX d bc bs 315 0 (gm_ent 315 [gm_vr 226, gm_vi f, gm_vi t]) [] n K R M Q := by
  obtain ⟨⟨⟨a0, b0⟩, ⟨a1, b1⟩, ⟨a10, b10⟩, ⟨a11, b11⟩, ⟨a12, b12⟩, a9, b9⟩, ⟨⟨a2, b2⟩, ⟨a5, b5⟩, ⟨a3, b3⟩, ⟨a4, b4⟩, ⟨a6, b6⟩, ⟨a14, b14⟩, ⟨a7, b7⟩, a13, b13⟩, rF, rP, rL⟩ := id hN
  refine gm_sz (gm_p_load (pc := 0) (i := .aload_n 0) (sr := 2) (j := 0) (by decide +kernel) rfl rfl rfl) ?_
  refine gm_sz (gm_p_const (pc := 1) (i := .iconst 0) (v := gm_vi 0) (by decide +kernel) (by decide +kernel)) ?_
  refine gm_sz (fw_pi (pc := 2) (ix := 3) (ci := 11) (j := 0) (M' := gm_uM M 226 0 0) (by decide +kernel) (e0k hE (k := 226) (c := 11) (by decide +kernel)) (by decide +kernel) (by decide +kernel) (by decide +kernel) rfl) ?_
  refine gm_sz (gm_p_load (pc := 5) (i := .aload_n 0) (sr := 2) (j := 0) (by decide +kernel) rfl rfl rfl) ?_
  refine gm_sz (gm_p_load (pc := 6) (i := .aload_n 0) (sr := 2) (j := 0) (by decide +kernel) rfl rfl rfl) ?_
  refine gm_sz (gm_p_load (pc := 7) (i := .iload_n 1) (sr := 0) (j := 1) (by decide +kernel) rfl rfl rfl) ?_
  refine gm_c_virt (k := 226) (ci := 11) (mj := 298) (ix := 393) (pc := 8) (as := [gm_vi f]) (st := [gm_vr 226]) (d' := d - 1) (bc' := 0) (bs' := 0) (by decide +kernel) (by decide +kernel) (by decide +kernel) (by decide +kernel) (e0k hE (k := 226) (c := 11) (by decide +kernel)).1 (e0k hE (k := 226) (c := 11) (by decide +kernel)).2 (by decide) (by decide +kernel) (show 1 = gm_na 298 by decide +kernel) (fw_c1 fw_si) (show 2 ≤ gm_ml 298 by decide +kernel) (Nat.le_of_ble_eq_true rfl) (by omega) (Nat.zero_le _) (Nat.zero_le _) ?_
  refine no_298 (i := f) (by omega) hE (tr_fr (W := [(226, some 0)]) hT (fr_p fr_0 (Or.inr (by decide))) (by decide)) hN hf (fun n8 => ?_) (fun n8 => ?_)
  · show gm_Wp X LX d _ _ 315 11 _ [gm_vi 1, gm_vr 226] n K _ _ Q
    have n8 : ¬ (0 ≤ f ∧ f < N 3) := n8
    refine fw_iftd (cc := .ne) (pc := 11) (off := 11) (by decide +kernel) (by decide) ⟨by decide, by decide⟩ (by decide) ?_
    refine gm_sz (gm_p_const (pc := 22) (i := .iconst 1) (v := gm_vi 1) (by decide +kernel) (by decide +kernel)) ?_
    refine gm_sz (gm_p_goto (pc := 23) (off := 4) (by decide +kernel) (by decide)) ?_
    refine gm_sz (gm_p_const (pc := 27) (i := .iconst 1) (v := gm_vi 1) (by decide +kernel) (by decide +kernel)) ?_
    refine gm_c_virt (k := 226) (ci := 11) (mj := 282) (ix := 300) (pc := 28) (as := [gm_vi 1, gm_vi 1]) (st := []) (d' := d - 1) (bc' := 0) (bs' := 0) (by decide +kernel) (by decide +kernel) (by decide +kernel) (by decide +kernel) (e0k hE (k := 226) (c := 11) (by decide +kernel)).1 (e0k hE (k := 226) (c := 11) (by decide +kernel)).2 (by decide) (by decide +kernel) (show 2 = gm_na 282 by decide +kernel) (fw_c2 fw_si fw_si) (show 3 ≤ gm_ml 282 by decide +kernel) (Nat.le_of_ble_eq_true rfl) (by omega) (Nat.zero_le _) (Nat.zero_le _) ?_
    refine tf_1 hE ?_
    show gm_Wp X LX d _ _ 315 31 _ [gm_vi 1] n K _ _ Q
    refine fw_iftd (cc := .ne) (pc := 31) (off := 43) (by decide +kernel) (by decide) ⟨by decide, by decide⟩ (by decide) ?_
    refine gm_sz (gm_p_const (pc := 74) (i := .iconst 0) (v := gm_vi 0) (by decide +kernel) (by decide +kernel)) ?_
    exact gm_r_int (pc := 75) (by decide +kernel) (Or.inl (by decide +kernel)) (q3 (by omega) (gm_uM (gm_uM M 226 0 0) 226 0 1) (fr_p (fr_p fr_0 (Or.inr (by decide))) (Or.inr (by decide))) uM_at)
  · show gm_Wp X LX d _ _ 315 11 _ [gm_vi 0, gm_vr 226] n K _ _ Q
    have n8 : 0 ≤ f ∧ f < N 3 := n8
    refine fw_iffd (cc := .ne) (pc := 11) (off := 11) (by decide +kernel) (by decide) ⟨by decide, by decide⟩ (by decide) ?_
    refine gm_sz (gm_p_load (pc := 14) (i := .aload_n 0) (sr := 2) (j := 0) (by decide +kernel) rfl rfl rfl) ?_
    refine gm_sz (gm_p_load (pc := 15) (i := .iload_n 2) (sr := 0) (j := 2) (by decide +kernel) rfl rfl rfl) ?_
    refine gm_c_virt (k := 226) (ci := 11) (mj := 298) (ix := 393) (pc := 16) (as := [gm_vi t]) (st := [gm_vr 226]) (d' := d - 1) (bc' := 0) (bs' := 0) (by decide +kernel) (by decide +kernel) (by decide +kernel) (by decide +kernel) (e0k hE (k := 226) (c := 11) (by decide +kernel)).1 (e0k hE (k := 226) (c := 11) (by decide +kernel)).2 (by decide) (by decide +kernel) (show 1 = gm_na 298 by decide +kernel) (fw_c1 fw_si) (show 2 ≤ gm_ml 298 by decide +kernel) (Nat.le_of_ble_eq_true rfl) (by omega) (Nat.zero_le _) (Nat.zero_le _) ?_
    refine no_298 (i := t) (by omega) hE (tr_fr (W := [(226, some 0)]) hT (fr_p fr_0 (Or.inr (by decide))) (by decide)) hN ht (fun n16 => ?_) (fun n16 => ?_)
    · show gm_Wp X LX d _ _ 315 19 _ [gm_vi 1, gm_vr 226] n K _ _ Q
      have n16 : ¬ (0 ≤ t ∧ t < N 3) := n16
      refine fw_iffd (cc := .eq) (pc := 19) (off := 7) (by decide +kernel) (by decide) ⟨by decide, by decide⟩ (by decide) ?_
      refine gm_sz (gm_p_const (pc := 22) (i := .iconst 1) (v := gm_vi 1) (by decide +kernel) (by decide +kernel)) ?_
      refine gm_sz (gm_p_goto (pc := 23) (off := 4) (by decide +kernel) (by decide)) ?_
      refine gm_sz (gm_p_const (pc := 27) (i := .iconst 1) (v := gm_vi 1) (by decide +kernel) (by decide +kernel)) ?_
      refine gm_c_virt (k := 226) (ci := 11) (mj := 282) (ix := 300) (pc := 28) (as := [gm_vi 1, gm_vi 1]) (st := []) (d' := d - 1) (bc' := 0) (bs' := 0) (by decide +kernel) (by decide +kernel) (by decide +kernel) (by decide +kernel) (e0k hE (k := 226) (c := 11) (by decide +kernel)).1 (e0k hE (k := 226) (c := 11) (by decide +kernel)).2 (by decide) (by decide +kernel) (show 2 = gm_na 282 by decide +kernel) (fw_c2 fw_si fw_si) (show 3 ≤ gm_ml 282 by decide +kernel) (Nat.le_of_ble_eq_true rfl) (by omega) (Nat.zero_le _) (Nat.zero_le _) ?_
      refine tf_1 hE ?_
      show gm_Wp X LX d _ _ 315 31 _ [gm_vi 1] n K _ _ Q
      refine fw_iftd (cc := .ne) (pc := 31) (off := 43) (by decide +kernel) (by decide) ⟨by decide, by decide⟩ (by decide) ?_
      refine gm_sz (gm_p_const (pc := 74) (i := .iconst 0) (v := gm_vi 0) (by decide +kernel) (by decide +kernel)) ?_
      exact gm_r_int (pc := 75) (by decide +kernel) (Or.inl (by decide +kernel)) (q3 (by omega) (gm_uM (gm_uM M 226 0 0) 226 0 1) (fr_p (fr_p fr_0 (Or.inr (by decide))) (Or.inr (by decide))) uM_at)
    · show gm_Wp X LX d _ _ 315 19 _ [gm_vi 0, gm_vr 226] n K _ _ Q
      have n16 : 0 ≤ t ∧ t < N 3 := n16
      refine fw_iftd (cc := .eq) (pc := 19) (off := 7) (by decide +kernel) (by decide) ⟨by decide, by decide⟩ (by decide) ?_
      refine gm_sz (gm_p_const (pc := 26) (i := .iconst 0) (v := gm_vi 0) (by decide +kernel) (by decide +kernel)) ?_
      refine gm_sz (gm_p_const (pc := 27) (i := .iconst 1) (v := gm_vi 1) (by decide +kernel) (by decide +kernel)) ?_
      refine gm_c_virt (k := 226) (ci := 11) (mj := 282) (ix := 300) (pc := 28) (as := [gm_vi 0, gm_vi 1]) (st := []) (d' := d - 1) (bc' := 0) (bs' := 0) (by decide +kernel) (by decide +kernel) (by decide +kernel) (by decide +kernel) (e0k hE (k := 226) (c := 11) (by decide +kernel)).1 (e0k hE (k := 226) (c := 11) (by decide +kernel)).2 (by decide) (by decide +kernel) (show 2 = gm_na 282 by decide +kernel) (fw_c2 fw_si fw_si) (show 3 ≤ gm_ml 282 by decide +kernel) (Nat.le_of_ble_eq_true rfl) (by omega) (Nat.zero_le _) (Nat.zero_le _) ?_
      refine tf_0 hE ?_
      show gm_Wp X LX d _ _ 315 31 _ [gm_vi 0] n K _ _ Q
      refine fw_iffd (cc := .ne) (pc := 31) (off := 43) (by decide +kernel) (by decide) ⟨by decide, by decide⟩ (by decide) ?_
      refine gm_sz (gm_p_load (pc := 34) (i := .aload_n 0) (sr := 2) (j := 0) (by decide +kernel) rfl rfl rfl) ?_
      refine gm_sz (gm_p_load (pc := 35) (i := .iload_n 1) (sr := 0) (j := 1) (by decide +kernel) rfl rfl rfl) ?_
      refine gm_sz (gm_p_load (pc := 36) (i := .iload_n 2) (sr := 0) (j := 2) (by decide +kernel) rfl rfl rfl) ?_
      refine fw_ic (cc := .ne) (pc := 37) (off := 7) (by decide +kernel) (by decide) hf ht (fun h37 => ?_) (fun h37 => ?_)
      · have h37 : ¬ f = t := h37
        refine gm_sz (gm_p_const (pc := 44) (i := .iconst 0) (v := gm_vi 0) (by decide +kernel) (by decide +kernel)) ?_
        refine gm_sz (gm_p_const (pc := 45) (i := .iconst 2) (v := gm_vi 2) (by decide +kernel) (by decide +kernel)) ?_
        refine gm_c_virt (k := 226) (ci := 11) (mj := 282) (ix := 300) (pc := 46) (as := [gm_vi 0, gm_vi 2]) (st := []) (d' := d - 1) (bc' := 0) (bs' := 0) (by decide +kernel) (by decide +kernel) (by decide +kernel) (by decide +kernel) (e0k hE (k := 226) (c := 11) (by decide +kernel)).1 (e0k hE (k := 226) (c := 11) (by decide +kernel)).2 (by decide) (by decide +kernel) (show 2 = gm_na 282 by decide +kernel) (fw_c2 fw_si fw_si) (show 3 ≤ gm_ml 282 by decide +kernel) (Nat.le_of_ble_eq_true rfl) (by omega) (Nat.zero_le _) (Nat.zero_le _) ?_
        refine tf_0 hE ?_
        show gm_Wp X LX d _ _ 315 49 _ [gm_vi 0] n K _ _ Q
        refine fw_iffd (cc := .ne) (pc := 49) (off := 25) (by decide +kernel) (by decide) ⟨by decide, by decide⟩ (by decide) ?_
        refine gm_sz (gm_p_load (pc := 52) (i := .aload_n 0) (sr := 2) (j := 0) (by decide +kernel) rfl rfl rfl) ?_
        refine gm_sz (gm_p_load (pc := 53) (i := .aload_n 0) (sr := 2) (j := 0) (by decide +kernel) rfl rfl rfl) ?_
        refine gm_c_virt (k := 226) (ci := 11) (mj := 254) (ix := 100) (pc := 54) (as := []) (st := [gm_vr 226]) (d' := d - 1) (bc' := 0) (bs' := 0) (by decide +kernel) (by decide +kernel) (by decide +kernel) (by decide +kernel) (e0k hE (k := 226) (c := 11) (by decide +kernel)).1 (e0k hE (k := 226) (c := 11) (by decide +kernel)).2 (by decide) (by decide +kernel) (show 0 = gm_na 254 by decide +kernel) fw_c0 (show 1 ≤ gm_ml 254 by decide +kernel) (Nat.le_of_ble_eq_true rfl) (by omega) (Nat.zero_le _) (Nat.zero_le _) ?_
        refine re_let9 hE ((uM_ne (by omega)).trans (tr_w hT (by decide) (by decide) (by decide))) ?_
        show gm_Wp X LX d _ _ 315 57 _ [gm_vi (N 4), gm_vr 226] n K _ _ Q
        refine gm_sz (gm_p_const (pc := 57) (i := .bipush 24) (v := gm_vi 24) (by decide +kernel) (by decide +kernel)) ?_
        refine fw_ic (cc := .ne) (pc := 59) (off := 7) (by decide +kernel) (by decide) ⟨by omega, by omega⟩ ⟨by decide, by decide⟩ (fun h59 => ?_) (fun h59 => ?_)
        · have h59 : ¬ (N 4) = 24 := h59
          refine gm_sz (gm_p_const (pc := 66) (i := .iconst 0) (v := gm_vi 0) (by decide +kernel) (by decide +kernel)) ?_
          refine gm_sz (gm_p_const (pc := 67) (i := .iconst 3) (v := gm_vi 3) (by decide +kernel) (by decide +kernel)) ?_
          refine gm_c_virt (k := 226) (ci := 11) (mj := 282) (ix := 300) (pc := 68) (as := [gm_vi 0, gm_vi 3]) (st := []) (d' := d - 1) (bc' := 0) (bs' := 0) (by decide +kernel) (by decide +kernel) (by decide +kernel) (by decide +kernel) (e0k hE (k := 226) (c := 11) (by decide +kernel)).1 (e0k hE (k := 226) (c := 11) (by decide +kernel)).2 (by decide) (by decide +kernel) (show 2 = gm_na 282 by decide +kernel) (fw_c2 fw_si fw_si) (show 3 ≤ gm_ml 282 by decide +kernel) (Nat.le_of_ble_eq_true rfl) (by omega) (Nat.zero_le _) (Nat.zero_le _) ?_
          refine tf_0 hE ?_
          show gm_Wp X LX d _ _ 315 71 _ [gm_vi 0] n K _ _ Q
          refine fw_iftd (cc := .eq) (pc := 71) (off := 5) (by decide +kernel) (by decide) ⟨by decide, by decide⟩ (by decide) ?_
          refine gm_sz (gm_p_load (pc := 76) (i := .aload_n 0) (sr := 2) (j := 0) (by decide +kernel) rfl rfl rfl) ?_
          refine gm_c_virt (k := 226) (ci := 11) (mj := 316) (ix := 411) (pc := 77) (as := []) (st := []) (d' := d - 1) (bc' := 0) (bs' := 0) (by decide +kernel) (by decide +kernel) (by decide +kernel) (by decide +kernel) (e0k hE (k := 226) (c := 11) (by decide +kernel)).1 (e0k hE (k := 226) (c := 11) (by decide +kernel)).2 (by decide) (by decide +kernel) (show 0 = gm_na 316 by decide +kernel) fw_c0 (show 1 ≤ gm_ml 316 by decide +kernel) (Nat.le_of_ble_eq_true rfl) (by omega) (Nat.zero_le _) (Nat.zero_le _) ?_
          refine rm_c316 hE (tr_fr (W := [(226, some 0)]) hT (fr_p fr_0 (Or.inr (by decide))) (by decide)).1 (by have h9 : HISR A (M 227 8) (gm_uM M 226 0 0) := hisr_w (W := [(226, some 0)]) hH (fr_p fr_0 (Or.inr (by decide))) (by decide); rwa [show M 227 8 = (gm_uM M 226 0 0) 227 8 from ((uM_ne (by omega))).symm] at h9) (fun M77 hf77 hs77 => ?_)
          show gm_Wp X LX d _ _ 315 80 _ [] n K _ _ Q
          refine gm_sz (gm_p_load (pc := 80) (i := .aload_n 0) (sr := 2) (j := 0) (by decide +kernel) rfl rfl rfl) ?_
          refine gm_sz (gm_p_load (pc := 81) (i := .iload_n 1) (sr := 0) (j := 1) (by decide +kernel) rfl rfl rfl) ?_
          refine gm_sz (gm_p_load (pc := 82) (i := .iload_n 2) (sr := 0) (j := 2) (by decide +kernel) rfl rfl rfl) ?_
          refine gm_sz (gm_p_load (pc := 83) (i := .aload_n 0) (sr := 2) (j := 0) (by decide +kernel) rfl rfl rfl) ?_
          refine gm_sz (gm_p_load (pc := 84) (i := .iload_n 1) (sr := 0) (j := 1) (by decide +kernel) rfl rfl rfl) ?_
          refine gm_sz (gm_p_const (pc := 85) (i := .iconst 0) (v := gm_vi 0) (by decide +kernel) (by decide +kernel)) ?_
          refine gm_c_virt (k := 226) (ci := 11) (mj := 299) (ix := 396) (pc := 86) (as := [gm_vi f, gm_vi 0]) (st := [gm_vi t, gm_vi f, gm_vr 226]) (d' := d - 1) (bc' := 0) (bs' := 0) (by decide +kernel) (by decide +kernel) (by decide +kernel) (by decide +kernel) (e0k hE (k := 226) (c := 11) (by decide +kernel)).1 (e0k hE (k := 226) (c := 11) (by decide +kernel)).2 (by decide) (by decide +kernel) (show 2 = gm_na 299 by decide +kernel) (fw_c2 fw_si fw_si) (show 3 ≤ gm_ml 299 by decide +kernel) (Nat.le_of_ble_eq_true rfl) (by omega) (Nat.zero_le _) (Nat.zero_le _) ?_
          refine re_of hE (tr_fr (W := [(226, some 0), (226, some 6), (230, none)]) hT (fr_t (fr_p fr_0 (Or.inr (by decide))) hf77 (by decide)) (by decide)) hN ⟨by omega, by omega⟩ ⟨by omega, by omega⟩ ?_
          show gm_Wp X LX d _ _ 315 89 _ [gm_vi (N (95 + (f * 3 + 0))), gm_vi t, gm_vi f, gm_vr 226] n K _ _ Q
          refine gm_sz (gm_p_load (pc := 89) (i := .aload_n 0) (sr := 2) (j := 0) (by decide +kernel) rfl rfl rfl) ?_
          refine gm_sz (gm_p_load (pc := 90) (i := .iload_n 1) (sr := 0) (j := 1) (by decide +kernel) rfl rfl rfl) ?_
          refine gm_sz (gm_p_const (pc := 91) (i := .iconst 1) (v := gm_vi 1) (by decide +kernel) (by decide +kernel)) ?_
          refine gm_c_virt (k := 226) (ci := 11) (mj := 299) (ix := 396) (pc := 92) (as := [gm_vi f, gm_vi 1]) (st := [gm_vi (N (95 + (f * 3 + 0))), gm_vi t, gm_vi f, gm_vr 226]) (d' := d - 1) (bc' := 0) (bs' := 0) (by decide +kernel) (by decide +kernel) (by decide +kernel) (by decide +kernel) (e0k hE (k := 226) (c := 11) (by decide +kernel)).1 (e0k hE (k := 226) (c := 11) (by decide +kernel)).2 (by decide) (by decide +kernel) (show 2 = gm_na 299 by decide +kernel) (fw_c2 fw_si fw_si) (show 3 ≤ gm_ml 299 by decide +kernel) (Nat.le_of_ble_eq_true rfl) (by omega) (Nat.zero_le _) (Nat.zero_le _) ?_
          refine re_of hE (tr_fr (W := [(226, some 0), (226, some 6), (230, none)]) hT (fr_t (fr_p fr_0 (Or.inr (by decide))) hf77 (by decide)) (by decide)) hN ⟨by omega, by omega⟩ ⟨by omega, by omega⟩ ?_
          show gm_Wp X LX d _ _ 315 95 _ [gm_vi (N (95 + (f * 3 + 1))), gm_vi (N (95 + (f * 3 + 0))), gm_vi t, gm_vi f, gm_vr 226] n K _ _ Q
          refine gm_c_virt (k := 226) (ci := 11) (mj := 271) (ix := 177) (pc := 95) (as := [gm_vi f, gm_vi t, gm_vi (N (95 + (f * 3 + 0))), gm_vi (N (95 + (f * 3 + 1)))]) (st := []) (d' := d - 1) (bc' := 0) (bs' := 0) (by decide +kernel) (by decide +kernel) (by decide +kernel) (by decide +kernel) (e0k hE (k := 226) (c := 11) (by decide +kernel)).1 (e0k hE (k := 226) (c := 11) (by decide +kernel)).2 (by decide) (by decide +kernel) (show 4 = gm_na 271 by decide +kernel) (fw_c4 fw_si fw_si fw_si fw_si) (show 5 ≤ gm_ml 271 by decide +kernel) (Nat.le_of_ble_eq_true rfl) (by omega) (Nat.zero_le _) (Nat.zero_le _) ?_
          refine re_ti (by omega) hE (tr_fr (W := [(226, some 0), (226, some 6), (230, none)]) hT (fr_t (fr_p fr_0 (Or.inr (by decide))) hf77 (by decide)) (by decide)) hN ⟨by omega, by omega⟩ (fun M95 hf95 hw95 hg95 h895 => ?_)
          show gm_Wp X LX d _ _ 315 98 _ [] n K _ _ Q
          refine gm_sz (gm_p_load (pc := 98) (i := .aload_n 0) (sr := 2) (j := 0) (by decide +kernel) rfl rfl rfl) ?_
          refine gm_c_virt (k := 226) (ci := 11) (mj := 254) (ix := 100) (pc := 99) (as := []) (st := []) (d' := d - 1) (bc' := 0) (bs' := 0) (by decide +kernel) (by decide +kernel) (by decide +kernel) (by decide +kernel) (e0k hE (k := 226) (c := 11) (by decide +kernel)).1 (e0k hE (k := 226) (c := 11) (by decide +kernel)).2 (by decide) (by decide +kernel) (show 0 = gm_na 254 by decide +kernel) fw_c0 (show 1 ≤ gm_ml 254 by decide +kernel) (Nat.le_of_ble_eq_true rfl) (by omega) (Nat.zero_le _) (Nat.zero_le _) ?_
          refine re_let9 hE (nthr_4 (by omega) hw95) ?_
          show gm_Wp X LX d _ _ 315 102 _ [gm_vi (N 4 + 1)] n K _ _ Q
          refine gm_sz (gm_p_const (pc := 102) (i := .iconst 1) (v := gm_vi 1) (by decide +kernel) (by decide +kernel)) ?_
          refine gm_sz (gm_p_bin (pc := 103) (i := .isub) (f := fun x y => x - y) (by decide +kernel) rfl) ?_
          rw [show (N 4 + 1) - 1 = N 4 by omega]
          have h9 := hisr_w (W := [(227, none)]) hs77 hf95 (by decide)
          rw [show gm_uM M 226 0 0 227 8 = M 227 8 from uM_ne (by omega)] at h9
          exact gm_r_int (pc := 104) (by decide +kernel) (Or.inl (by decide +kernel)) (hq (by omega) (by omega) (by omega) (by omega) M95 (fr_t (fr_t (fr_p fr_0 (Or.inr (by decide))) hf77 (by decide)) hf95 (by decide)) h9 hw95 (fun j hj => (hg95 j hj).trans ((fr_c hf77 (by decide)).trans (uM_ne (by omega)))) (h895.trans ((fr_c hf77 (by decide)).trans (uM_ne (by omega)))) ((fr_c hf95 (by decide)).trans ((fr_j hf77 (by decide)).trans uM_at)))
        · have h59 : (N 4) = 24 := Classical.not_not.mp h59
          refine gm_sz (gm_p_const (pc := 62) (i := .iconst 1) (v := gm_vi 1) (by decide +kernel) (by decide +kernel)) ?_
          refine gm_sz (gm_p_goto (pc := 63) (off := 4) (by decide +kernel) (by decide)) ?_
          refine gm_sz (gm_p_const (pc := 67) (i := .iconst 3) (v := gm_vi 3) (by decide +kernel) (by decide +kernel)) ?_
          refine gm_c_virt (k := 226) (ci := 11) (mj := 282) (ix := 300) (pc := 68) (as := [gm_vi 1, gm_vi 3]) (st := []) (d' := d - 1) (bc' := 0) (bs' := 0) (by decide +kernel) (by decide +kernel) (by decide +kernel) (by decide +kernel) (e0k hE (k := 226) (c := 11) (by decide +kernel)).1 (e0k hE (k := 226) (c := 11) (by decide +kernel)).2 (by decide) (by decide +kernel) (show 2 = gm_na 282 by decide +kernel) (fw_c2 fw_si fw_si) (show 3 ≤ gm_ml 282 by decide +kernel) (Nat.le_of_ble_eq_true rfl) (by omega) (Nat.zero_le _) (Nat.zero_le _) ?_
          refine tf_1 hE ?_
          show gm_Wp X LX d _ _ 315 71 _ [gm_vi 1] n K _ _ Q
          refine fw_iffd (cc := .eq) (pc := 71) (off := 5) (by decide +kernel) (by decide) ⟨by decide, by decide⟩ (by decide) ?_
          refine gm_sz (gm_p_const (pc := 74) (i := .iconst 0) (v := gm_vi 0) (by decide +kernel) (by decide +kernel)) ?_
          exact gm_r_int (pc := 75) (by decide +kernel) (Or.inl (by decide +kernel)) (q1 (by omega) (by omega) (by omega) (by omega) (gm_uM (gm_uM M 226 0 0) 226 0 3) (fr_p (fr_p fr_0 (Or.inr (by decide))) (Or.inr (by decide))) uM_at)
      · have h37 : f = t := Classical.not_not.mp h37
        refine gm_sz (gm_p_const (pc := 40) (i := .iconst 1) (v := gm_vi 1) (by decide +kernel) (by decide +kernel)) ?_
        refine gm_sz (gm_p_goto (pc := 41) (off := 4) (by decide +kernel) (by decide)) ?_
        refine gm_sz (gm_p_const (pc := 45) (i := .iconst 2) (v := gm_vi 2) (by decide +kernel) (by decide +kernel)) ?_
        refine gm_c_virt (k := 226) (ci := 11) (mj := 282) (ix := 300) (pc := 46) (as := [gm_vi 1, gm_vi 2]) (st := []) (d' := d - 1) (bc' := 0) (bs' := 0) (by decide +kernel) (by decide +kernel) (by decide +kernel) (by decide +kernel) (e0k hE (k := 226) (c := 11) (by decide +kernel)).1 (e0k hE (k := 226) (c := 11) (by decide +kernel)).2 (by decide) (by decide +kernel) (show 2 = gm_na 282 by decide +kernel) (fw_c2 fw_si fw_si) (show 3 ≤ gm_ml 282 by decide +kernel) (Nat.le_of_ble_eq_true rfl) (by omega) (Nat.zero_le _) (Nat.zero_le _) ?_
        refine tf_1 hE ?_
        show gm_Wp X LX d _ _ 315 49 _ [gm_vi 1] n K _ _ Q
        refine fw_iftd (cc := .ne) (pc := 49) (off := 25) (by decide +kernel) (by decide) ⟨by decide, by decide⟩ (by decide) ?_
        refine gm_sz (gm_p_const (pc := 74) (i := .iconst 0) (v := gm_vi 0) (by decide +kernel) (by decide +kernel)) ?_
        exact gm_r_int (pc := 75) (by decide +kernel) (Or.inl (by decide +kernel)) (q0 (by omega) (by omega) (by omega) (gm_uM (gm_uM M 226 0 0) 226 0 2) (fr_p (fr_p fr_0 (Or.inr (by decide))) (Or.inr (by decide))) uM_at)
theorem ra_317 (hd : 6 ≤ d) (hE : E0 n K R) (hT : TR N h M) (hN : NR N) (hH : HISR A (M 227 8) M) (hf : gm_ir p) (ht : gm_ir l) (q3 : ¬ ((0 ≤ p ∧ p < N 3) ∧ (l = -1 ∨ (0 ≤ l ∧ l < N 0))) → ∀ M2, fr [(226, some 0)] M M2 → M2 226 0 = 1 → Q (.inl (some (gm_vi 0))) n K R M2) (hq : 0 ≤ p ∧ p < N 3 → (l = -1 ∨ (0 ≤ l ∧ l < N 0)) → ∀ M2 : gm_M, fr [(226, some 0), (226, some 6), (230, none), (227, none)] M M2 → HISR ((N :: A).take 12) (M 227 8) M2 → ws (M2 227) = nwat N p l → (∀ j, 395 ≤ j → M2 227 j = M 227 j) → M2 227 8 = M 227 8 → M2 226 0 = 0 → Q (.inl (some (gm_vi ((N (95 + (p * 3 + 2))))))) n K R M2) : gm_Wp X LX d bc bs 317 0 (gm_ent 317 [gm_vr 226, gm_vi p, gm_vi l]) [] n K R M Q := by
  obtain ⟨⟨⟨a0, b0⟩, ⟨a1, b1⟩, ⟨a10, b10⟩, ⟨a11, b11⟩, ⟨a12, b12⟩, a9, b9⟩, ⟨⟨a2, b2⟩, ⟨a5, b5⟩, ⟨a3, b3⟩, ⟨a4, b4⟩, ⟨a6, b6⟩, ⟨a14, b14⟩, ⟨a7, b7⟩, a13, b13⟩, rF, rP, rL⟩ := id hN
  refine gm_sz (gm_p_load (pc := 0) (i := .aload_n 0) (sr := 2) (j := 0) (by decide +kernel) rfl rfl rfl) ?_
  refine gm_sz (gm_p_const (pc := 1) (i := .iconst 0) (v := gm_vi 0) (by decide +kernel) (by decide +kernel)) ?_
  refine gm_sz (fw_pi (pc := 2) (ix := 3) (ci := 11) (j := 0) (M' := gm_uM M 226 0 0) (by decide +kernel) (e0k hE (k := 226) (c := 11) (by decide +kernel)) (by decide +kernel) (by decide +kernel) (by decide +kernel) rfl) ?_
  refine gm_sz (gm_p_load (pc := 5) (i := .aload_n 0) (sr := 2) (j := 0) (by decide +kernel) rfl rfl rfl) ?_
  refine gm_sz (gm_p_load (pc := 6) (i := .aload_n 0) (sr := 2) (j := 0) (by decide +kernel) rfl rfl rfl) ?_
  refine gm_sz (gm_p_load (pc := 7) (i := .iload_n 1) (sr := 0) (j := 1) (by decide +kernel) rfl rfl rfl) ?_
  refine gm_c_virt (k := 226) (ci := 11) (mj := 298) (ix := 393) (pc := 8) (as := [gm_vi p]) (st := [gm_vr 226]) (d' := d - 1) (bc' := 0) (bs' := 0) (by decide +kernel) (by decide +kernel) (by decide +kernel) (by decide +kernel) (e0k hE (k := 226) (c := 11) (by decide +kernel)).1 (e0k hE (k := 226) (c := 11) (by decide +kernel)).2 (by decide) (by decide +kernel) (show 1 = gm_na 298 by decide +kernel) (fw_c1 fw_si) (show 2 ≤ gm_ml 298 by decide +kernel) (Nat.le_of_ble_eq_true rfl) (by omega) (Nat.zero_le _) (Nat.zero_le _) ?_
  refine no_298 (i := p) (by omega) hE (tr_fr (W := [(226, some 0)]) hT (fr_p fr_0 (Or.inr (by decide))) (by decide)) hN hf (fun n8 => ?_) (fun n8 => ?_)
  · show gm_Wp X LX d _ _ 317 11 _ [gm_vi 1, gm_vr 226] n K _ _ Q
    have n8 : ¬ (0 ≤ p ∧ p < N 3) := n8
    refine fw_iftd (cc := .ne) (pc := 11) (off := 16) (by decide +kernel) (by decide) ⟨by decide, by decide⟩ (by decide) ?_
    refine gm_sz (gm_p_const (pc := 27) (i := .iconst 1) (v := gm_vi 1) (by decide +kernel) (by decide +kernel)) ?_
    refine gm_sz (gm_p_goto (pc := 28) (off := 4) (by decide +kernel) (by decide)) ?_
    refine gm_sz (gm_p_const (pc := 32) (i := .iconst 1) (v := gm_vi 1) (by decide +kernel) (by decide +kernel)) ?_
    refine gm_c_virt (k := 226) (ci := 11) (mj := 282) (ix := 300) (pc := 33) (as := [gm_vi 1, gm_vi 1]) (st := []) (d' := d - 1) (bc' := 0) (bs' := 0) (by decide +kernel) (by decide +kernel) (by decide +kernel) (by decide +kernel) (e0k hE (k := 226) (c := 11) (by decide +kernel)).1 (e0k hE (k := 226) (c := 11) (by decide +kernel)).2 (by decide) (by decide +kernel) (show 2 = gm_na 282 by decide +kernel) (fw_c2 fw_si fw_si) (show 3 ≤ gm_ml 282 by decide +kernel) (Nat.le_of_ble_eq_true rfl) (by omega) (Nat.zero_le _) (Nat.zero_le _) ?_
    refine tf_1 hE ?_
    show gm_Wp X LX d _ _ 317 36 _ [gm_vi 1] n K _ _ Q
    refine fw_iffd (cc := .eq) (pc := 36) (off := 5) (by decide +kernel) (by decide) ⟨by decide, by decide⟩ (by decide) ?_
    refine gm_sz (gm_p_const (pc := 39) (i := .iconst 0) (v := gm_vi 0) (by decide +kernel) (by decide +kernel)) ?_
    exact gm_r_int (pc := 40) (by decide +kernel) (Or.inl (by decide +kernel)) (q3 (by omega) (gm_uM (gm_uM M 226 0 0) 226 0 1) (fr_p (fr_p fr_0 (Or.inr (by decide))) (Or.inr (by decide))) uM_at)
  · show gm_Wp X LX d _ _ 317 11 _ [gm_vi 0, gm_vr 226] n K _ _ Q
    have n8 : 0 ≤ p ∧ p < N 3 := n8
    refine fw_iffd (cc := .ne) (pc := 11) (off := 16) (by decide +kernel) (by decide) ⟨by decide, by decide⟩ (by decide) ?_
    refine gm_sz (gm_p_load (pc := 14) (i := .iload_n 2) (sr := 0) (j := 2) (by decide +kernel) rfl rfl rfl) ?_
    refine gm_sz (gm_p_const (pc := 15) (i := .iconst (-1)) (v := gm_vi (-1)) (by decide +kernel) (by decide +kernel)) ?_
    refine fw_ic (cc := .eq) (pc := 16) (off := 15) (by decide +kernel) (by decide) ht ⟨by decide, by decide⟩ (fun h16 => ?_) (fun h16 => ?_)
    · have h16 : l = (-1) := h16
      refine gm_sz (gm_p_const (pc := 31) (i := .iconst 0) (v := gm_vi 0) (by decide +kernel) (by decide +kernel)) ?_
      refine gm_sz (gm_p_const (pc := 32) (i := .iconst 1) (v := gm_vi 1) (by decide +kernel) (by decide +kernel)) ?_
      refine gm_c_virt (k := 226) (ci := 11) (mj := 282) (ix := 300) (pc := 33) (as := [gm_vi 0, gm_vi 1]) (st := []) (d' := d - 1) (bc' := 0) (bs' := 0) (by decide +kernel) (by decide +kernel) (by decide +kernel) (by decide +kernel) (e0k hE (k := 226) (c := 11) (by decide +kernel)).1 (e0k hE (k := 226) (c := 11) (by decide +kernel)).2 (by decide) (by decide +kernel) (show 2 = gm_na 282 by decide +kernel) (fw_c2 fw_si fw_si) (show 3 ≤ gm_ml 282 by decide +kernel) (Nat.le_of_ble_eq_true rfl) (by omega) (Nat.zero_le _) (Nat.zero_le _) ?_
      refine tf_0 hE ?_
      show gm_Wp X LX d _ _ 317 36 _ [gm_vi 0] n K _ _ Q
      refine fw_iftd (cc := .eq) (pc := 36) (off := 5) (by decide +kernel) (by decide) ⟨by decide, by decide⟩ (by decide) ?_
      refine gm_sz (gm_p_load (pc := 41) (i := .aload_n 0) (sr := 2) (j := 0) (by decide +kernel) rfl rfl rfl) ?_
      refine gm_c_virt (k := 226) (ci := 11) (mj := 316) (ix := 411) (pc := 42) (as := []) (st := []) (d' := d - 1) (bc' := 0) (bs' := 0) (by decide +kernel) (by decide +kernel) (by decide +kernel) (by decide +kernel) (e0k hE (k := 226) (c := 11) (by decide +kernel)).1 (e0k hE (k := 226) (c := 11) (by decide +kernel)).2 (by decide) (by decide +kernel) (show 0 = gm_na 316 by decide +kernel) fw_c0 (show 1 ≤ gm_ml 316 by decide +kernel) (Nat.le_of_ble_eq_true rfl) (by omega) (Nat.zero_le _) (Nat.zero_le _) ?_
      refine rm_c316 hE (tr_fr (W := [(226, some 0)]) hT (fr_p fr_0 (Or.inr (by decide))) (by decide)).1 (by have h9 : HISR A (M 227 8) (gm_uM M 226 0 0) := hisr_w (W := [(226, some 0)]) hH (fr_p fr_0 (Or.inr (by decide))) (by decide); rwa [show M 227 8 = (gm_uM M 226 0 0) 227 8 from ((uM_ne (by omega))).symm] at h9) (fun M42 hf42 hs42 => ?_)
      show gm_Wp X LX d _ _ 317 45 _ [] n K _ _ Q
      refine gm_sz (gm_p_load (pc := 45) (i := .aload_n 0) (sr := 2) (j := 0) (by decide +kernel) rfl rfl rfl) ?_
      refine gm_sz (gm_p_load (pc := 46) (i := .iload_n 1) (sr := 0) (j := 1) (by decide +kernel) rfl rfl rfl) ?_
      refine gm_sz (gm_p_const (pc := 47) (i := .iconst 2) (v := gm_vi 2) (by decide +kernel) (by decide +kernel)) ?_
      refine gm_c_virt (k := 226) (ci := 11) (mj := 299) (ix := 396) (pc := 48) (as := [gm_vi p, gm_vi 2]) (st := []) (d' := d - 1) (bc' := 0) (bs' := 0) (by decide +kernel) (by decide +kernel) (by decide +kernel) (by decide +kernel) (e0k hE (k := 226) (c := 11) (by decide +kernel)).1 (e0k hE (k := 226) (c := 11) (by decide +kernel)).2 (by decide) (by decide +kernel) (show 2 = gm_na 299 by decide +kernel) (fw_c2 fw_si fw_si) (show 3 ≤ gm_ml 299 by decide +kernel) (Nat.le_of_ble_eq_true rfl) (by omega) (Nat.zero_le _) (Nat.zero_le _) ?_
      refine re_of hE (tr_fr (W := [(226, some 0), (226, some 6), (230, none)]) hT (fr_t (fr_p fr_0 (Or.inr (by decide))) hf42 (by decide)) (by decide)) hN ⟨by omega, by omega⟩ ⟨by omega, by omega⟩ ?_
      show gm_Wp X LX d _ _ 317 51 _ [gm_vi (N (95 + (p * 3 + 2)))] n K _ _ Q
      refine gm_sz (gm_p_stor (pc := 51) (i := .istore_n 3) (sr := 0) (j := 3) (by decide +kernel) rfl (show 4 ≤ _ from Nat.le_of_ble_eq_true rfl) rfl) ?_
      refine gm_sz (gm_p_load (pc := 52) (i := .aload_n 0) (sr := 2) (j := 0) (by decide +kernel) rfl rfl rfl) ?_
      refine gm_sz (fw_gr (pc := 53) (ix := 13) (ci := 11) (j := 1) (r := 227) (by decide +kernel) (e0k hE (k := 226) (c := 11) (by decide +kernel)) (by decide +kernel) (by decide +kernel) (e0r hE (k := 226) (j := 1) (r := 227) (by decide +kernel))) ?_
      refine gm_sz (gm_p_const (pc := 56) (i := .bipush 95) (v := gm_vi 95) (by decide +kernel) (by decide +kernel)) ?_
      refine gm_sz (gm_p_const (pc := 58) (i := .iconst 3) (v := gm_vi 3) (by decide +kernel) (by decide +kernel)) ?_
      refine gm_sz (gm_p_load (pc := 59) (i := .iload_n 1) (sr := 0) (j := 1) (by decide +kernel) rfl rfl rfl) ?_
      refine gm_sz (gm_p_bin (pc := 60) (i := .imul) (f := fun x y => x * y) (by decide +kernel) rfl) ?_
      refine gm_sz (gm_p_bin (pc := 61) (i := .iadd) (f := fun x y => x + y) (by decide +kernel) rfl) ?_
      refine gm_sz (gm_p_const (pc := 62) (i := .iconst 2) (v := gm_vi 2) (by decide +kernel) (by decide +kernel)) ?_
      refine gm_sz (gm_p_bin (pc := 63) (i := .iadd) (f := fun x y => x + y) (by decide +kernel) rfl) ?_
      refine gm_sz (gm_p_load (pc := 64) (i := .iload_n 2) (sr := 0) (j := 2) (by decide +kernel) rfl rfl rfl) ?_
      refine gm_sz (fw_is (pc := 65) (k := 227) (len := 2093) (e0 := (95 + (3 * p)) + 2) (x := l) (M' := gm_uM M42 227 ((95 + (3 * p)) + 2) l) (by decide +kernel) (e0a hE (k := 227) (q := (0, 2093)) (by decide +kernel)).1 (e0a hE (k := 227) (q := (0, 2093)) (by decide +kernel)).2 (by decide) ⟨by omega, by omega⟩ rfl) ?_
      refine gm_sz (gm_p_load (pc := 66) (i := .iload_n 3) (sr := 0) (j := 3) (by decide +kernel) rfl rfl rfl) ?_
      have t9 := (tr_fr (W := [(226, some 0), (226, some 6), (230, none)]) hT (fr_t (fr_p fr_0 (Or.inr (by decide))) hf42 (by decide)) (by decide))
      have w9 : ws ((gm_uM M42 227 ((95 + (3 * p)) + 2) l) 227) = nwat N p l := by
        have e1 : (gm_uM M42 227 ((95 + (3 * p)) + 2) l) 227 = nup (M42 227) ((95 + (3 * p)) + 2) l := nup_s rfl
        rw [e1, ws_put (k := (95 + (3 * p)) + 2) ⟨by omega, by omega, by omega⟩, t9.1]
        unfold nwat
        rw [show (95 + (3 * p)) + 2 = 95 + (p * 3 + 2) by omega]
      have h9 := hisr_w (W := [(227, none)]) hs42 (show fr [(227, none)] M42 (gm_uM M42 227 ((95 + (3 * p)) + 2) l) from fr_p fr_0 (Or.inl (by decide))) (by decide)
      rw [show gm_uM M 226 0 0 227 8 = M 227 8 from uM_ne (by omega)] at h9
      exact gm_r_int (pc := 67) (by decide +kernel) (Or.inl (by decide +kernel)) (hq (by omega) (by omega) (gm_uM M42 227 ((95 + (3 * p)) + 2) l) (fr_p (fr_t (fr_p fr_0 (Or.inr (by decide))) hf42 (by decide)) (Or.inl (by decide))) h9 w9 (fun j hj => (uM_ne (by omega)).trans ((fr_c hf42 (by decide)).trans (uM_ne (by omega)))) ((uM_ne (by omega)).trans ((fr_c hf42 (by decide)).trans (uM_ne (by omega)))) ((uM_ne (by omega)).trans ((fr_j hf42 (by decide)).trans uM_at)))
    · have h16 : ¬ l = (-1) := h16
      refine gm_sz (gm_p_load (pc := 19) (i := .aload_n 0) (sr := 2) (j := 0) (by decide +kernel) rfl rfl rfl) ?_
      refine gm_sz (gm_p_load (pc := 20) (i := .iload_n 2) (sr := 0) (j := 2) (by decide +kernel) rfl rfl rfl) ?_
      refine gm_c_virt (k := 226) (ci := 11) (mj := 288) (ix := 356) (pc := 21) (as := [gm_vi l]) (st := [gm_vr 226]) (d' := d - 1) (bc' := 0) (bs' := 0) (by decide +kernel) (by decide +kernel) (by decide +kernel) (by decide +kernel) (e0k hE (k := 226) (c := 11) (by decide +kernel)).1 (e0k hE (k := 226) (c := 11) (by decide +kernel)).2 (by decide) (by decide +kernel) (show 1 = gm_na 288 by decide +kernel) (fw_c1 fw_si) (show 2 ≤ gm_ml 288 by decide +kernel) (Nat.le_of_ble_eq_true rfl) (by omega) (Nat.zero_le _) (Nat.zero_le _) ?_
      refine no_288 (i := l) (by omega) hE (tr_fr (W := [(226, some 0)]) hT (fr_p fr_0 (Or.inr (by decide))) (by decide)) hN ht (fun n21 => ?_) (fun n21 => ?_)
      · show gm_Wp X LX d _ _ 317 24 _ [gm_vi 1, gm_vr 226] n K _ _ Q
        have n21 : ¬ (0 ≤ l ∧ l < N 0) := n21
        refine fw_iffd (cc := .eq) (pc := 24) (off := 7) (by decide +kernel) (by decide) ⟨by decide, by decide⟩ (by decide) ?_
        refine gm_sz (gm_p_const (pc := 27) (i := .iconst 1) (v := gm_vi 1) (by decide +kernel) (by decide +kernel)) ?_
        refine gm_sz (gm_p_goto (pc := 28) (off := 4) (by decide +kernel) (by decide)) ?_
        refine gm_sz (gm_p_const (pc := 32) (i := .iconst 1) (v := gm_vi 1) (by decide +kernel) (by decide +kernel)) ?_
        refine gm_c_virt (k := 226) (ci := 11) (mj := 282) (ix := 300) (pc := 33) (as := [gm_vi 1, gm_vi 1]) (st := []) (d' := d - 1) (bc' := 0) (bs' := 0) (by decide +kernel) (by decide +kernel) (by decide +kernel) (by decide +kernel) (e0k hE (k := 226) (c := 11) (by decide +kernel)).1 (e0k hE (k := 226) (c := 11) (by decide +kernel)).2 (by decide) (by decide +kernel) (show 2 = gm_na 282 by decide +kernel) (fw_c2 fw_si fw_si) (show 3 ≤ gm_ml 282 by decide +kernel) (Nat.le_of_ble_eq_true rfl) (by omega) (Nat.zero_le _) (Nat.zero_le _) ?_
        refine tf_1 hE ?_
        show gm_Wp X LX d _ _ 317 36 _ [gm_vi 1] n K _ _ Q
        refine fw_iffd (cc := .eq) (pc := 36) (off := 5) (by decide +kernel) (by decide) ⟨by decide, by decide⟩ (by decide) ?_
        refine gm_sz (gm_p_const (pc := 39) (i := .iconst 0) (v := gm_vi 0) (by decide +kernel) (by decide +kernel)) ?_
        exact gm_r_int (pc := 40) (by decide +kernel) (Or.inl (by decide +kernel)) (q3 (by omega) (gm_uM (gm_uM M 226 0 0) 226 0 1) (fr_p (fr_p fr_0 (Or.inr (by decide))) (Or.inr (by decide))) uM_at)
      · show gm_Wp X LX d _ _ 317 24 _ [gm_vi 0, gm_vr 226] n K _ _ Q
        have n21 : 0 ≤ l ∧ l < N 0 := n21
        refine fw_iftd (cc := .eq) (pc := 24) (off := 7) (by decide +kernel) (by decide) ⟨by decide, by decide⟩ (by decide) ?_
        refine gm_sz (gm_p_const (pc := 31) (i := .iconst 0) (v := gm_vi 0) (by decide +kernel) (by decide +kernel)) ?_
        refine gm_sz (gm_p_const (pc := 32) (i := .iconst 1) (v := gm_vi 1) (by decide +kernel) (by decide +kernel)) ?_
        refine gm_c_virt (k := 226) (ci := 11) (mj := 282) (ix := 300) (pc := 33) (as := [gm_vi 0, gm_vi 1]) (st := []) (d' := d - 1) (bc' := 0) (bs' := 0) (by decide +kernel) (by decide +kernel) (by decide +kernel) (by decide +kernel) (e0k hE (k := 226) (c := 11) (by decide +kernel)).1 (e0k hE (k := 226) (c := 11) (by decide +kernel)).2 (by decide) (by decide +kernel) (show 2 = gm_na 282 by decide +kernel) (fw_c2 fw_si fw_si) (show 3 ≤ gm_ml 282 by decide +kernel) (Nat.le_of_ble_eq_true rfl) (by omega) (Nat.zero_le _) (Nat.zero_le _) ?_
        refine tf_0 hE ?_
        show gm_Wp X LX d _ _ 317 36 _ [gm_vi 0] n K _ _ Q
        refine fw_iftd (cc := .eq) (pc := 36) (off := 5) (by decide +kernel) (by decide) ⟨by decide, by decide⟩ (by decide) ?_
        refine gm_sz (gm_p_load (pc := 41) (i := .aload_n 0) (sr := 2) (j := 0) (by decide +kernel) rfl rfl rfl) ?_
        refine gm_c_virt (k := 226) (ci := 11) (mj := 316) (ix := 411) (pc := 42) (as := []) (st := []) (d' := d - 1) (bc' := 0) (bs' := 0) (by decide +kernel) (by decide +kernel) (by decide +kernel) (by decide +kernel) (e0k hE (k := 226) (c := 11) (by decide +kernel)).1 (e0k hE (k := 226) (c := 11) (by decide +kernel)).2 (by decide) (by decide +kernel) (show 0 = gm_na 316 by decide +kernel) fw_c0 (show 1 ≤ gm_ml 316 by decide +kernel) (Nat.le_of_ble_eq_true rfl) (by omega) (Nat.zero_le _) (Nat.zero_le _) ?_
        refine rm_c316 hE (tr_fr (W := [(226, some 0)]) hT (fr_p fr_0 (Or.inr (by decide))) (by decide)).1 (by have h9 : HISR A (M 227 8) (gm_uM M 226 0 0) := hisr_w (W := [(226, some 0)]) hH (fr_p fr_0 (Or.inr (by decide))) (by decide); rwa [show M 227 8 = (gm_uM M 226 0 0) 227 8 from ((uM_ne (by omega))).symm] at h9) (fun M42 hf42 hs42 => ?_)
        show gm_Wp X LX d _ _ 317 45 _ [] n K _ _ Q
        refine gm_sz (gm_p_load (pc := 45) (i := .aload_n 0) (sr := 2) (j := 0) (by decide +kernel) rfl rfl rfl) ?_
        refine gm_sz (gm_p_load (pc := 46) (i := .iload_n 1) (sr := 0) (j := 1) (by decide +kernel) rfl rfl rfl) ?_
        refine gm_sz (gm_p_const (pc := 47) (i := .iconst 2) (v := gm_vi 2) (by decide +kernel) (by decide +kernel)) ?_
        refine gm_c_virt (k := 226) (ci := 11) (mj := 299) (ix := 396) (pc := 48) (as := [gm_vi p, gm_vi 2]) (st := []) (d' := d - 1) (bc' := 0) (bs' := 0) (by decide +kernel) (by decide +kernel) (by decide +kernel) (by decide +kernel) (e0k hE (k := 226) (c := 11) (by decide +kernel)).1 (e0k hE (k := 226) (c := 11) (by decide +kernel)).2 (by decide) (by decide +kernel) (show 2 = gm_na 299 by decide +kernel) (fw_c2 fw_si fw_si) (show 3 ≤ gm_ml 299 by decide +kernel) (Nat.le_of_ble_eq_true rfl) (by omega) (Nat.zero_le _) (Nat.zero_le _) ?_
        refine re_of hE (tr_fr (W := [(226, some 0), (226, some 6), (230, none)]) hT (fr_t (fr_p fr_0 (Or.inr (by decide))) hf42 (by decide)) (by decide)) hN ⟨by omega, by omega⟩ ⟨by omega, by omega⟩ ?_
        show gm_Wp X LX d _ _ 317 51 _ [gm_vi (N (95 + (p * 3 + 2)))] n K _ _ Q
        refine gm_sz (gm_p_stor (pc := 51) (i := .istore_n 3) (sr := 0) (j := 3) (by decide +kernel) rfl (show 4 ≤ _ from Nat.le_of_ble_eq_true rfl) rfl) ?_
        refine gm_sz (gm_p_load (pc := 52) (i := .aload_n 0) (sr := 2) (j := 0) (by decide +kernel) rfl rfl rfl) ?_
        refine gm_sz (fw_gr (pc := 53) (ix := 13) (ci := 11) (j := 1) (r := 227) (by decide +kernel) (e0k hE (k := 226) (c := 11) (by decide +kernel)) (by decide +kernel) (by decide +kernel) (e0r hE (k := 226) (j := 1) (r := 227) (by decide +kernel))) ?_
        refine gm_sz (gm_p_const (pc := 56) (i := .bipush 95) (v := gm_vi 95) (by decide +kernel) (by decide +kernel)) ?_
        refine gm_sz (gm_p_const (pc := 58) (i := .iconst 3) (v := gm_vi 3) (by decide +kernel) (by decide +kernel)) ?_
        refine gm_sz (gm_p_load (pc := 59) (i := .iload_n 1) (sr := 0) (j := 1) (by decide +kernel) rfl rfl rfl) ?_
        refine gm_sz (gm_p_bin (pc := 60) (i := .imul) (f := fun x y => x * y) (by decide +kernel) rfl) ?_
        refine gm_sz (gm_p_bin (pc := 61) (i := .iadd) (f := fun x y => x + y) (by decide +kernel) rfl) ?_
        refine gm_sz (gm_p_const (pc := 62) (i := .iconst 2) (v := gm_vi 2) (by decide +kernel) (by decide +kernel)) ?_
        refine gm_sz (gm_p_bin (pc := 63) (i := .iadd) (f := fun x y => x + y) (by decide +kernel) rfl) ?_
        refine gm_sz (gm_p_load (pc := 64) (i := .iload_n 2) (sr := 0) (j := 2) (by decide +kernel) rfl rfl rfl) ?_
        refine gm_sz (fw_is (pc := 65) (k := 227) (len := 2093) (e0 := (95 + (3 * p)) + 2) (x := l) (M' := gm_uM M42 227 ((95 + (3 * p)) + 2) l) (by decide +kernel) (e0a hE (k := 227) (q := (0, 2093)) (by decide +kernel)).1 (e0a hE (k := 227) (q := (0, 2093)) (by decide +kernel)).2 (by decide) ⟨by omega, by omega⟩ rfl) ?_
        refine gm_sz (gm_p_load (pc := 66) (i := .iload_n 3) (sr := 0) (j := 3) (by decide +kernel) rfl rfl rfl) ?_
        have t9 := (tr_fr (W := [(226, some 0), (226, some 6), (230, none)]) hT (fr_t (fr_p fr_0 (Or.inr (by decide))) hf42 (by decide)) (by decide))
        have w9 : ws ((gm_uM M42 227 ((95 + (3 * p)) + 2) l) 227) = nwat N p l := by
          have e1 : (gm_uM M42 227 ((95 + (3 * p)) + 2) l) 227 = nup (M42 227) ((95 + (3 * p)) + 2) l := nup_s rfl
          rw [e1, ws_put (k := (95 + (3 * p)) + 2) ⟨by omega, by omega, by omega⟩, t9.1]
          unfold nwat
          rw [show (95 + (3 * p)) + 2 = 95 + (p * 3 + 2) by omega]
        have h9 := hisr_w (W := [(227, none)]) hs42 (show fr [(227, none)] M42 (gm_uM M42 227 ((95 + (3 * p)) + 2) l) from fr_p fr_0 (Or.inl (by decide))) (by decide)
        rw [show gm_uM M 226 0 0 227 8 = M 227 8 from uM_ne (by omega)] at h9
        exact gm_r_int (pc := 67) (by decide +kernel) (Or.inl (by decide +kernel)) (hq (by omega) (by omega) (gm_uM M42 227 ((95 + (3 * p)) + 2) l) (fr_p (fr_t (fr_p fr_0 (Or.inr (by decide))) hf42 (by decide)) (Or.inl (by decide))) h9 w9 (fun j hj => (uM_ne (by omega)).trans ((fr_c hf42 (by decide)).trans (uM_ne (by omega)))) ((uM_ne (by omega)).trans ((fr_c hf42 (by decide)).trans (uM_ne (by omega)))) ((uM_ne (by omega)).trans ((fr_j hf42 (by decide)).trans uM_at)))
theorem re_ol9 (hE : E0 n K R) (h1 : 0 ≤ l ∧ l < 24) (h2 : 0 ≤ c ∧ c < 7) (hv : M 227 (119 + (7 * l) + c) = v) (hq : Q (.inl (some (gm_vi v))) n K R M) : gm_Wp X LX d bc bs 301 0 (gm_ent 301 [gm_vr 226, gm_vi l, gm_vi c]) [] n K R M Q := by
  refine gm_sz (gm_p_load (pc := 0) (i := .aload_n 0) (sr := 2) (j := 0) (by decide +kernel) rfl rfl rfl) ?_
  refine gm_sz (fw_gr (pc := 1) (ix := 13) (ci := 11) (j := 1) (r := 227) (by decide +kernel) (e0k hE (k := 226) (c := 11) (by decide +kernel)) (by decide +kernel) (by decide +kernel) (e0r hE (k := 226) (j := 1) (r := 227) (by decide +kernel))) ?_
  refine gm_sz (gm_p_const (pc := 4) (i := .bipush 119) (v := gm_vi 119) (by decide +kernel) (by decide +kernel)) ?_
  refine gm_sz (gm_p_const (pc := 6) (i := .bipush 7) (v := gm_vi 7) (by decide +kernel) (by decide +kernel)) ?_
  refine gm_sz (gm_p_load (pc := 8) (i := .iload_n 1) (sr := 0) (j := 1) (by decide +kernel) rfl rfl rfl) ?_
  refine gm_sz (gm_p_bin (pc := 9) (i := .imul) (f := fun x y => x * y) (by decide +kernel) rfl) ?_
  refine gm_sz (gm_p_bin (pc := 10) (i := .iadd) (f := fun x y => x + y) (by decide +kernel) rfl) ?_
  refine gm_sz (gm_p_load (pc := 11) (i := .iload_n 2) (sr := 0) (j := 2) (by decide +kernel) rfl rfl rfl) ?_
  refine gm_sz (gm_p_bin (pc := 12) (i := .iadd) (f := fun x y => x + y) (by decide +kernel) rfl) ?_
  refine gm_sz (fw_ia (pc := 13) (k := 227) (len := 2093) (e0 := (119 + (7 * l)) + c) (x := v) (by decide +kernel) (e0a hE (k := 227) (q := (0, 2093)) (by decide +kernel)).1 (e0a hE (k := 227) (q := (0, 2093)) (by decide +kernel)).2 (by decide) ⟨by omega, by omega⟩ hv) ?_
  exact gm_r_int (pc := 14) (by decide +kernel) (Or.inl (by decide +kernel)) hq
theorem nopn_9 {M2 : gm_M} (h9 : ws (M2 227) = nopn N l p) (hN : NR N) (hg : LOGI N) (hl : 0 ≤ l ∧ l < N 4) (h5 : (N (119 + (l * 7 + 5))) = -1) : M2 227 9 = N 9 := by
  have e1 : M2 227 9 = ws (M2 227) 9 := rfl
  have b4 := hN.2.1.2.2.2.1
  rw [e1, h9]
  exact nopn_o (by decide) (by decide) ⟨hl.1, by omega⟩ (logi_lt hN hg hl h5)
theorem nopn_y {M2 : gm_M} (h9 : ws (M2 227) = nopn N l p) (hN : NR N) (hg : LOGI N) (hl : 0 ≤ l ∧ l < N 4) (h5 : (N (119 + (l * 7 + 5))) = -1) {j : Int} (hj : j = 119 + (l * 7 + 3)) : M2 227 j = (N (119 + (l * 7 + 3))) := by
  have b4 := hN.2.1.2.2.2.1
  have e1 : M2 227 j = ws (M2 227) j := by
    unfold ws
    rw [if_pos ⟨by omega, by omega, by omega⟩]
  rw [e1, h9, hj]
  have h := nopn_L (N := N) (l := l) (p := p) (k := l) (c := 3) ⟨hl.1, by omega⟩ (logi_lt hN hg hl h5) ⟨hl.1, by omega⟩ (by decide)
  rw [if_neg (by omega), if_neg (by omega)] at h
  exact h
theorem ra_318 (hd : 20 ≤ d) (hE : E0 n K R) (hT : TR N h M) (hN : NR N) (hg : LOGI N) (hH : HISR A (M 227 8) M) (hfw : FLR X LX n K R N h FI φ) (hI : FI M) (hl : gm_ir l) (ho : 0 ≤ l ∧ l < N 4 → OUTR N h φ l (o l) (dd l)) (q3 : ¬ (0 ≤ l ∧ l < N 4) → ∀ M2, fr [(226, some 0)] M M2 → M2 226 0 = 1 → Q (.inl (some (gm_vi 0))) n K R M2) (q2 : 0 ≤ l ∧ l < N 4 → ¬ WTS N l (o l) → ∀ M2, fr [(226, some 0), (226, some 29), (226, some 30), (226, some 26), (226, some 17), (226, some 18), (226, some 19), (226, some 20), (226, some 21), (226, some 22), (226, some 23), (235, none), (233, none), (236, none), (237, none)] M M2 → FI M2 → M2 226 0 = 2 → Q (.inl (some (gm_vi 0))) n K R M2) (hq : 0 ≤ l ∧ l < N 4 → WTS N l (o l) → ∀ M1 M2 : gm_M, FI M1 → fr [(226, some 6), (230, none), (227, none)] M1 M2 → fr [(226, some 0), (226, some 29), (226, some 30), (226, some 26), (226, some 17), (226, some 18), (226, some 19), (226, some 20), (226, some 21), (226, some 22), (226, some 23), (235, none), (233, none), (236, none), (237, none), (226, some 6), (230, none), (227, none)] M M2 → HISR ((N :: A).take 12) (M 227 8) M2 → ws (M2 227) = nopn N l ((N (119 + (l * 7 + 1)))) → (∀ j, 395 ≤ j → M2 227 j = M 227 j) → M2 227 8 = M 227 8 → M2 226 0 = 0 → Q (.inl (some (gm_vi (N 9 - (N (119 + (l * 7 + 3))))))) n K R M2) : gm_Wp X LX d bc bs 318 0 (gm_ent 318 [gm_vr 226, gm_vi l]) [] n K R M Q := by
  obtain ⟨⟨⟨a0, b0⟩, ⟨a1, b1⟩, ⟨a10, b10⟩, ⟨a11, b11⟩, ⟨a12, b12⟩, a9, b9⟩, ⟨⟨a2, b2⟩, ⟨a5, b5⟩, ⟨a3, b3⟩, ⟨a4, b4⟩, ⟨a6, b6⟩, ⟨a14, b14⟩, ⟨a7, b7⟩, a13, b13⟩, rF, rP, rL⟩ := id hN
  refine gm_sz (gm_p_load (pc := 0) (i := .aload_n 0) (sr := 2) (j := 0) (by decide +kernel) rfl rfl rfl) ?_
  refine gm_sz (gm_p_const (pc := 1) (i := .iconst 0) (v := gm_vi 0) (by decide +kernel) (by decide +kernel)) ?_
  refine gm_sz (fw_pi (pc := 2) (ix := 3) (ci := 11) (j := 0) (M' := gm_uM M 226 0 0) (by decide +kernel) (e0k hE (k := 226) (c := 11) (by decide +kernel)) (by decide +kernel) (by decide +kernel) (by decide +kernel) rfl) ?_
  refine gm_sz (gm_p_load (pc := 5) (i := .aload_n 0) (sr := 2) (j := 0) (by decide +kernel) rfl rfl rfl) ?_
  refine gm_sz (gm_p_load (pc := 6) (i := .aload_n 0) (sr := 2) (j := 0) (by decide +kernel) rfl rfl rfl) ?_
  refine gm_sz (gm_p_load (pc := 7) (i := .iload_n 1) (sr := 0) (j := 1) (by decide +kernel) rfl rfl rfl) ?_
  refine gm_c_virt (k := 226) (ci := 11) (mj := 309) (ix := 405) (pc := 8) (as := [gm_vi l]) (st := [gm_vr 226]) (d' := d - 1) (bc' := 0) (bs' := 0) (by decide +kernel) (by decide +kernel) (by decide +kernel) (by decide +kernel) (e0k hE (k := 226) (c := 11) (by decide +kernel)).1 (e0k hE (k := 226) (c := 11) (by decide +kernel)).2 (by decide) (by decide +kernel) (show 1 = gm_na 309 by decide +kernel) (fw_c1 fw_si) (show 2 ≤ gm_ml 309 by decide +kernel) (Nat.le_of_ble_eq_true rfl) (by omega) (Nat.zero_le _) (Nat.zero_le _) ?_
  refine no_309 (i := l) (by omega) hE (tr_fr (W := [(226, some 0)]) hT (fr_p fr_0 (Or.inr (by decide))) (by decide)) hN hl (fun n8 => ?_) (fun n8 => ?_)
  · show gm_Wp X LX d _ _ 318 11 _ [gm_vi 1, gm_vr 226] n K _ _ Q
    have n8 : ¬ (0 ≤ l ∧ l < N 4) := n8
    refine gm_sz (gm_p_const (pc := 11) (i := .iconst 1) (v := gm_vi 1) (by decide +kernel) (by decide +kernel)) ?_
    refine gm_c_virt (k := 226) (ci := 11) (mj := 282) (ix := 300) (pc := 12) (as := [gm_vi 1, gm_vi 1]) (st := []) (d' := d - 1) (bc' := 0) (bs' := 0) (by decide +kernel) (by decide +kernel) (by decide +kernel) (by decide +kernel) (e0k hE (k := 226) (c := 11) (by decide +kernel)).1 (e0k hE (k := 226) (c := 11) (by decide +kernel)).2 (by decide) (by decide +kernel) (show 2 = gm_na 282 by decide +kernel) (fw_c2 fw_si fw_si) (show 3 ≤ gm_ml 282 by decide +kernel) (Nat.le_of_ble_eq_true rfl) (by omega) (Nat.zero_le _) (Nat.zero_le _) ?_
    refine tf_1 hE ?_
    show gm_Wp X LX d _ _ 318 15 _ [gm_vi 1] n K _ _ Q
    refine fw_iftd (cc := .ne) (pc := 15) (off := 24) (by decide +kernel) (by decide) ⟨by decide, by decide⟩ (by decide) ?_
    refine gm_sz (gm_p_const (pc := 39) (i := .iconst 0) (v := gm_vi 0) (by decide +kernel) (by decide +kernel)) ?_
    exact gm_r_int (pc := 40) (by decide +kernel) (Or.inl (by decide +kernel)) (q3 (by omega) (gm_uM (gm_uM M 226 0 0) 226 0 1) (fr_p (fr_p fr_0 (Or.inr (by decide))) (Or.inr (by decide))) uM_at)
  · show gm_Wp X LX d _ _ 318 11 _ [gm_vi 0, gm_vr 226] n K _ _ Q
    have n8 : 0 ≤ l ∧ l < N 4 := n8
    refine gm_sz (gm_p_const (pc := 11) (i := .iconst 1) (v := gm_vi 1) (by decide +kernel) (by decide +kernel)) ?_
    refine gm_c_virt (k := 226) (ci := 11) (mj := 282) (ix := 300) (pc := 12) (as := [gm_vi 0, gm_vi 1]) (st := []) (d' := d - 1) (bc' := 0) (bs' := 0) (by decide +kernel) (by decide +kernel) (by decide +kernel) (by decide +kernel) (e0k hE (k := 226) (c := 11) (by decide +kernel)).1 (e0k hE (k := 226) (c := 11) (by decide +kernel)).2 (by decide) (by decide +kernel) (show 2 = gm_na 282 by decide +kernel) (fw_c2 fw_si fw_si) (show 3 ≤ gm_ml 282 by decide +kernel) (Nat.le_of_ble_eq_true rfl) (by omega) (Nat.zero_le _) (Nat.zero_le _) ?_
    refine tf_0 hE ?_
    show gm_Wp X LX d _ _ 318 15 _ [gm_vi 0] n K _ _ Q
    refine fw_iffd (cc := .ne) (pc := 15) (off := 24) (by decide +kernel) (by decide) ⟨by decide, by decide⟩ (by decide) ?_
    refine gm_sz (gm_p_load (pc := 18) (i := .aload_n 0) (sr := 2) (j := 0) (by decide +kernel) rfl rfl rfl) ?_
    refine gm_sz (gm_p_load (pc := 19) (i := .aload_n 0) (sr := 2) (j := 0) (by decide +kernel) rfl rfl rfl) ?_
    refine gm_sz (gm_p_load (pc := 20) (i := .iload_n 1) (sr := 0) (j := 1) (by decide +kernel) rfl rfl rfl) ?_
    refine gm_c_virt (k := 226) (ci := 11) (mj := 302) (ix := 390) (pc := 21) (as := [gm_vi l]) (st := [gm_vr 226]) (d' := d - 1) (bc' := 0) (bs' := 0) (by decide +kernel) (by decide +kernel) (by decide +kernel) (by decide +kernel) (e0k hE (k := 226) (c := 11) (by decide +kernel)).1 (e0k hE (k := 226) (c := 11) (by decide +kernel)).2 (by decide) (by decide +kernel) (show 1 = gm_na 302 by decide +kernel) (fw_c1 fw_si) (show 2 ≤ gm_ml 302 by decide +kernel) (Nat.le_of_ble_eq_true rfl) (by omega) (Nat.zero_le _) (Nat.zero_le _) ?_
    refine rw_c302 (o := o) (dd := dd) (by omega) hE (tr_fr (W := [(226, some 0)]) hT (fr_p fr_0 (Or.inr (by decide))) (by decide)) hN hfw (hfw.2.1 [(226, some 0)] _ _ (by decide) (fr_p fr_0 (Or.inr (by decide))) hI) n8 (ho n8) (fun v21 M21 hf21 hI21 e29 e37 => ?_) (fun v21 M21 hf21 hI21 => ?_)
    · show gm_Wp X LX d _ _ 318 24 _ [gm_vi 1, gm_vr 226] n K _ _ Q
      refine fw_iftd (cc := .ne) (pc := 24) (off := 7) (by decide +kernel) (by decide) ⟨by decide, by decide⟩ (by decide) ?_
      refine gm_sz (gm_p_const (pc := 31) (i := .iconst 0) (v := gm_vi 0) (by decide +kernel) (by decide +kernel)) ?_
      refine gm_sz (gm_p_const (pc := 32) (i := .iconst 2) (v := gm_vi 2) (by decide +kernel) (by decide +kernel)) ?_
      refine gm_c_virt (k := 226) (ci := 11) (mj := 282) (ix := 300) (pc := 33) (as := [gm_vi 0, gm_vi 2]) (st := []) (d' := d - 1) (bc' := 0) (bs' := 0) (by decide +kernel) (by decide +kernel) (by decide +kernel) (by decide +kernel) (e0k hE (k := 226) (c := 11) (by decide +kernel)).1 (e0k hE (k := 226) (c := 11) (by decide +kernel)).2 (by decide) (by decide +kernel) (show 2 = gm_na 282 by decide +kernel) (fw_c2 fw_si fw_si) (show 3 ≤ gm_ml 282 by decide +kernel) (Nat.le_of_ble_eq_true rfl) (by omega) (Nat.zero_le _) (Nat.zero_le _) ?_
      refine tf_0 hE ?_
      show gm_Wp X LX d _ _ 318 36 _ [gm_vi 0] n K _ _ Q
      refine fw_iftd (cc := .eq) (pc := 36) (off := 5) (by decide +kernel) (by decide) ⟨by decide, by decide⟩ (by decide) ?_
      refine gm_sz (gm_p_load (pc := 41) (i := .aload_n 0) (sr := 2) (j := 0) (by decide +kernel) rfl rfl rfl) ?_
      refine gm_c_virt (k := 226) (ci := 11) (mj := 316) (ix := 411) (pc := 42) (as := []) (st := []) (d' := d - 1) (bc' := 0) (bs' := 0) (by decide +kernel) (by decide +kernel) (by decide +kernel) (by decide +kernel) (e0k hE (k := 226) (c := 11) (by decide +kernel)).1 (e0k hE (k := 226) (c := 11) (by decide +kernel)).2 (by decide) (by decide +kernel) (show 0 = gm_na 316 by decide +kernel) fw_c0 (show 1 ≤ gm_ml 316 by decide +kernel) (Nat.le_of_ble_eq_true rfl) (by omega) (Nat.zero_le _) (Nat.zero_le _) ?_
      refine rm_c316 hE (tr_fr (W := [(226, some 0), (226, some 29), (226, some 30), (226, some 26), (226, some 17), (226, some 18), (226, some 19), (226, some 20), (226, some 21), (226, some 22), (226, some 23), (235, none), (233, none), (236, none), (237, none)]) hT (fr_t (fr_p fr_0 (Or.inr (by decide))) hf21 (by decide)) (by decide)).1 (by have h9 : HISR A (M 227 8) M21 := hisr_w (W := [(226, some 0), (226, some 29), (226, some 30), (226, some 26), (226, some 17), (226, some 18), (226, some 19), (226, some 20), (226, some 21), (226, some 22), (226, some 23), (235, none), (233, none), (236, none), (237, none)]) hH (fr_t (fr_p fr_0 (Or.inr (by decide))) hf21 (by decide)) (by decide); rwa [show M 227 8 = M21 227 8 from (((fr_c hf21 (by decide)).trans (uM_ne (by omega)))).symm] at h9) (fun M42 hf42 hs42 => ?_)
      show gm_Wp X LX d _ _ 318 45 _ [] n K _ _ Q
      refine gm_sz (gm_p_load (pc := 45) (i := .aload_n 0) (sr := 2) (j := 0) (by decide +kernel) rfl rfl rfl) ?_
      refine gm_sz (gm_p_load (pc := 46) (i := .iload_n 1) (sr := 0) (j := 1) (by decide +kernel) rfl rfl rfl) ?_
      refine gm_sz (gm_p_load (pc := 47) (i := .aload_n 0) (sr := 2) (j := 0) (by decide +kernel) rfl rfl rfl) ?_
      refine gm_sz (gm_p_load (pc := 48) (i := .iload_n 1) (sr := 0) (j := 1) (by decide +kernel) rfl rfl rfl) ?_
      refine gm_sz (gm_p_const (pc := 49) (i := .iconst 1) (v := gm_vi 1) (by decide +kernel) (by decide +kernel)) ?_
      refine gm_c_virt (k := 226) (ci := 11) (mj := 301) (ix := 82) (pc := 50) (as := [gm_vi l, gm_vi 1]) (st := [gm_vi l, gm_vr 226]) (d' := d - 1) (bc' := 0) (bs' := 0) (by decide +kernel) (by decide +kernel) (by decide +kernel) (by decide +kernel) (e0k hE (k := 226) (c := 11) (by decide +kernel)).1 (e0k hE (k := 226) (c := 11) (by decide +kernel)).2 (by decide) (by decide +kernel) (show 2 = gm_na 301 by decide +kernel) (fw_c2 fw_si fw_si) (show 3 ≤ gm_ml 301 by decide +kernel) (Nat.le_of_ble_eq_true rfl) (by omega) (Nat.zero_le _) (Nat.zero_le _) ?_
      refine re_ol hE (tr_fr (W := [(226, some 0), (226, some 29), (226, some 30), (226, some 26), (226, some 17), (226, some 18), (226, some 19), (226, some 20), (226, some 21), (226, some 22), (226, some 23), (235, none), (233, none), (236, none), (237, none), (226, some 6), (230, none)]) hT (fr_t (fr_t (fr_p fr_0 (Or.inr (by decide))) hf21 (by decide)) hf42 (by decide)) (by decide)) hN ⟨by omega, by omega⟩ ⟨by omega, by omega⟩ ?_
      show gm_Wp X LX d _ _ 318 53 _ [gm_vi (N (119 + (l * 7 + 1))), gm_vi l, gm_vr 226] n K _ _ Q
      refine gm_c_virt (k := 226) (ci := 11) (mj := 319) (ix := 414) (pc := 53) (as := [gm_vi l, gm_vi (N (119 + (l * 7 + 1)))]) (st := []) (d' := d - 1) (bc' := 0) (bs' := 0) (by decide +kernel) (by decide +kernel) (by decide +kernel) (by decide +kernel) (e0k hE (k := 226) (c := 11) (by decide +kernel)).1 (e0k hE (k := 226) (c := 11) (by decide +kernel)).2 (by decide) (by decide +kernel) (show 2 = gm_na 319 by decide +kernel) (fw_c2 fw_si fw_si) (show 3 ≤ gm_ml 319 by decide +kernel) (Nat.le_of_ble_eq_true rfl) (by omega) (Nat.zero_le _) (Nat.zero_le _) ?_
      refine re_op (by omega) hE (tr_fr (W := [(226, some 0), (226, some 29), (226, some 30), (226, some 26), (226, some 17), (226, some 18), (226, some 19), (226, some 20), (226, some 21), (226, some 22), (226, some 23), (235, none), (233, none), (236, none), (237, none), (226, some 6), (230, none)]) hT (fr_t (fr_t (fr_p fr_0 (Or.inr (by decide))) hf21 (by decide)) hf42 (by decide)) (by decide)) hN ⟨by omega, by omega⟩ (logi_lt hN hg n8 v21.2.1) (fun M53 hf53 hw53 hg53 h853 => ?_)
      show gm_Wp X LX d _ _ 318 56 _ [] n K _ _ Q
      refine gm_sz (gm_p_load (pc := 56) (i := .aload_n 0) (sr := 2) (j := 0) (by decide +kernel) rfl rfl rfl) ?_
      refine gm_c_virt (k := 226) (ci := 11) (mj := 266) (ix := 162) (pc := 57) (as := []) (st := []) (d' := d - 1) (bc' := 0) (bs' := 0) (by decide +kernel) (by decide +kernel) (by decide +kernel) (by decide +kernel) (e0k hE (k := 226) (c := 11) (by decide +kernel)).1 (e0k hE (k := 226) (c := 11) (by decide +kernel)).2 (by decide) (by decide +kernel) (show 0 = gm_na 266 by decide +kernel) fw_c0 (show 1 ≤ gm_ml 266 by decide +kernel) (Nat.le_of_ble_eq_true rfl) (by omega) (Nat.zero_le _) (Nat.zero_le _) ?_
      refine re_now9 hE (nopn_9 hw53 hN hg n8 v21.2.1) ?_
      show gm_Wp X LX d _ _ 318 60 _ [gm_vi (N 9)] n K _ _ Q
      refine gm_sz (gm_p_load (pc := 60) (i := .aload_n 0) (sr := 2) (j := 0) (by decide +kernel) rfl rfl rfl) ?_
      refine gm_sz (gm_p_load (pc := 61) (i := .iload_n 1) (sr := 0) (j := 1) (by decide +kernel) rfl rfl rfl) ?_
      refine gm_sz (gm_p_const (pc := 62) (i := .iconst 3) (v := gm_vi 3) (by decide +kernel) (by decide +kernel)) ?_
      refine gm_c_virt (k := 226) (ci := 11) (mj := 301) (ix := 82) (pc := 63) (as := [gm_vi l, gm_vi 3]) (st := [gm_vi (N 9)]) (d' := d - 1) (bc' := 0) (bs' := 0) (by decide +kernel) (by decide +kernel) (by decide +kernel) (by decide +kernel) (e0k hE (k := 226) (c := 11) (by decide +kernel)).1 (e0k hE (k := 226) (c := 11) (by decide +kernel)).2 (by decide) (by decide +kernel) (show 2 = gm_na 301 by decide +kernel) (fw_c2 fw_si fw_si) (show 3 ≤ gm_ml 301 by decide +kernel) (Nat.le_of_ble_eq_true rfl) (by omega) (Nat.zero_le _) (Nat.zero_le _) ?_
      refine re_ol9 hE ⟨by omega, by omega⟩ ⟨by omega, by omega⟩ (nopn_y hw53 hN hg n8 v21.2.1 (by omega)) ?_
      show gm_Wp X LX d _ _ 318 66 _ [gm_vi ((N (119 + (l * 7 + 3)))), gm_vi (N 9)] n K _ _ Q
      refine gm_sz (gm_p_bin (pc := 66) (i := .isub) (f := fun x y => x - y) (by decide +kernel) rfl) ?_
      have h9 := hisr_w (W := [(227, none)]) hs42 hf53 (by decide)
      rw [show M21 227 8 = M 227 8 from (fr_c hf21 (by decide)).trans (uM_ne (by omega))] at h9
      exact gm_r_int (pc := 67) (by decide +kernel) (Or.inl (by decide +kernel)) (hq n8 v21 M21 M53 hI21 (fr_t (fr_t fr_0 hf42 (by decide)) hf53 (by decide)) (fr_t (fr_t (fr_t (fr_p fr_0 (Or.inr (by decide))) hf21 (by decide)) hf42 (by decide)) hf53 (by decide)) h9 hw53 (fun j hj => (hg53 j hj).trans ((fr_c hf42 (by decide)).trans ((fr_c hf21 (by decide)).trans (uM_ne (by omega))))) (h853.trans ((fr_c hf42 (by decide)).trans ((fr_c hf21 (by decide)).trans (uM_ne (by omega))))) ((fr_c hf53 (by decide)).trans ((fr_j hf42 (by decide)).trans ((fr_j hf21 (by decide)).trans uM_at))))
    · show gm_Wp X LX d _ _ 318 24 _ [gm_vi 0, gm_vr 226] n K _ _ Q
      refine fw_iffd (cc := .ne) (pc := 24) (off := 7) (by decide +kernel) (by decide) ⟨by decide, by decide⟩ (by decide) ?_
      refine gm_sz (gm_p_const (pc := 27) (i := .iconst 1) (v := gm_vi 1) (by decide +kernel) (by decide +kernel)) ?_
      refine gm_sz (gm_p_goto (pc := 28) (off := 4) (by decide +kernel) (by decide)) ?_
      refine gm_sz (gm_p_const (pc := 32) (i := .iconst 2) (v := gm_vi 2) (by decide +kernel) (by decide +kernel)) ?_
      refine gm_c_virt (k := 226) (ci := 11) (mj := 282) (ix := 300) (pc := 33) (as := [gm_vi 1, gm_vi 2]) (st := []) (d' := d - 1) (bc' := 0) (bs' := 0) (by decide +kernel) (by decide +kernel) (by decide +kernel) (by decide +kernel) (e0k hE (k := 226) (c := 11) (by decide +kernel)).1 (e0k hE (k := 226) (c := 11) (by decide +kernel)).2 (by decide) (by decide +kernel) (show 2 = gm_na 282 by decide +kernel) (fw_c2 fw_si fw_si) (show 3 ≤ gm_ml 282 by decide +kernel) (Nat.le_of_ble_eq_true rfl) (by omega) (Nat.zero_le _) (Nat.zero_le _) ?_
      refine tf_1 hE ?_
      show gm_Wp X LX d _ _ 318 36 _ [gm_vi 1] n K _ _ Q
      refine fw_iffd (cc := .eq) (pc := 36) (off := 5) (by decide +kernel) (by decide) ⟨by decide, by decide⟩ (by decide) ?_
      refine gm_sz (gm_p_const (pc := 39) (i := .iconst 0) (v := gm_vi 0) (by decide +kernel) (by decide +kernel)) ?_
      exact gm_r_int (pc := 40) (by decide +kernel) (Or.inl (by decide +kernel)) (q2 n8 v21 (gm_uM M21 226 0 2) (fr_p (fr_t (fr_p fr_0 (Or.inr (by decide))) hf21 (by decide)) (Or.inr (by decide))) (hfw.2.1 [(226, some 0)] _ _ (by decide) (fr_p fr_0 (Or.inr (by decide))) hI21) uM_at)
end AC6
