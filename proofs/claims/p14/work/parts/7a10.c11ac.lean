/-! THE CLASS: remember, take back; the image (laid by wip/core/c11.py). -/
/-- a State copied: nothing else, but for the law's reference -/
def CPY (M M2 : gm_M) (b s : Nat) : Prop := (∀ (x : Nat) (j : Int), (x < b ∨ b + 12 < x) → M2 x j = M x j) ∧ (∀ (x : Nat) (j : Int), 0 ≤ j → j < 3 → ((x : Int) = b + 1 ∨ (x : Int) = b + 3 ∨ (x : Int) = b + 5 ∨ (x : Int) = b + 7 ∨ (x : Int) = b + 9 ∨ (x : Int) = b + 11) → M2 x j = M x j) ∧ cs M2 b = cs M s
section AC11
variable {X : Int → Int} {LX d bc bs n : Nat} {K : gm_K} {R : gm_R} {M : gm_M} {Q : gm_Q} {nx sz : Int} {b : Nat} {N : Int → Int}
theorem sz_cs (hN : NR N) (h : cs M b = N) : SZ M b := by
  have e2 : M (b + 1) 3 = N 2 := congrFun h 2
  have e5 : M (b + 3) 3 = N 5 := congrFun h 5
  have e3 : M (b + 5) 3 = N 3 := congrFun h 3
  have e4 : M (b + 7) 3 = N 4 := congrFun h 4
  have e6 : M (b + 9) 3 = N 6 := congrFun h 6
  have e14 : M (b + 11) 3 = N 14 := congrFun h 14
  unfold SZ
  rw [e2, e5, e3, e4, e6, e14]
  exact ⟨hN.2.1.1, hN.2.1.2.1, hN.2.1.2.2.1, hN.2.1.2.2.2.1, hN.2.1.2.2.2.2.1, hN.2.1.2.2.2.2.2.1⟩
theorem hi_rem (hd : 5 ≤ d) (hE : E0 n K R) (hC : CST M) (hnx : 0 ≤ nx ∧ nx < 12) (h1 : M 42 1 = nx) (h2 : M 42 2 = sz) (hsz : 0 ≤ sz ∧ sz ≤ 12) (hz : SZ M 3) (hq : ∀ M9, CPY M M9 (44 + 13 * nx.toNat) 3 → Q (.inl none) n K (gm_uR R (44 + 13 * nx.toNat) 8 (R 3 8)) (gm_uM (gm_uM M9 42 1 ((nx + 1) % 12)) 42 2 (min (sz + 1) 12))) : gm_Wp X LX d bc bs 154 0 (gm_ent 154 [gm_vr 42, gm_vr 3]) [] n K R M Q := by
  refine gm_sz (gm_p_load (pc := 0) (i := .aload_n 0) (sr := 2) (j := 0) (by decide +kernel) rfl rfl rfl) ?_
  refine gm_sz (gm_p_load (pc := 1) (i := .aload_n 0) (sr := 2) (j := 0) (by decide +kernel) rfl rfl rfl) ?_
  refine gm_sz (fw_gi (pc := 2) (ix := 17) (ci := 3) (j := 1) (x := nx) (by decide +kernel) (e0k hE (k := 42) (c := 3) (by decide +kernel)) (by decide +kernel) (by decide +kernel) h1) ?_
  refine gm_c_virt (k := 42) (ci := 3) (mj := 56) (ix := 25) (pc := 5) (as := [gm_vi nx]) (st := []) (d' := d - 1) (bc' := 0) (bs' := 0) (by decide +kernel) (by decide +kernel) (by decide +kernel) (by decide +kernel) (e0k hE (k := 42) (c := 3) (by decide +kernel)).1 (e0k hE (k := 42) (c := 3) (by decide +kernel)).2 (by decide) (by decide +kernel) (show 1 = gm_na 56 by decide +kernel) (fw_c1 fw_si) (show 2 ≤ gm_ml 56 by decide +kernel) (Nat.le_of_ble_eq_true rfl) (by omega) (Nat.zero_le _) (Nat.zero_le _) ?_
  refine hi_at hE hnx ?_
  show gm_Wp X LX d _ _ 154 8 _ [gm_vr (44 + 13 * nx.toNat)] n K _ _ Q
  refine gm_sz (gm_p_stor (pc := 8) (i := .astore_n 2) (sr := 2) (j := 2) (by decide +kernel) rfl (show 3 ≤ _ from Nat.le_of_ble_eq_true rfl) rfl) ?_
  refine gm_sz (gm_p_load (pc := 9) (i := .aload_n 2) (sr := 2) (j := 2) (by decide +kernel) rfl rfl rfl) ?_
  refine gm_b_nul (pc := 10) (off := 8) (k0 := 44 + 13 * nx.toNat) (by omega) (by decide +kernel) (by decide) (fun hz => absurd hz (by omega)) (fun _ => ?_)
  refine gm_sz (gm_p_load (pc := 13) (i := .aload_n 2) (sr := 2) (j := 2) (by decide +kernel) rfl rfl rfl) ?_
  refine gm_sz (gm_p_load (pc := 14) (i := .aload_n 1) (sr := 2) (j := 1) (by decide +kernel) rfl rfl rfl) ?_
  refine gm_c_virt (k := 44 + 13 * nx.toNat) (ci := 1) (mj := 57) (ix := 29) (pc := 15) (as := [gm_vr 3]) (st := []) (d' := d - 1) (bc' := 0) (bs' := 0) (by decide +kernel) (by decide +kernel) (by decide +kernel) (by decide +kernel) (ks_p hE hnx).1.1 (ks_p hE hnx).1.2 (by decide) (by decide +kernel) (show 1 = gm_na 57 by decide +kernel) (fw_c1 fw_sr) (show 2 ≤ gm_ml 57 by decide +kernel) (Nat.le_of_ble_eq_true rfl) (by omega) (Nat.zero_le _) (Nat.zero_le _) ?_
  refine st_copy (b := 44 + 13 * nx.toNat) (s := 3) (by omega) (ks_p hE hnx) (ks_3 hE) (by omega) (mx_p hC hnx) hz (fun M9 hx9 hy9 hc9 => ?_)
  show gm_Wp X LX d _ _ 154 18 _ [] n K _ _ Q
  refine gm_sz (gm_p_load (pc := 18) (i := .aload_n 0) (sr := 2) (j := 0) (by decide +kernel) rfl rfl rfl) ?_
  refine gm_sz (gm_p_load (pc := 19) (i := .aload_n 0) (sr := 2) (j := 0) (by decide +kernel) rfl rfl rfl) ?_
  refine gm_sz (fw_gi (pc := 20) (ix := 17) (ci := 3) (j := 1) (x := nx) (by decide +kernel) (e0k hE (k := 42) (c := 3) (by decide +kernel)) (by decide +kernel) (by decide +kernel) ((hx9 _ _ (by omega)).trans h1)) ?_
  refine gm_sz (gm_p_const (pc := 23) (i := .iconst 1) (v := gm_vi 1) (by decide +kernel) (by decide +kernel)) ?_
  refine gm_sz (gm_p_bin (pc := 24) (i := .iadd) (f := fun x y => x + y) (by decide +kernel) rfl) ?_
  refine gm_sz (gm_p_const (pc := 25) (i := .bipush 12) (v := gm_vi 12) (by decide +kernel) (by decide +kernel)) ?_
  refine gm_sz (gm_p_rem (pc := 27) (by decide +kernel) (by decide)) ?_
  rw [fw_rem (a := nx + 1) (b := 12) (by omega) (by omega) (by decide)]
  refine gm_sz (fw_pi (pc := 28) (ix := 17) (ci := 3) (j := 1) (M' := gm_uM M9 42 1 ((nx + 1) % 12)) (by decide +kernel) (e0k hE (k := 42) (c := 3) (by decide +kernel)) (by decide +kernel) (by decide +kernel) (by decide +kernel) rfl) ?_
  refine gm_sz (gm_p_load (pc := 31) (i := .aload_n 0) (sr := 2) (j := 0) (by decide +kernel) rfl rfl rfl) ?_
  refine gm_sz (gm_p_load (pc := 32) (i := .aload_n 0) (sr := 2) (j := 0) (by decide +kernel) rfl rfl rfl) ?_
  refine gm_sz (fw_gi (pc := 33) (ix := 21) (ci := 3) (j := 2) (x := sz) (by decide +kernel) (e0k hE (k := 42) (c := 3) (by decide +kernel)) (by decide +kernel) (by decide +kernel) ((uM_ne (by omega)).trans ((hx9 _ _ (by omega)).trans h2))) ?_
  refine gm_sz (gm_p_const (pc := 36) (i := .iconst 1) (v := gm_vi 1) (by decide +kernel) (by decide +kernel)) ?_
  refine gm_sz (gm_p_bin (pc := 37) (i := .iadd) (f := fun x y => x + y) (by decide +kernel) rfl) ?_
  refine gm_sz (gm_p_const (pc := 38) (i := .bipush 12) (v := gm_vi 12) (by decide +kernel) (by decide +kernel)) ?_
  refine gm_sz (gm_p_min (pc := 40) (ix := 33) (x := sz + 1) (y := 12) (by decide +kernel) (by decide +kernel) (gm_w_id (by omega) (by omega)) (gm_w_id (by omega) (by omega)) (Nat.le_of_ble_eq_true rfl) (by omega)) ?_
  refine gm_sz (fw_pi (pc := 43) (ix := 21) (ci := 3) (j := 2) (M' := gm_uM (gm_uM M9 42 1 ((nx + 1) % 12)) 42 2 (min (sz + 1) 12)) (by decide +kernel) (e0k hE (k := 42) (c := 3) (by decide +kernel)) (by decide +kernel) (by decide +kernel) (by decide +kernel) rfl) ?_
  exact gm_r_void (pc := 46) (by decide +kernel) (by decide +kernel) (hq M9 ⟨hx9, hy9, hc9⟩)
theorem hi_tb0 (hE : E0 n K R) (h2 : M 42 2 = 0) (hq : Q (.inl (some (gm_vi 0))) n K R M) : gm_Wp X LX d bc bs 55 0 (gm_ent 55 [gm_vr 42, gm_vr 3]) [] n K R M Q := by
  refine gm_sz (gm_p_load (pc := 0) (i := .aload_n 0) (sr := 2) (j := 0) (by decide +kernel) rfl rfl rfl) ?_
  refine gm_sz (fw_gi (pc := 1) (ix := 21) (ci := 3) (j := 2) (x := 0) (by decide +kernel) (e0k hE (k := 42) (c := 3) (by decide +kernel)) (by decide +kernel) (by decide +kernel) h2) ?_
  refine fw_iffd (cc := .ne) (pc := 4) (off := 5) (by decide +kernel) (by decide) ⟨by decide, by decide⟩ (by decide) ?_
  refine gm_sz (gm_p_const (pc := 7) (i := .iconst 0) (v := gm_vi 0) (by decide +kernel) (by decide +kernel)) ?_
  exact gm_r_int (pc := 8) (by decide +kernel) (Or.inr ⟨(by decide +kernel), Or.inl rfl⟩) hq
theorem hi_tb (hd : 5 ≤ d) (hE : E0 n K R) (hC : CST M) (hnx : 0 ≤ nx ∧ nx < 12) (h1 : M 42 1 = nx) (h2 : M 42 2 = sz) (hsz : 0 ≤ sz ∧ sz ≤ 12) (h0 : ¬ sz = 0) (hmx : MX M 3) (hz : SZ M (44 + 13 * (((nx + 12) - 1) % 12).toNat)) (hq : ∀ M9, CPY (gm_uM (gm_uM M 42 1 (((nx + 12) - 1) % 12)) 42 2 (sz - 1)) M9 3 (44 + 13 * (((nx + 12) - 1) % 12).toNat) → Q (.inl (some (gm_vi 1))) n K (gm_uR R 3 8 (R (44 + 13 * (((nx + 12) - 1) % 12).toNat) 8)) M9) : gm_Wp X LX d bc bs 55 0 (gm_ent 55 [gm_vr 42, gm_vr 3]) [] n K R M Q := by
  have hp9 : 0 ≤ ((nx + 12) - 1) % 12 ∧ ((nx + 12) - 1) % 12 < 12 := ⟨by omega, by omega⟩
  refine gm_sz (gm_p_load (pc := 0) (i := .aload_n 0) (sr := 2) (j := 0) (by decide +kernel) rfl rfl rfl) ?_
  refine gm_sz (fw_gi (pc := 1) (ix := 21) (ci := 3) (j := 2) (x := sz) (by decide +kernel) (e0k hE (k := 42) (c := 3) (by decide +kernel)) (by decide +kernel) (by decide +kernel) h2) ?_
  refine fw_ift (cc := .ne) (pc := 4) (off := 5) (by decide +kernel) (by decide) ⟨by omega, by omega⟩ (show ¬ sz = 0 by omega) ?_
  refine gm_sz (gm_p_load (pc := 9) (i := .aload_n 0) (sr := 2) (j := 0) (by decide +kernel) rfl rfl rfl) ?_
  refine gm_sz (gm_p_load (pc := 10) (i := .aload_n 0) (sr := 2) (j := 0) (by decide +kernel) rfl rfl rfl) ?_
  refine gm_sz (fw_gi (pc := 11) (ix := 17) (ci := 3) (j := 1) (x := nx) (by decide +kernel) (e0k hE (k := 42) (c := 3) (by decide +kernel)) (by decide +kernel) (by decide +kernel) h1) ?_
  refine gm_sz (gm_p_const (pc := 14) (i := .bipush 12) (v := gm_vi 12) (by decide +kernel) (by decide +kernel)) ?_
  refine gm_sz (gm_p_bin (pc := 16) (i := .iadd) (f := fun x y => x + y) (by decide +kernel) rfl) ?_
  refine gm_sz (gm_p_const (pc := 17) (i := .iconst 1) (v := gm_vi 1) (by decide +kernel) (by decide +kernel)) ?_
  refine gm_sz (gm_p_bin (pc := 18) (i := .isub) (f := fun x y => x - y) (by decide +kernel) rfl) ?_
  refine gm_sz (gm_p_const (pc := 19) (i := .bipush 12) (v := gm_vi 12) (by decide +kernel) (by decide +kernel)) ?_
  refine gm_sz (gm_p_rem (pc := 21) (by decide +kernel) (by decide)) ?_
  rw [fw_rem (a := (nx + 12) - 1) (b := 12) (by omega) (by omega) (by decide)]
  refine gm_sz (fw_pi (pc := 22) (ix := 17) (ci := 3) (j := 1) (M' := gm_uM M 42 1 (((nx + 12) - 1) % 12)) (by decide +kernel) (e0k hE (k := 42) (c := 3) (by decide +kernel)) (by decide +kernel) (by decide +kernel) (by decide +kernel) rfl) ?_
  refine gm_sz (gm_p_load (pc := 25) (i := .aload_n 0) (sr := 2) (j := 0) (by decide +kernel) rfl rfl rfl) ?_
  refine gm_sz (gm_p_dup (pc := 26) (by decide +kernel) fw_sr) ?_
  refine gm_sz (fw_gi (pc := 27) (ix := 21) (ci := 3) (j := 2) (x := sz) (by decide +kernel) (e0k hE (k := 42) (c := 3) (by decide +kernel)) (by decide +kernel) (by decide +kernel) ((uM_ne (by omega)).trans h2)) ?_
  refine gm_sz (gm_p_const (pc := 30) (i := .iconst 1) (v := gm_vi 1) (by decide +kernel) (by decide +kernel)) ?_
  refine gm_sz (gm_p_bin (pc := 31) (i := .isub) (f := fun x y => x - y) (by decide +kernel) rfl) ?_
  refine gm_sz (fw_pi (pc := 32) (ix := 21) (ci := 3) (j := 2) (M' := gm_uM (gm_uM M 42 1 (((nx + 12) - 1) % 12)) 42 2 (sz - 1)) (by decide +kernel) (e0k hE (k := 42) (c := 3) (by decide +kernel)) (by decide +kernel) (by decide +kernel) (by decide +kernel) rfl) ?_
  refine gm_sz (gm_p_load (pc := 35) (i := .aload_n 0) (sr := 2) (j := 0) (by decide +kernel) rfl rfl rfl) ?_
  refine gm_sz (gm_p_load (pc := 36) (i := .aload_n 0) (sr := 2) (j := 0) (by decide +kernel) rfl rfl rfl) ?_
  refine gm_sz (fw_gi (pc := 37) (ix := 17) (ci := 3) (j := 1) (x := ((nx + 12) - 1) % 12) (by decide +kernel) (e0k hE (k := 42) (c := 3) (by decide +kernel)) (by decide +kernel) (by decide +kernel) ((uM_ne (by omega)).trans uM_at)) ?_
  refine gm_c_virt (k := 42) (ci := 3) (mj := 56) (ix := 25) (pc := 40) (as := [gm_vi (((nx + 12) - 1) % 12)]) (st := []) (d' := d - 1) (bc' := 0) (bs' := 0) (by decide +kernel) (by decide +kernel) (by decide +kernel) (by decide +kernel) (e0k hE (k := 42) (c := 3) (by decide +kernel)).1 (e0k hE (k := 42) (c := 3) (by decide +kernel)).2 (by decide) (by decide +kernel) (show 1 = gm_na 56 by decide +kernel) (fw_c1 fw_si) (show 2 ≤ gm_ml 56 by decide +kernel) (Nat.le_of_ble_eq_true rfl) (by omega) (Nat.zero_le _) (Nat.zero_le _) ?_
  refine hi_at hE hp9 ?_
  show gm_Wp X LX d _ _ 55 43 _ [gm_vr (44 + 13 * (((nx + 12) - 1) % 12).toNat)] n K _ _ Q
  refine gm_sz (gm_p_stor (pc := 43) (i := .astore_n 2) (sr := 2) (j := 2) (by decide +kernel) rfl (show 3 ≤ _ from Nat.le_of_ble_eq_true rfl) rfl) ?_
  refine gm_sz (gm_p_load (pc := 44) (i := .aload_n 2) (sr := 2) (j := 2) (by decide +kernel) rfl rfl rfl) ?_
  refine gm_b_nul (pc := 45) (off := 8) (k0 := 44 + 13 * (((nx + 12) - 1) % 12).toNat) (by omega) (by decide +kernel) (by decide) (fun hz => absurd hz (by omega)) (fun _ => ?_)
  refine gm_sz (gm_p_load (pc := 48) (i := .aload_n 1) (sr := 2) (j := 1) (by decide +kernel) rfl rfl rfl) ?_
  refine gm_sz (gm_p_load (pc := 49) (i := .aload_n 2) (sr := 2) (j := 2) (by decide +kernel) rfl rfl rfl) ?_
  refine gm_c_virt (k := 3) (ci := 1) (mj := 57) (ix := 29) (pc := 50) (as := [gm_vr (44 + 13 * (((nx + 12) - 1) % 12).toNat)]) (st := []) (d' := d - 1) (bc' := 0) (bs' := 0) (by decide +kernel) (by decide +kernel) (by decide +kernel) (by decide +kernel) (e0k hE (k := 3) (c := 1) (by decide +kernel)).1 (e0k hE (k := 3) (c := 1) (by decide +kernel)).2 (by decide) (by decide +kernel) (show 1 = gm_na 57 by decide +kernel) (fw_c1 fw_sr) (show 2 ≤ gm_ml 57 by decide +kernel) (Nat.le_of_ble_eq_true rfl) (by omega) (Nat.zero_le _) (Nat.zero_le _) ?_
  refine st_copy (b := 3) (s := 44 + 13 * (((nx + 12) - 1) % 12).toNat) (by omega) (ks_3 hE) (ks_p hE hp9) (by omega) (show MX (gm_uM (gm_uM M 42 1 (((nx + 12) - 1) % 12)) 42 2 (sz - 1)) 3 from by unfold MX at hmx ⊢; rw [show (gm_uM (gm_uM M 42 1 (((nx + 12) - 1) % 12)) 42 2 (sz - 1)) (3 + 1) 0 = M (3 + 1) 0 from (uM_ne (by omega)).trans (uM_ne (by omega)), show (gm_uM (gm_uM M 42 1 (((nx + 12) - 1) % 12)) 42 2 (sz - 1)) (3 + 3) 0 = M (3 + 3) 0 from (uM_ne (by omega)).trans (uM_ne (by omega)), show (gm_uM (gm_uM M 42 1 (((nx + 12) - 1) % 12)) 42 2 (sz - 1)) (3 + 5) 0 = M (3 + 5) 0 from (uM_ne (by omega)).trans (uM_ne (by omega)), show (gm_uM (gm_uM M 42 1 (((nx + 12) - 1) % 12)) 42 2 (sz - 1)) (3 + 7) 0 = M (3 + 7) 0 from (uM_ne (by omega)).trans (uM_ne (by omega)), show (gm_uM (gm_uM M 42 1 (((nx + 12) - 1) % 12)) 42 2 (sz - 1)) (3 + 9) 0 = M (3 + 9) 0 from (uM_ne (by omega)).trans (uM_ne (by omega)), show (gm_uM (gm_uM M 42 1 (((nx + 12) - 1) % 12)) 42 2 (sz - 1)) (3 + 11) 0 = M (3 + 11) 0 from (uM_ne (by omega)).trans (uM_ne (by omega))]; exact hmx) (show SZ (gm_uM (gm_uM M 42 1 (((nx + 12) - 1) % 12)) 42 2 (sz - 1)) (44 + 13 * (((nx + 12) - 1) % 12).toNat) from by unfold SZ at hz ⊢; rw [show (gm_uM (gm_uM M 42 1 (((nx + 12) - 1) % 12)) 42 2 (sz - 1)) (44 + 13 * (((nx + 12) - 1) % 12).toNat + 1) 3 = M (44 + 13 * (((nx + 12) - 1) % 12).toNat + 1) 3 from (uM_ne (by omega)).trans (uM_ne (by omega)), show (gm_uM (gm_uM M 42 1 (((nx + 12) - 1) % 12)) 42 2 (sz - 1)) (44 + 13 * (((nx + 12) - 1) % 12).toNat + 3) 3 = M (44 + 13 * (((nx + 12) - 1) % 12).toNat + 3) 3 from (uM_ne (by omega)).trans (uM_ne (by omega)), show (gm_uM (gm_uM M 42 1 (((nx + 12) - 1) % 12)) 42 2 (sz - 1)) (44 + 13 * (((nx + 12) - 1) % 12).toNat + 5) 3 = M (44 + 13 * (((nx + 12) - 1) % 12).toNat + 5) 3 from (uM_ne (by omega)).trans (uM_ne (by omega)), show (gm_uM (gm_uM M 42 1 (((nx + 12) - 1) % 12)) 42 2 (sz - 1)) (44 + 13 * (((nx + 12) - 1) % 12).toNat + 7) 3 = M (44 + 13 * (((nx + 12) - 1) % 12).toNat + 7) 3 from (uM_ne (by omega)).trans (uM_ne (by omega)), show (gm_uM (gm_uM M 42 1 (((nx + 12) - 1) % 12)) 42 2 (sz - 1)) (44 + 13 * (((nx + 12) - 1) % 12).toNat + 9) 3 = M (44 + 13 * (((nx + 12) - 1) % 12).toNat + 9) 3 from (uM_ne (by omega)).trans (uM_ne (by omega)), show (gm_uM (gm_uM M 42 1 (((nx + 12) - 1) % 12)) 42 2 (sz - 1)) (44 + 13 * (((nx + 12) - 1) % 12).toNat + 11) 3 = M (44 + 13 * (((nx + 12) - 1) % 12).toNat + 11) 3 from (uM_ne (by omega)).trans (uM_ne (by omega))]; exact hz) (fun M9 hx9 hy9 hc9 => ?_)
  show gm_Wp X LX d _ _ 55 53 _ [] n K _ _ Q
  refine gm_sz (gm_p_const (pc := 53) (i := .iconst 1) (v := gm_vi 1) (by decide +kernel) (by decide +kernel)) ?_
  exact gm_r_int (pc := 54) (by decide +kernel) (Or.inr ⟨(by decide +kernel), Or.inr rfl⟩) (hq M9 ⟨hx9, hy9, hc9⟩)
theorem im_c59 (hd : 5 ≤ d) (hE : E0 n K R) (hC : CST M) (hz : SZ M 3) (hq : ∀ M9, CPY M M9 29 3 → Q (.inl none) n K (gm_uR R 29 8 (R 3 8)) (gm_uM M9 1 6 1)) : gm_Wp X LX d bc bs 59 0 (gm_ent 59 [gm_vr 1]) [] n K R M Q := by
  refine gm_sz (gm_p_load (pc := 0) (i := .aload_n 0) (sr := 2) (j := 0) (by decide +kernel) rfl rfl rfl) ?_
  refine gm_sz (fw_gr (pc := 1) (ix := 30) (ci := 0) (j := 5) (r := 29) (by decide +kernel) (e0k hE (k := 1) (c := 0) (by decide +kernel)) (by decide +kernel) (by decide +kernel) (e0r hE (k := 1) (j := 5) (r := 29) (by decide +kernel))) ?_
  refine gm_sz (gm_p_load (pc := 4) (i := .aload_n 0) (sr := 2) (j := 0) (by decide +kernel) rfl rfl rfl) ?_
  refine gm_sz (fw_gr (pc := 5) (ix := 23) (ci := 0) (j := 3) (r := 3) (by decide +kernel) (e0k hE (k := 1) (c := 0) (by decide +kernel)) (by decide +kernel) (by decide +kernel) (e0r hE (k := 1) (j := 3) (r := 3) (by decide +kernel))) ?_
  refine gm_c_virt (k := 29) (ci := 1) (mj := 57) (ix := 114) (pc := 8) (as := [gm_vr 3]) (st := []) (d' := d - 1) (bc' := 0) (bs' := 0) (by decide +kernel) (by decide +kernel) (by decide +kernel) (by decide +kernel) (e0k hE (k := 29) (c := 1) (by decide +kernel)).1 (e0k hE (k := 29) (c := 1) (by decide +kernel)).2 (by decide) (by decide +kernel) (show 1 = gm_na 57 by decide +kernel) (fw_c1 fw_sr) (show 2 ≤ gm_ml 57 by decide +kernel) (Nat.le_of_ble_eq_true rfl) (by omega) (Nat.zero_le _) (Nat.zero_le _) ?_
  refine st_copy (b := 29) (s := 3) (by omega) (ks_29 hE) (ks_3 hE) (by omega) (mx_29 hC) hz (fun M9 hx9 hy9 hc9 => ?_)
  show gm_Wp X LX d _ _ 59 11 _ [] n K _ _ Q
  refine gm_sz (gm_p_load (pc := 11) (i := .aload_n 0) (sr := 2) (j := 0) (by decide +kernel) rfl rfl rfl) ?_
  refine gm_sz (gm_p_const (pc := 12) (i := .iconst 1) (v := gm_vi 1) (by decide +kernel) (by decide +kernel)) ?_
  refine gm_sz (fw_pz (pc := 13) (ix := 33) (ci := 0) (j := 6) (M' := gm_uM M9 1 6 1) (by decide +kernel) (e0k hE (k := 1) (c := 0) (by decide +kernel)) (by decide +kernel) (by decide +kernel) (by decide +kernel) (Or.inr rfl) rfl) ?_
  exact gm_r_void (pc := 16) (by decide +kernel) (by decide +kernel) (hq M9 ⟨hx9, hy9, hc9⟩)
end AC11
