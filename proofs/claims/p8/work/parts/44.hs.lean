/-! LETTERS by hand: what is thrown in, what is opened. -/
section HS
variable {X : Int → Int} {LX d bc bs mi pc : Nat} {L : gm_L} {st : List gm_V} {n : Nat} {K : gm_K} {R : gm_R} {M : gm_M} {Q : gm_Q}
noncomputable def md_set (M : gm_M) (l k x : Int) : gm_M := gm_uM M 227 (119 + 7 * l + k) x
theorem md_set_ne {c : Nat} {j l k x : Int} (h : ¬ (c = 227 ∧ j = 119 + 7 * l + k)) : md_set M l k x c j = M c j := by
  unfold md_set gm_uM
  rw [if_neg h]
theorem md_set_lo {c : Nat} {j l k x : Int} (hl : 0 ≤ l ∧ 0 ≤ k) (h : j < 119) : md_set M l k x c j = M c j := md_set_ne (by omega)
theorem w2 {x : Int} (h : 0 ≤ x ∧ x < 3000) : gm_w x = x := gm_w_id (by omega) (by omega)
theorem uM_at {k : Nat} {j v : Int} : gm_uM M k j v k j = v := by
  unfold gm_uM
  rw [if_pos ⟨rfl, rfl⟩]
theorem uM_ne {k c : Nat} {j i v : Int} (h : ¬ (c = k ∧ i = j)) : gm_uM M k j v c i = M c i := by
  unfold gm_uM
  rw [if_neg h]
theorem uM_f {k c : Nat} {j v : Int} (h : ¬ c = k) : gm_uM M k j v c = M c := funext fun _ => uM_ne fun e => h e.1
theorem w272 {l k x : Int} (hmo : (1 ≤ 226 ∧ 226 ≤ n) ∧ (K 226).1 = 11 + 4) (h7 : ((1 ≤ 227 ∧ 227 ≤ n) ∧ (K 227).1 = 0) ∧ (K 227).2 = 2093) (r7 : R 226 ((1 : Nat) : Int) = 227) (hl : (0 ≤ l ∧ l < 24) ∧ 0 ≤ k ∧ k < 7) (hq : Q (.inl none) n K R (md_set M l k x)) : gm_Wp X LX d bc bs 272 0 (gm_ent 272 [gm_vr 226, gm_vi l, gm_vi k, gm_vi x]) [] n K R M Q := by
  have e1 : gm_w (119 + 7 * l + k) = 119 + 7 * l + k := w2 (by omega)
  refine gm_sz (gm_p_load (pc := 0) (i := .aload_n 0) (sr := 2) (j := 0) (by decide +kernel) rfl rfl rfl) ?_
  refine gm_sz (gm_p_get (pc := 1) (ix := 13) (ci := 11) (j := 1) (by decide +kernel) hmo.1 hmo.2 (by decide +kernel)) ?_
  rw [if_pos (show gm_isr 11 1 = true by decide +kernel), r7]
  refine gm_sz (gm_p_const (pc := 4) (i := .bipush 119) (v := gm_vi 119) (by decide +kernel) (by decide +kernel)) ?_
  refine gm_sz (gm_p_const (pc := 6) (i := .bipush 7) (v := gm_vi 7) (by decide +kernel) (by decide +kernel)) ?_
  refine gm_sz (gm_p_load (pc := 8) (i := .iload_n 1) (sr := 0) (j := 1) (by decide +kernel) rfl rfl rfl) ?_
  refine gm_sz (gm_p_bin (pc := 9) (i := .imul) (f := fun x y => x * y) (by decide +kernel) rfl) ?_
  refine gm_sz (gm_p_bin (pc := 10) (i := .iadd) (f := fun x y => x + y) (by decide +kernel) rfl) ?_
  refine gm_sz (gm_p_load (pc := 11) (i := .iload_n 2) (sr := 0) (j := 2) (by decide +kernel) rfl rfl rfl) ?_
  refine gm_sz (gm_p_bin (pc := 12) (i := .iadd) (f := fun x y => x + y) (by decide +kernel) rfl) ?_
  refine gm_sz (gm_p_load (pc := 13) (i := .iload_n 3) (sr := 0) (j := 3) (by decide +kernel) rfl rfl rfl) ?_
  refine gm_sz (gm_p_iast (pc := 14) (by decide +kernel) h7.1.1 h7.1.2 (by rw [e1, h7.2]; omega)) ?_
  rw [e1]
  exact gm_r_void (pc := 15) (by decide +kernel) (by decide +kernel) hq
theorem w254 (hmo : (1 ≤ 226 ∧ 226 ≤ n) ∧ (K 226).1 = 11 + 4) (h7 : ((1 ≤ 227 ∧ 227 ≤ n) ∧ (K 227).1 = 0) ∧ (K 227).2 = 2093) (r7 : R 226 ((1 : Nat) : Int) = 227) (hq : Q (.inl (some (gm_vi (M 227 4)))) n K R M) : gm_Wp X LX d bc bs 254 0 (gm_ent 254 [gm_vr 226]) [] n K R M Q := by
  have e1 : gm_w 4 = 4 := by decide
  refine gm_sz (gm_p_load (pc := 0) (i := .aload_n 0) (sr := 2) (j := 0) (by decide +kernel) rfl rfl rfl) ?_
  refine gm_sz (gm_p_get (pc := 1) (ix := 13) (ci := 11) (j := 1) (by decide +kernel) hmo.1 hmo.2 (by decide +kernel)) ?_
  rw [if_pos (show gm_isr 11 1 = true by decide +kernel), r7]
  refine gm_sz (gm_p_const (pc := 4) (i := .iconst 4) (v := gm_vi 4) (by decide +kernel) (by decide +kernel)) ?_
  refine gm_sz (gm_p_iald (pc := 5) (by decide +kernel) h7.1.1 h7.1.2 (by rw [e1, h7.2]; omega)) ?_
  rw [e1]
  exact gm_r_int (pc := 6) (by decide +kernel) (Or.inl (by decide +kernel)) hq
theorem w266 (hmo : (1 ≤ 226 ∧ 226 ≤ n) ∧ (K 226).1 = 11 + 4) (h7 : ((1 ≤ 227 ∧ 227 ≤ n) ∧ (K 227).1 = 0) ∧ (K 227).2 = 2093) (r7 : R 226 ((1 : Nat) : Int) = 227) (hq : Q (.inl (some (gm_vi (M 227 9)))) n K R M) : gm_Wp X LX d bc bs 266 0 (gm_ent 266 [gm_vr 226]) [] n K R M Q := by
  have e1 : gm_w 9 = 9 := by decide
  refine gm_sz (gm_p_load (pc := 0) (i := .aload_n 0) (sr := 2) (j := 0) (by decide +kernel) rfl rfl rfl) ?_
  refine gm_sz (gm_p_get (pc := 1) (ix := 13) (ci := 11) (j := 1) (by decide +kernel) hmo.1 hmo.2 (by decide +kernel)) ?_
  rw [if_pos (show gm_isr 11 1 = true by decide +kernel), r7]
  refine gm_sz (gm_p_const (pc := 4) (i := .bipush 9) (v := gm_vi 9) (by decide +kernel) (by decide +kernel)) ?_
  refine gm_sz (gm_p_iald (pc := 6) (by decide +kernel) h7.1.1 h7.1.2 (by rw [e1, h7.2]; omega)) ?_
  rw [e1]
  exact gm_r_int (pc := 7) (by decide +kernel) (Or.inl (by decide +kernel)) hq
theorem c272 {ix : Nat} {l k0 x : Int} (hmo : (1 ≤ 226 ∧ 226 ≤ n) ∧ (K 226).1 = 11 + 4) (h7 : ((1 ≤ 227 ∧ 227 ≤ n) ∧ (K 227).1 = 0) ∧ (K 227).2 = 2093) (r7 : R 226 ((1 : Nat) : Int) = 227) (hl : (0 ≤ l ∧ l < 24) ∧ 0 ≤ k0 ∧ k0 < 7) (h : gm_at mi pc = some (.invokevirtual ix)) (hc : gm_cal (gm_ow mi) ix = some (0, 272)) (hh : gm_hh mi = []) (hst : (st.map gm_cat).sum ≤ 8) (hd : 1 ≤ d) (k : gm_Wp X LX d bc bs mi (pc + 3) L (st) n K R (md_set M l k0 x) Q) : gm_Wp X LX d bc bs mi pc L (gm_vi x :: gm_vi k0 :: gm_vi l :: gm_vr 226 :: st) n K R M Q := gm_c_virt (k := 226) (ci := 11) (as := [gm_vi l, gm_vi k0, gm_vi x]) (st := st) (d' := 0) (bc' := 0) (bs' := 0) h hc (by decide +kernel) hh hmo.1 hmo.2 (by decide) (by decide +kernel) (show 3 = gm_na 272 by decide +kernel) (fun v hv => by
    rcases List.mem_cons.mp hv with rfl | hv
    · simp [gm_sort]
    rcases List.mem_cons.mp hv with rfl | hv
    · simp [gm_sort]
    rcases List.mem_cons.mp hv with rfl | hv
    · simp [gm_sort]
    cases hv) (show 3 + 1 ≤ gm_ml 272 by decide +kernel) hst hd (Nat.zero_le _) (Nat.zero_le _) (w272 hmo h7 r7 hl k)
theorem c254 {ix : Nat} (hmo : (1 ≤ 226 ∧ 226 ≤ n) ∧ (K 226).1 = 11 + 4) (h7 : ((1 ≤ 227 ∧ 227 ≤ n) ∧ (K 227).1 = 0) ∧ (K 227).2 = 2093) (r7 : R 226 ((1 : Nat) : Int) = 227) (h : gm_at mi pc = some (.invokevirtual ix)) (hc : gm_cal (gm_ow mi) ix = some (0, 254)) (hh : gm_hh mi = []) (hst : (st.map gm_cat).sum ≤ 8) (hd : 1 ≤ d) (k : gm_Wp X LX d bc bs mi (pc + 3) L (gm_vi (M 227 4) :: st) n K R M Q) : gm_Wp X LX d bc bs mi pc L (gm_vr 226 :: st) n K R M Q := gm_c_virt (k := 226) (ci := 11) (as := []) (st := st) (d' := 0) (bc' := 0) (bs' := 0) h hc (by decide +kernel) hh hmo.1 hmo.2 (by decide) (by decide +kernel) (show 0 = gm_na 254 by decide +kernel) (fun v hv => by
    cases hv) (show 0 + 1 ≤ gm_ml 254 by decide +kernel) hst hd (Nat.zero_le _) (Nat.zero_le _) (w254 hmo h7 r7 k)
theorem c266 {ix : Nat} (hmo : (1 ≤ 226 ∧ 226 ≤ n) ∧ (K 226).1 = 11 + 4) (h7 : ((1 ≤ 227 ∧ 227 ≤ n) ∧ (K 227).1 = 0) ∧ (K 227).2 = 2093) (r7 : R 226 ((1 : Nat) : Int) = 227) (h : gm_at mi pc = some (.invokevirtual ix)) (hc : gm_cal (gm_ow mi) ix = some (0, 266)) (hh : gm_hh mi = []) (hst : (st.map gm_cat).sum ≤ 8) (hd : 1 ≤ d) (k : gm_Wp X LX d bc bs mi (pc + 3) L (gm_vi (M 227 9) :: st) n K R M Q) : gm_Wp X LX d bc bs mi pc L (gm_vr 226 :: st) n K R M Q := gm_c_virt (k := 226) (ci := 11) (as := []) (st := st) (d' := 0) (bc' := 0) (bs' := 0) h hc (by decide +kernel) hh hmo.1 hmo.2 (by decide) (by decide +kernel) (show 0 = gm_na 266 by decide +kernel) (fun v hv => by
    cases hv) (show 0 + 1 ≤ gm_ml 266 by decide +kernel) hst hd (Nat.zero_le _) (Nat.zero_le _) (w266 hmo h7 r7 k)
/-- what is thrown in as number l0 -/
noncomputable def md_thr (M : gm_M) (l0 f t la ro : Int) : gm_M := gm_uM (md_set (md_set (md_set (md_set (md_set (md_set (md_set M l0 0 f) l0 1 t) l0 2 la) l0 3 (M 227 9)) l0 4 ro) l0 5 (-1)) l0 6 (-1)) 227 4 (l0 + 1)
theorem w271 {f t la ro : Int} (hmo : (1 ≤ 226 ∧ 226 ≤ n) ∧ (K 226).1 = 11 + 4) (h7 : ((1 ≤ 227 ∧ 227 ≤ n) ∧ (K 227).1 = 0) ∧ (K 227).2 = 2093) (r7 : R 226 ((1 : Nat) : Int) = 227) (hd : 1 ≤ d) (hlc : 0 ≤ M 227 4 ∧ M 227 4 < 24) (hq : Q (.inl none) n K R (md_thr M (M 227 4) f t la ro)) : gm_Wp X LX d bc bs 271 0 (gm_ent 271 [gm_vr 226, gm_vi f, gm_vi t, gm_vi la, gm_vi ro]) [] n K R M Q := by
  refine gm_sz (gm_p_load (pc := 0) (i := .aload_n 0) (sr := 2) (j := 0) (by decide +kernel) rfl rfl rfl) ?_
  refine c254 (pc := 1) (ix := 100) hmo h7 r7 (by decide +kernel) (by decide +kernel) (by decide +kernel) (Nat.le_of_ble_eq_true rfl) hd ?_
  refine gm_sz (gm_p_stor (pc := 4) (i := .istore 5) (sr := 0) (j := 5) (by decide +kernel) rfl (show 5 + 0 < 6 by decide) rfl) ?_
  change gm_Wp X LX d bc bs 271 6 [some (gm_vr 226), some (gm_vi f), some (gm_vi t), some (gm_vi la), some (gm_vi ro), some (gm_vi (M 227 4))] [] n K R M Q
  generalize hl0 : M 227 4 = l0 at *
  refine gm_sz (gm_p_load (pc := 6) (i := .aload_n 0) (sr := 2) (j := 0) (by decide +kernel) rfl rfl rfl) ?_
  refine gm_sz (gm_p_load (pc := 7) (i := .iload 5) (sr := 0) (j := 5) (by decide +kernel) rfl rfl rfl) ?_
  refine gm_sz (gm_p_const (pc := 9) (i := .iconst 0) (v := gm_vi 0) (by decide +kernel) (by decide +kernel)) ?_
  refine gm_sz (gm_p_load (pc := 10) (i := .iload_n 1) (sr := 0) (j := 1) (by decide +kernel) rfl rfl rfl) ?_
  refine c272 (pc := 11) (ix := 173) hmo h7 r7 (by omega) (by decide +kernel) (by decide +kernel) (by decide +kernel) (Nat.le_of_ble_eq_true rfl) hd ?_
  refine gm_sz (gm_p_load (pc := 14) (i := .aload_n 0) (sr := 2) (j := 0) (by decide +kernel) rfl rfl rfl) ?_
  refine gm_sz (gm_p_load (pc := 15) (i := .iload 5) (sr := 0) (j := 5) (by decide +kernel) rfl rfl rfl) ?_
  refine gm_sz (gm_p_const (pc := 17) (i := .iconst 1) (v := gm_vi 1) (by decide +kernel) (by decide +kernel)) ?_
  refine gm_sz (gm_p_load (pc := 18) (i := .iload_n 2) (sr := 0) (j := 2) (by decide +kernel) rfl rfl rfl) ?_
  refine c272 (pc := 19) (ix := 173) hmo h7 r7 (by omega) (by decide +kernel) (by decide +kernel) (by decide +kernel) (Nat.le_of_ble_eq_true rfl) hd ?_
  refine gm_sz (gm_p_load (pc := 22) (i := .aload_n 0) (sr := 2) (j := 0) (by decide +kernel) rfl rfl rfl) ?_
  refine gm_sz (gm_p_load (pc := 23) (i := .iload 5) (sr := 0) (j := 5) (by decide +kernel) rfl rfl rfl) ?_
  refine gm_sz (gm_p_const (pc := 25) (i := .iconst 2) (v := gm_vi 2) (by decide +kernel) (by decide +kernel)) ?_
  refine gm_sz (gm_p_load (pc := 26) (i := .iload_n 3) (sr := 0) (j := 3) (by decide +kernel) rfl rfl rfl) ?_
  refine c272 (pc := 27) (ix := 173) hmo h7 r7 (by omega) (by decide +kernel) (by decide +kernel) (by decide +kernel) (Nat.le_of_ble_eq_true rfl) hd ?_
  refine gm_sz (gm_p_load (pc := 30) (i := .aload_n 0) (sr := 2) (j := 0) (by decide +kernel) rfl rfl rfl) ?_
  refine gm_sz (gm_p_load (pc := 31) (i := .iload 5) (sr := 0) (j := 5) (by decide +kernel) rfl rfl rfl) ?_
  refine gm_sz (gm_p_const (pc := 33) (i := .iconst 3) (v := gm_vi 3) (by decide +kernel) (by decide +kernel)) ?_
  refine gm_sz (gm_p_load (pc := 34) (i := .aload_n 0) (sr := 2) (j := 0) (by decide +kernel) rfl rfl rfl) ?_
  refine c266 (pc := 35) (ix := 162) hmo h7 r7 (by decide +kernel) (by decide +kernel) (by decide +kernel) (Nat.le_of_ble_eq_true rfl) hd ?_
  rw [show md_set (md_set (md_set M l0 0 f) l0 1 t) l0 2 la 227 9 = M 227 9 by rw [md_set_lo (by omega) (by decide), md_set_lo (by omega) (by decide), md_set_lo (by omega) (by decide)]]
  refine c272 (pc := 38) (ix := 173) hmo h7 r7 (by omega) (by decide +kernel) (by decide +kernel) (by decide +kernel) (Nat.le_of_ble_eq_true rfl) hd ?_
  refine gm_sz (gm_p_load (pc := 41) (i := .aload_n 0) (sr := 2) (j := 0) (by decide +kernel) rfl rfl rfl) ?_
  refine gm_sz (gm_p_load (pc := 42) (i := .iload 5) (sr := 0) (j := 5) (by decide +kernel) rfl rfl rfl) ?_
  refine gm_sz (gm_p_const (pc := 44) (i := .iconst 4) (v := gm_vi 4) (by decide +kernel) (by decide +kernel)) ?_
  refine gm_sz (gm_p_load (pc := 45) (i := .iload 4) (sr := 0) (j := 4) (by decide +kernel) rfl rfl rfl) ?_
  refine c272 (pc := 47) (ix := 173) hmo h7 r7 (by omega) (by decide +kernel) (by decide +kernel) (by decide +kernel) (Nat.le_of_ble_eq_true rfl) hd ?_
  refine gm_sz (gm_p_load (pc := 50) (i := .aload_n 0) (sr := 2) (j := 0) (by decide +kernel) rfl rfl rfl) ?_
  refine gm_sz (gm_p_load (pc := 51) (i := .iload 5) (sr := 0) (j := 5) (by decide +kernel) rfl rfl rfl) ?_
  refine gm_sz (gm_p_const (pc := 53) (i := .iconst 5) (v := gm_vi 5) (by decide +kernel) (by decide +kernel)) ?_
  refine gm_sz (gm_p_const (pc := 54) (i := .iconst (-1)) (v := gm_vi (-1)) (by decide +kernel) (by decide +kernel)) ?_
  refine c272 (pc := 55) (ix := 173) hmo h7 r7 (by omega) (by decide +kernel) (by decide +kernel) (by decide +kernel) (Nat.le_of_ble_eq_true rfl) hd ?_
  refine gm_sz (gm_p_load (pc := 58) (i := .aload_n 0) (sr := 2) (j := 0) (by decide +kernel) rfl rfl rfl) ?_
  refine gm_sz (gm_p_load (pc := 59) (i := .iload 5) (sr := 0) (j := 5) (by decide +kernel) rfl rfl rfl) ?_
  refine gm_sz (gm_p_const (pc := 61) (i := .bipush 6) (v := gm_vi 6) (by decide +kernel) (by decide +kernel)) ?_
  refine gm_sz (gm_p_const (pc := 63) (i := .iconst (-1)) (v := gm_vi (-1)) (by decide +kernel) (by decide +kernel)) ?_
  refine c272 (pc := 64) (ix := 173) hmo h7 r7 (by omega) (by decide +kernel) (by decide +kernel) (by decide +kernel) (Nat.le_of_ble_eq_true rfl) hd ?_
  refine gm_sz (gm_p_load (pc := 67) (i := .aload_n 0) (sr := 2) (j := 0) (by decide +kernel) rfl rfl rfl) ?_
  refine gm_sz (gm_p_get (pc := 68) (ix := 13) (ci := 11) (j := 1) (by decide +kernel) hmo.1 hmo.2 (by decide +kernel)) ?_
  rw [if_pos (show gm_isr 11 1 = true by decide +kernel), r7]
  refine gm_sz (gm_p_const (pc := 71) (i := .iconst 4) (v := gm_vi 4) (by decide +kernel) (by decide +kernel)) ?_
  refine gm_sz (gm_p_dup2 (pc := 72) (by decide +kernel) (by simp [gm_sort]) (by simp [gm_sort])) ?_
  have e4 : gm_w 4 = 4 := by decide
  refine gm_sz (gm_p_iald (pc := 73) (by decide +kernel) h7.1.1 h7.1.2 (by rw [e4, h7.2]; omega)) ?_
  rw [e4]
  rw [show md_set (md_set (md_set (md_set (md_set (md_set (md_set M l0 0 f) l0 1 t) l0 2 la) l0 3 (M 227 9)) l0 4 ro) l0 5 (-1)) l0 6 (-1) 227 4 = l0 by rw [md_set_lo (by omega) (by decide), md_set_lo (by omega) (by decide), md_set_lo (by omega) (by decide), md_set_lo (by omega) (by decide), md_set_lo (by omega) (by decide), md_set_lo (by omega) (by decide), md_set_lo (by omega) (by decide), hl0]]
  refine gm_sz (gm_p_const (pc := 74) (i := .iconst 1) (v := gm_vi 1) (by decide +kernel) (by decide +kernel)) ?_
  refine gm_sz (gm_p_bin (pc := 75) (i := .iadd) (f := fun x y => x + y) (by decide +kernel) rfl) ?_
  refine gm_sz (gm_p_iast (pc := 76) (by decide +kernel) h7.1.1 h7.1.2 (by rw [e4, h7.2]; omega)) ?_
  rw [e4]
  exact gm_r_void (pc := 77) (by decide +kernel) (by decide +kernel) hq
/-- letter l is opened by p as the o-th -/
noncomputable def md_opn (M : gm_M) (o l p : Int) : gm_M := gm_uM (gm_uM (gm_uM (gm_uM (md_set (md_set M l 5 p) l 6 (M 227 9)) 227 (323 + 3 * o) (M 227 9)) 227 (323 + 3 * o + 1) l) 227 (323 + 3 * o + 2) p) 227 14 (o + 1)
theorem w319 {l p : Int} (hmo : (1 ≤ 226 ∧ 226 ≤ n) ∧ (K 226).1 = 11 + 4) (h7 : ((1 ≤ 227 ∧ 227 ≤ n) ∧ (K 227).1 = 0) ∧ (K 227).2 = 2093) (r7 : R 226 ((1 : Nat) : Int) = 227) (hd : 1 ≤ d) (hl : 0 ≤ l ∧ l < 24) (hlo : 0 ≤ M 227 14 ∧ M 227 14 < 24) (hq : Q (.inl none) n K R (md_opn M (M 227 14) l p)) : gm_Wp X LX d bc bs 319 0 (gm_ent 319 [gm_vr 226, gm_vi l, gm_vi p]) [] n K R M Q := by
  have e14 : gm_w 14 = 14 := by decide
  refine gm_sz (gm_p_load (pc := 0) (i := .aload_n 0) (sr := 2) (j := 0) (by decide +kernel) rfl rfl rfl) ?_
  refine gm_sz (gm_p_load (pc := 1) (i := .iload_n 1) (sr := 0) (j := 1) (by decide +kernel) rfl rfl rfl) ?_
  refine gm_sz (gm_p_const (pc := 2) (i := .iconst 5) (v := gm_vi 5) (by decide +kernel) (by decide +kernel)) ?_
  refine gm_sz (gm_p_load (pc := 3) (i := .iload_n 2) (sr := 0) (j := 2) (by decide +kernel) rfl rfl rfl) ?_
  refine c272 (pc := 4) (ix := 173) hmo h7 r7 (by omega) (by decide +kernel) (by decide +kernel) (by decide +kernel) (Nat.le_of_ble_eq_true rfl) hd ?_
  refine gm_sz (gm_p_load (pc := 7) (i := .aload_n 0) (sr := 2) (j := 0) (by decide +kernel) rfl rfl rfl) ?_
  refine gm_sz (gm_p_load (pc := 8) (i := .iload_n 1) (sr := 0) (j := 1) (by decide +kernel) rfl rfl rfl) ?_
  refine gm_sz (gm_p_const (pc := 9) (i := .bipush 6) (v := gm_vi 6) (by decide +kernel) (by decide +kernel)) ?_
  refine gm_sz (gm_p_load (pc := 11) (i := .aload_n 0) (sr := 2) (j := 0) (by decide +kernel) rfl rfl rfl) ?_
  refine c266 (pc := 12) (ix := 162) hmo h7 r7 (by decide +kernel) (by decide +kernel) (by decide +kernel) (Nat.le_of_ble_eq_true rfl) hd ?_
  rw [show md_set M l 5 p 227 9 = M 227 9 from md_set_lo (by omega) (by decide)]
  refine c272 (pc := 15) (ix := 173) hmo h7 r7 (by omega) (by decide +kernel) (by decide +kernel) (by decide +kernel) (Nat.le_of_ble_eq_true rfl) hd ?_
  generalize hM2 : md_set (md_set M l 5 p) l 6 (M 227 9) = M2
  have h9 : M2 227 9 = M 227 9 := by rw [← hM2, md_set_lo (by omega) (by decide), md_set_lo (by omega) (by decide)]
  have h14 : M2 227 14 = M 227 14 := by rw [← hM2, md_set_lo (by omega) (by decide), md_set_lo (by omega) (by decide)]
  refine gm_sz (gm_p_const (pc := 18) (i := .sipush 323) (v := gm_vi 323) (by decide +kernel) (by decide +kernel)) ?_
  refine gm_sz (gm_p_const (pc := 21) (i := .iconst 3) (v := gm_vi 3) (by decide +kernel) (by decide +kernel)) ?_
  refine gm_sz (gm_p_load (pc := 22) (i := .aload_n 0) (sr := 2) (j := 0) (by decide +kernel) rfl rfl rfl) ?_
  refine gm_sz (gm_p_get (pc := 23) (ix := 13) (ci := 11) (j := 1) (by decide +kernel) hmo.1 hmo.2 (by decide +kernel)) ?_
  rw [if_pos (show gm_isr 11 1 = true by decide +kernel), r7]
  refine gm_sz (gm_p_const (pc := 26) (i := .bipush 14) (v := gm_vi 14) (by decide +kernel) (by decide +kernel)) ?_
  refine gm_sz (gm_p_iald (pc := 28) (by decide +kernel) h7.1.1 h7.1.2 (by rw [e14, h7.2]; omega)) ?_
  rw [e14]
  rw [h14]
  refine gm_sz (gm_p_bin (pc := 29) (i := .imul) (f := fun x y => x * y) (by decide +kernel) rfl) ?_
  refine gm_sz (gm_p_bin (pc := 30) (i := .iadd) (f := fun x y => x + y) (by decide +kernel) rfl) ?_
  refine gm_sz (gm_p_stor (pc := 31) (i := .istore_n 3) (sr := 0) (j := 3) (by decide +kernel) rfl (show 3 + 0 < 4 by decide) rfl) ?_
  change gm_Wp X LX d bc bs 319 32 [some (gm_vr 226), some (gm_vi l), some (gm_vi p), some (gm_vi (323 + 3 * M 227 14))] [] n K R M2 Q
  generalize ho : M 227 14 = o at *
  have w0 : gm_w (323 + 3 * o) = 323 + 3 * o := w2 (by omega)
  have w1 : gm_w (323 + 3 * o + 1) = 323 + 3 * o + 1 := w2 (by omega)
  have w3 : gm_w (323 + 3 * o + 2) = 323 + 3 * o + 2 := w2 (by omega)
  refine gm_sz (gm_p_load (pc := 32) (i := .aload_n 0) (sr := 2) (j := 0) (by decide +kernel) rfl rfl rfl) ?_
  refine gm_sz (gm_p_get (pc := 33) (ix := 13) (ci := 11) (j := 1) (by decide +kernel) hmo.1 hmo.2 (by decide +kernel)) ?_
  rw [if_pos (show gm_isr 11 1 = true by decide +kernel), r7]
  refine gm_sz (gm_p_load (pc := 36) (i := .iload_n 3) (sr := 0) (j := 3) (by decide +kernel) rfl rfl rfl) ?_
  refine gm_sz (gm_p_load (pc := 37) (i := .aload_n 0) (sr := 2) (j := 0) (by decide +kernel) rfl rfl rfl) ?_
  refine c266 (pc := 38) (ix := 162) hmo h7 r7 (by decide +kernel) (by decide +kernel) (by decide +kernel) (Nat.le_of_ble_eq_true rfl) hd ?_
  rw [h9]
  refine gm_sz (gm_p_iast (pc := 41) (by decide +kernel) h7.1.1 h7.1.2 (by rw [w0, h7.2]; omega)) ?_
  rw [w0]
  refine gm_sz (gm_p_load (pc := 42) (i := .aload_n 0) (sr := 2) (j := 0) (by decide +kernel) rfl rfl rfl) ?_
  refine gm_sz (gm_p_get (pc := 43) (ix := 13) (ci := 11) (j := 1) (by decide +kernel) hmo.1 hmo.2 (by decide +kernel)) ?_
  rw [if_pos (show gm_isr 11 1 = true by decide +kernel), r7]
  refine gm_sz (gm_p_load (pc := 46) (i := .iload_n 3) (sr := 0) (j := 3) (by decide +kernel) rfl rfl rfl) ?_
  refine gm_sz (gm_p_const (pc := 47) (i := .iconst 1) (v := gm_vi 1) (by decide +kernel) (by decide +kernel)) ?_
  refine gm_sz (gm_p_bin (pc := 48) (i := .iadd) (f := fun x y => x + y) (by decide +kernel) rfl) ?_
  refine gm_sz (gm_p_load (pc := 49) (i := .iload_n 1) (sr := 0) (j := 1) (by decide +kernel) rfl rfl rfl) ?_
  refine gm_sz (gm_p_iast (pc := 50) (by decide +kernel) h7.1.1 h7.1.2 (by rw [w1, h7.2]; omega)) ?_
  rw [w1]
  refine gm_sz (gm_p_load (pc := 51) (i := .aload_n 0) (sr := 2) (j := 0) (by decide +kernel) rfl rfl rfl) ?_
  refine gm_sz (gm_p_get (pc := 52) (ix := 13) (ci := 11) (j := 1) (by decide +kernel) hmo.1 hmo.2 (by decide +kernel)) ?_
  rw [if_pos (show gm_isr 11 1 = true by decide +kernel), r7]
  refine gm_sz (gm_p_load (pc := 55) (i := .iload_n 3) (sr := 0) (j := 3) (by decide +kernel) rfl rfl rfl) ?_
  refine gm_sz (gm_p_const (pc := 56) (i := .iconst 2) (v := gm_vi 2) (by decide +kernel) (by decide +kernel)) ?_
  refine gm_sz (gm_p_bin (pc := 57) (i := .iadd) (f := fun x y => x + y) (by decide +kernel) rfl) ?_
  refine gm_sz (gm_p_load (pc := 58) (i := .iload_n 2) (sr := 0) (j := 2) (by decide +kernel) rfl rfl rfl) ?_
  refine gm_sz (gm_p_iast (pc := 59) (by decide +kernel) h7.1.1 h7.1.2 (by rw [w3, h7.2]; omega)) ?_
  rw [w3]
  refine gm_sz (gm_p_load (pc := 60) (i := .aload_n 0) (sr := 2) (j := 0) (by decide +kernel) rfl rfl rfl) ?_
  refine gm_sz (gm_p_get (pc := 61) (ix := 13) (ci := 11) (j := 1) (by decide +kernel) hmo.1 hmo.2 (by decide +kernel)) ?_
  rw [if_pos (show gm_isr 11 1 = true by decide +kernel), r7]
  refine gm_sz (gm_p_const (pc := 64) (i := .bipush 14) (v := gm_vi 14) (by decide +kernel) (by decide +kernel)) ?_
  refine gm_sz (gm_p_dup2 (pc := 66) (by decide +kernel) (by simp [gm_sort]) (by simp [gm_sort])) ?_
  refine gm_sz (gm_p_iald (pc := 67) (by decide +kernel) h7.1.1 h7.1.2 (by rw [e14, h7.2]; omega)) ?_
  rw [e14]
  rw [show gm_uM (gm_uM (gm_uM M2 227 (323 + 3 * o) (M 227 9)) 227 (323 + 3 * o + 1) l) 227 (323 + 3 * o + 2) p 227 14 = o by rw [uM_ne (by omega), uM_ne (by omega), uM_ne (by omega), h14]]
  refine gm_sz (gm_p_const (pc := 68) (i := .iconst 1) (v := gm_vi 1) (by decide +kernel) (by decide +kernel)) ?_
  refine gm_sz (gm_p_bin (pc := 69) (i := .iadd) (f := fun x y => x + y) (by decide +kernel) rfl) ?_
  refine gm_sz (gm_p_iast (pc := 70) (by decide +kernel) h7.1.1 h7.1.2 (by rw [e14, h7.2]; omega)) ?_
  rw [e14]
  subst hM2
  exact gm_r_void (pc := 71) (by decide +kernel) (by decide +kernel) hq
end HS
