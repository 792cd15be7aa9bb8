/-! THE REFERENCE: who waits, one year more (laid by wip/core/r4.py). -/
section YM4
variable {X : Int → Int} {LX d bc bs n : Nat} {K : gm_K} {R : gm_R} {M : gm_M} {Q : gm_Q} {l p c v : Int} {N h : Int → Int} {FI : gm_M → Prop} {φ : Int → Int → Int → Int} {Ψ : (Int → Int) → Int → Int → Int → Int → Prop} {o dd : Int → Int}
/-- what a run tells -/
theorem rrun_o {M2 : gm_M} (hr : rrun N h φ ((N (119 + (l * 7 + 2)))) (if (N (119 + (l * 7 + 0))) = -1 then 1 else 0) (-1) ((N (119 + (l * 7 + 3)))) ((N (119 + (l * 7 + 4)))) M2) (h3 : 0 ≤ (N (119 + (l * 7 + 3)))) {o9 d9 : Int} (ho : OUTR N h φ l o9 d9) : M2 226 29 = o9 ∧ (0 ≤ o9 → M2 237 o9 = d9) := by
  obtain ⟨-, b, c⟩ := hr
  have key : OUTR N h φ l (M2 226 29) (if M2 226 29 = -1 then 0 else M2 237 (M2 226 29)) := by
    rcases c with ⟨c1, c2⟩ | ⟨j, c1, c2, c3, c4⟩
    · exact Or.inl ⟨c1, fun j hj => c2 j (by omega)⟩
    · refine Or.inr ⟨j, by omega, c2, c3, c4, ?_⟩
      rw [if_neg (by omega), c2]
      exact (b j c1).2
  obtain ⟨e1, e2⟩ := OUTR_u key ho
  refine ⟨e1, fun h0 => ?_⟩
  have := e2 h3 (by omega)
  rw [if_neg (by omega), e1] at this
  exact this
theorem re_sl272 (hE : E0 n K R) (h1 : 0 ≤ l ∧ l < 24) (h2 : 0 ≤ c ∧ c < 7) (q0 : Q (.inl (none)) n K R (gm_uM M 227 ((119 + (7 * l)) + c) v)) : gm_Wp X LX d bc bs 272 0 (gm_ent 272 [gm_vr 226, gm_vi l, gm_vi c, gm_vi v]) [] n K R M Q := by
  refine gm_sz (gm_p_load (pc := 0) (i := .aload_n 0) (sr := 2) (j := 0) (by decide +kernel) rfl rfl rfl) ?_
  refine gm_sz (fw_gr (pc := 1) (ix := 13) (ci := 11) (j := 1) (r := 227) (by decide +kernel) (e0k hE (k := 226) (c := 11) (by decide +kernel)) (by decide +kernel) (by decide +kernel) (e0r hE (k := 226) (j := 1) (r := 227) (by decide +kernel))) ?_
  refine gm_sz (gm_p_const (pc := 4) (i := .bipush 119) (v := gm_vi 119) (by decide +kernel) (by decide +kernel)) ?_
  refine gm_sz (gm_p_const (pc := 6) (i := .bipush 7) (v := gm_vi 7) (by decide +kernel) (by decide +kernel)) ?_
  refine gm_sz (gm_p_load (pc := 8) (i := .iload_n 1) (sr := 0) (j := 1) (by decide +kernel) rfl rfl rfl) ?_
  refine gm_sz (gm_p_bin (pc := 9) (i := .imul) (f := fun x y => x * y) (by decide +kernel) rfl) ?_
  refine gm_sz (gm_p_bin (pc := 10) (i := .iadd) (f := fun x y => x + y) (by decide +kernel) rfl) ?_
  refine gm_sz (gm_p_load (pc := 11) (i := .iload_n 2) (sr := 0) (j := 2) (by decide +kernel) rfl rfl rfl) ?_
  refine gm_sz (gm_p_bin (pc := 12) (i := .iadd) (f := fun x y => x + y) (by decide +kernel) rfl) ?_
  refine gm_sz (gm_p_load (pc := 13) (i := .iload_n 3) (sr := 0) (j := 3) (by decide +kernel) rfl rfl rfl) ?_
  refine gm_sz (fw_is (pc := 14) (k := 227) (len := 2093) (e0 := (119 + (7 * l)) + c) (x := v) (M' := gm_uM M 227 ((119 + (7 * l)) + c) v) (by decide +kernel) (e0a hE (k := 227) (q := (0, 2093)) (by decide +kernel)).1 (e0a hE (k := 227) (q := (0, 2093)) (by decide +kernel)).2 (by decide) ⟨by omega, by omega⟩ rfl) ?_
  exact gm_r_void (pc := 15) (by decide +kernel) (by decide +kernel) q0
theorem re_now9 (hE : E0 n K R) (hv : M 227 9 = v) (hq : Q (.inl (some (gm_vi v))) n K R M) : gm_Wp X LX d bc bs 266 0 (gm_ent 266 [gm_vr 226]) [] n K R M Q := by
  refine gm_sz (gm_p_load (pc := 0) (i := .aload_n 0) (sr := 2) (j := 0) (by decide +kernel) rfl rfl rfl) ?_
  refine gm_sz (fw_gr (pc := 1) (ix := 13) (ci := 11) (j := 1) (r := 227) (by decide +kernel) (e0k hE (k := 226) (c := 11) (by decide +kernel)) (by decide +kernel) (by decide +kernel) (e0r hE (k := 226) (j := 1) (r := 227) (by decide +kernel))) ?_
  refine gm_sz (gm_p_const (pc := 4) (i := .bipush 9) (v := gm_vi 9) (by decide +kernel) (by decide +kernel)) ?_
  refine gm_sz (fw_ia (pc := 6) (k := 227) (len := 2093) (e0 := 9) (x := v) (by decide +kernel) (e0a hE (k := 227) (q := (0, 2093)) (by decide +kernel)).1 (e0a hE (k := 227) (q := (0, 2093)) (by decide +kernel)).2 (by decide) ⟨by omega, by omega⟩ hv) ?_
  exact gm_r_int (pc := 7) (by decide +kernel) (Or.inl (by decide +kernel)) hq
theorem re_op (hd : 2 ≤ d) (hE : E0 n K R) (hT : TR N h M) (hN : NR N) (h1 : 0 ≤ l ∧ l < 24) (h2 : 0 ≤ N 14 ∧ N 14 < 24) (hq : ∀ M2, fr [(227, none)] M M2 → ws (M2 227) = nopn N l p → (∀ j, 395 ≤ j → M2 227 j = M 227 j) → M2 227 8 = M 227 8 → Q (.inl none) n K R M2) : gm_Wp X LX d bc bs 319 0 (gm_ent 319 [gm_vr 226, gm_vi l, gm_vi p]) [] n K R M Q := by
  refine gm_sz (gm_p_load (pc := 0) (i := .aload_n 0) (sr := 2) (j := 0) (by decide +kernel) rfl rfl rfl) ?_
  refine gm_sz (gm_p_load (pc := 1) (i := .iload_n 1) (sr := 0) (j := 1) (by decide +kernel) rfl rfl rfl) ?_
  refine gm_sz (gm_p_const (pc := 2) (i := .iconst 5) (v := gm_vi 5) (by decide +kernel) (by decide +kernel)) ?_
  refine gm_sz (gm_p_load (pc := 3) (i := .iload_n 2) (sr := 0) (j := 2) (by decide +kernel) rfl rfl rfl) ?_
  refine gm_c_virt (k := 226) (ci := 11) (mj := 272) (ix := 173) (pc := 4) (as := [gm_vi l, gm_vi 5, gm_vi p]) (st := []) (d' := d - 1) (bc' := 0) (bs' := 0) (by decide +kernel) (by decide +kernel) (by decide +kernel) (by decide +kernel) (e0k hE (k := 226) (c := 11) (by decide +kernel)).1 (e0k hE (k := 226) (c := 11) (by decide +kernel)).2 (by decide) (by decide +kernel) (show 3 = gm_na 272 by decide +kernel) (fw_c3 fw_si fw_si fw_si) (show 4 ≤ gm_ml 272 by decide +kernel) (Nat.le_of_ble_eq_true rfl) (by omega) (Nat.zero_le _) (Nat.zero_le _) ?_
  refine re_sl272 hE ⟨by omega, by omega⟩ ⟨by omega, by omega⟩ ?_
  show gm_Wp X LX d _ _ 319 7 _ [] n K _ _ Q
  refine gm_sz (gm_p_load (pc := 7) (i := .aload_n 0) (sr := 2) (j := 0) (by decide +kernel) rfl rfl rfl) ?_
  refine gm_sz (gm_p_load (pc := 8) (i := .iload_n 1) (sr := 0) (j := 1) (by decide +kernel) rfl rfl rfl) ?_
  refine gm_sz (gm_p_const (pc := 9) (i := .bipush 6) (v := gm_vi 6) (by decide +kernel) (by decide +kernel)) ?_
  refine gm_sz (gm_p_load (pc := 11) (i := .aload_n 0) (sr := 2) (j := 0) (by decide +kernel) rfl rfl rfl) ?_
  refine gm_c_virt (k := 226) (ci := 11) (mj := 266) (ix := 162) (pc := 12) (as := []) (st := [gm_vi 6, gm_vi l, gm_vr 226]) (d' := d - 1) (bc' := 0) (bs' := 0) (by decide +kernel) (by decide +kernel) (by decide +kernel) (by decide +kernel) (e0k hE (k := 226) (c := 11) (by decide +kernel)).1 (e0k hE (k := 226) (c := 11) (by decide +kernel)).2 (by decide) (by decide +kernel) (show 0 = gm_na 266 by decide +kernel) fw_c0 (show 1 ≤ gm_ml 266 by decide +kernel) (Nat.le_of_ble_eq_true rfl) (by omega) (Nat.zero_le _) (Nat.zero_le _) ?_
  refine re_now9 hE ((uM_ne (by omega)).trans (tr_w hT (by decide) (by decide) (by decide))) ?_
  show gm_Wp X LX d _ _ 319 15 _ [gm_vi (N 9), gm_vi 6, gm_vi l, gm_vr 226] n K _ _ Q
  refine gm_c_virt (k := 226) (ci := 11) (mj := 272) (ix := 173) (pc := 15) (as := [gm_vi l, gm_vi 6, gm_vi (N 9)]) (st := []) (d' := d - 1) (bc' := 0) (bs' := 0) (by decide +kernel) (by decide +kernel) (by decide +kernel) (by decide +kernel) (e0k hE (k := 226) (c := 11) (by decide +kernel)).1 (e0k hE (k := 226) (c := 11) (by decide +kernel)).2 (by decide) (by decide +kernel) (show 3 = gm_na 272 by decide +kernel) (fw_c3 fw_si fw_si fw_si) (show 4 ≤ gm_ml 272 by decide +kernel) (Nat.le_of_ble_eq_true rfl) (by omega) (Nat.zero_le _) (Nat.zero_le _) ?_
  refine re_sl272 hE ⟨by omega, by omega⟩ ⟨by omega, by omega⟩ ?_
  show gm_Wp X LX d _ _ 319 18 _ [] n K _ _ Q
  refine gm_sz (gm_p_const (pc := 18) (i := .sipush 323) (v := gm_vi 323) (by decide +kernel) (by decide +kernel)) ?_
  refine gm_sz (gm_p_const (pc := 21) (i := .iconst 3) (v := gm_vi 3) (by decide +kernel) (by decide +kernel)) ?_
  refine gm_sz (gm_p_load (pc := 22) (i := .aload_n 0) (sr := 2) (j := 0) (by decide +kernel) rfl rfl rfl) ?_
  refine gm_sz (fw_gr (pc := 23) (ix := 13) (ci := 11) (j := 1) (r := 227) (by decide +kernel) (e0k hE (k := 226) (c := 11) (by decide +kernel)) (by decide +kernel) (by decide +kernel) (e0r hE (k := 226) (j := 1) (r := 227) (by decide +kernel))) ?_
  refine gm_sz (gm_p_const (pc := 26) (i := .bipush 14) (v := gm_vi 14) (by decide +kernel) (by decide +kernel)) ?_
  refine gm_sz (fw_ia (pc := 28) (k := 227) (len := 2093) (e0 := 14) (x := N 14) (by decide +kernel) (e0a hE (k := 227) (q := (0, 2093)) (by decide +kernel)).1 (e0a hE (k := 227) (q := (0, 2093)) (by decide +kernel)).2 (by decide) ⟨by omega, by omega⟩ ((uM_ne (by omega)).trans ((uM_ne (by omega)).trans (tr_w hT (by decide) (by decide) (by decide))))) ?_
  refine gm_sz (gm_p_bin (pc := 29) (i := .imul) (f := fun x y => x * y) (by decide +kernel) rfl) ?_
  refine gm_sz (gm_p_bin (pc := 30) (i := .iadd) (f := fun x y => x + y) (by decide +kernel) rfl) ?_
  refine gm_sz (gm_p_stor (pc := 31) (i := .istore_n 3) (sr := 0) (j := 3) (by decide +kernel) rfl (show 4 ≤ _ from Nat.le_of_ble_eq_true rfl) rfl) ?_
  refine gm_sz (gm_p_load (pc := 32) (i := .aload_n 0) (sr := 2) (j := 0) (by decide +kernel) rfl rfl rfl) ?_
  refine gm_sz (fw_gr (pc := 33) (ix := 13) (ci := 11) (j := 1) (r := 227) (by decide +kernel) (e0k hE (k := 226) (c := 11) (by decide +kernel)) (by decide +kernel) (by decide +kernel) (e0r hE (k := 226) (j := 1) (r := 227) (by decide +kernel))) ?_
  refine gm_sz (gm_p_load (pc := 36) (i := .iload_n 3) (sr := 0) (j := 3) (by decide +kernel) rfl rfl rfl) ?_
  refine gm_sz (gm_p_load (pc := 37) (i := .aload_n 0) (sr := 2) (j := 0) (by decide +kernel) rfl rfl rfl) ?_
  refine gm_c_virt (k := 226) (ci := 11) (mj := 266) (ix := 162) (pc := 38) (as := []) (st := [gm_vi (323 + (3 * (N 14))), gm_vr 227]) (d' := d - 1) (bc' := 0) (bs' := 0) (by decide +kernel) (by decide +kernel) (by decide +kernel) (by decide +kernel) (e0k hE (k := 226) (c := 11) (by decide +kernel)).1 (e0k hE (k := 226) (c := 11) (by decide +kernel)).2 (by decide) (by decide +kernel) (show 0 = gm_na 266 by decide +kernel) fw_c0 (show 1 ≤ gm_ml 266 by decide +kernel) (Nat.le_of_ble_eq_true rfl) (by omega) (Nat.zero_le _) (Nat.zero_le _) ?_
  refine re_now9 hE ((uM_ne (by omega)).trans ((uM_ne (by omega)).trans (tr_w hT (by decide) (by decide) (by decide)))) ?_
  show gm_Wp X LX d _ _ 319 41 _ [gm_vi (N 9), gm_vi (323 + (3 * (N 14))), gm_vr 227] n K _ _ Q
  refine gm_sz (fw_is (pc := 41) (k := 227) (len := 2093) (e0 := 323 + (3 * (N 14))) (x := N 9) (M' := gm_uM (gm_uM (gm_uM M 227 ((119 + (7 * l)) + 5) p) 227 ((119 + (7 * l)) + 6) (N 9)) 227 (323 + (3 * (N 14))) (N 9)) (by decide +kernel) (e0a hE (k := 227) (q := (0, 2093)) (by decide +kernel)).1 (e0a hE (k := 227) (q := (0, 2093)) (by decide +kernel)).2 (by decide) ⟨by omega, by omega⟩ rfl) ?_
  refine gm_sz (gm_p_load (pc := 42) (i := .aload_n 0) (sr := 2) (j := 0) (by decide +kernel) rfl rfl rfl) ?_
  refine gm_sz (fw_gr (pc := 43) (ix := 13) (ci := 11) (j := 1) (r := 227) (by decide +kernel) (e0k hE (k := 226) (c := 11) (by decide +kernel)) (by decide +kernel) (by decide +kernel) (e0r hE (k := 226) (j := 1) (r := 227) (by decide +kernel))) ?_
  refine gm_sz (gm_p_load (pc := 46) (i := .iload_n 3) (sr := 0) (j := 3) (by decide +kernel) rfl rfl rfl) ?_
  refine gm_sz (gm_p_const (pc := 47) (i := .iconst 1) (v := gm_vi 1) (by decide +kernel) (by decide +kernel)) ?_
  refine gm_sz (gm_p_bin (pc := 48) (i := .iadd) (f := fun x y => x + y) (by decide +kernel) rfl) ?_
  refine gm_sz (gm_p_load (pc := 49) (i := .iload_n 1) (sr := 0) (j := 1) (by decide +kernel) rfl rfl rfl) ?_
  refine gm_sz (fw_is (pc := 50) (k := 227) (len := 2093) (e0 := (323 + (3 * (N 14))) + 1) (x := l) (M' := gm_uM (gm_uM (gm_uM (gm_uM M 227 ((119 + (7 * l)) + 5) p) 227 ((119 + (7 * l)) + 6) (N 9)) 227 (323 + (3 * (N 14))) (N 9)) 227 ((323 + (3 * (N 14))) + 1) l) (by decide +kernel) (e0a hE (k := 227) (q := (0, 2093)) (by decide +kernel)).1 (e0a hE (k := 227) (q := (0, 2093)) (by decide +kernel)).2 (by decide) ⟨by omega, by omega⟩ rfl) ?_
  refine gm_sz (gm_p_load (pc := 51) (i := .aload_n 0) (sr := 2) (j := 0) (by decide +kernel) rfl rfl rfl) ?_
  refine gm_sz (fw_gr (pc := 52) (ix := 13) (ci := 11) (j := 1) (r := 227) (by decide +kernel) (e0k hE (k := 226) (c := 11) (by decide +kernel)) (by decide +kernel) (by decide +kernel) (e0r hE (k := 226) (j := 1) (r := 227) (by decide +kernel))) ?_
  refine gm_sz (gm_p_load (pc := 55) (i := .iload_n 3) (sr := 0) (j := 3) (by decide +kernel) rfl rfl rfl) ?_
  refine gm_sz (gm_p_const (pc := 56) (i := .iconst 2) (v := gm_vi 2) (by decide +kernel) (by decide +kernel)) ?_
  refine gm_sz (gm_p_bin (pc := 57) (i := .iadd) (f := fun x y => x + y) (by decide +kernel) rfl) ?_
  refine gm_sz (gm_p_load (pc := 58) (i := .iload_n 2) (sr := 0) (j := 2) (by decide +kernel) rfl rfl rfl) ?_
  refine gm_sz (fw_is (pc := 59) (k := 227) (len := 2093) (e0 := (323 + (3 * (N 14))) + 2) (x := p) (M' := gm_uM (gm_uM (gm_uM (gm_uM (gm_uM M 227 ((119 + (7 * l)) + 5) p) 227 ((119 + (7 * l)) + 6) (N 9)) 227 (323 + (3 * (N 14))) (N 9)) 227 ((323 + (3 * (N 14))) + 1) l) 227 ((323 + (3 * (N 14))) + 2) p) (by decide +kernel) (e0a hE (k := 227) (q := (0, 2093)) (by decide +kernel)).1 (e0a hE (k := 227) (q := (0, 2093)) (by decide +kernel)).2 (by decide) ⟨by omega, by omega⟩ rfl) ?_
  refine gm_sz (gm_p_load (pc := 60) (i := .aload_n 0) (sr := 2) (j := 0) (by decide +kernel) rfl rfl rfl) ?_
  refine gm_sz (fw_gr (pc := 61) (ix := 13) (ci := 11) (j := 1) (r := 227) (by decide +kernel) (e0k hE (k := 226) (c := 11) (by decide +kernel)) (by decide +kernel) (by decide +kernel) (e0r hE (k := 226) (j := 1) (r := 227) (by decide +kernel))) ?_
  refine gm_sz (gm_p_const (pc := 64) (i := .bipush 14) (v := gm_vi 14) (by decide +kernel) (by decide +kernel)) ?_
  refine gm_sz (gm_p_dup2 (pc := 66) (by decide +kernel) fw_si fw_sr) ?_
  refine gm_sz (fw_ia (pc := 67) (k := 227) (len := 2093) (e0 := 14) (x := N 14) (by decide +kernel) (e0a hE (k := 227) (q := (0, 2093)) (by decide +kernel)).1 (e0a hE (k := 227) (q := (0, 2093)) (by decide +kernel)).2 (by decide) ⟨by omega, by omega⟩ ((uM_ne (by omega)).trans ((uM_ne (by omega)).trans ((uM_ne (by omega)).trans ((uM_ne (by omega)).trans ((uM_ne (by omega)).trans (tr_w hT (by decide) (by decide) (by decide)))))))) ?_
  refine gm_sz (gm_p_const (pc := 68) (i := .iconst 1) (v := gm_vi 1) (by decide +kernel) (by decide +kernel)) ?_
  refine gm_sz (gm_p_bin (pc := 69) (i := .iadd) (f := fun x y => x + y) (by decide +kernel) rfl) ?_
  refine gm_sz (fw_is (pc := 70) (k := 227) (len := 2093) (e0 := 14) (x := (N 14) + 1) (M' := gm_uM (gm_uM (gm_uM (gm_uM (gm_uM (gm_uM M 227 ((119 + (7 * l)) + 5) p) 227 ((119 + (7 * l)) + 6) (N 9)) 227 (323 + (3 * (N 14))) (N 9)) 227 ((323 + (3 * (N 14))) + 1) l) 227 ((323 + (3 * (N 14))) + 2) p) 227 14 ((N 14) + 1)) (by decide +kernel) (e0a hE (k := 227) (q := (0, 2093)) (by decide +kernel)).1 (e0a hE (k := 227) (q := (0, 2093)) (by decide +kernel)).2 (by decide) ⟨by omega, by omega⟩ rfl) ?_
  have e1 : (gm_uM (gm_uM (gm_uM (gm_uM (gm_uM (gm_uM M 227 ((119 + (7 * l)) + 5) p) 227 ((119 + (7 * l)) + 6) (N 9)) 227 (323 + (3 * (N 14))) (N 9)) 227 ((323 + (3 * (N 14))) + 1) l) 227 ((323 + (3 * (N 14))) + 2) p) 227 14 ((N 14) + 1)) 227 = nup (nup (nup (nup (nup (nup (M 227) ((119 + (7 * l)) + 5) (p)) ((119 + (7 * l)) + 6) (N 9)) (323 + (3 * (N 14))) (N 9)) ((323 + (3 * (N 14))) + 1) (l)) ((323 + (3 * (N 14))) + 2) (p)) (14) ((N 14) + 1) := by
    exact (nup_s (nup_s (nup_s (nup_s (nup_s (nup_s rfl))))))
  have e2 : ws (nup (nup (nup (nup (nup (nup (M 227) ((119 + (7 * l)) + 5) (p)) ((119 + (7 * l)) + 6) (N 9)) (323 + (3 * (N 14))) (N 9)) ((323 + (3 * (N 14))) + 1) (l)) ((323 + (3 * (N 14))) + 2) (p)) (14) ((N 14) + 1)) = nup (nup (nup (nup (nup (nup (ws (M 227)) (119 + (l * 7 + 5)) (p)) (119 + (l * 7 + 6)) (N 9)) (323 + (N 14 * 3 + 0)) (N 9)) (323 + (N 14 * 3 + 1)) (l)) (323 + (N 14 * 3 + 2)) (p)) (14) (N 14 + 1) := by
    rw [ws_put (k := 14) ⟨by omega, by omega, by omega⟩, ws_put (k := (323 + (3 * (N 14))) + 2) ⟨by omega, by omega, by omega⟩, ws_put (k := (323 + (3 * (N 14))) + 1) ⟨by omega, by omega, by omega⟩, ws_put (k := 323 + (3 * (N 14))) ⟨by omega, by omega, by omega⟩, ws_put (k := (119 + (7 * l)) + 6) ⟨by omega, by omega, by omega⟩, ws_put (k := (119 + (7 * l)) + 5) ⟨by omega, by omega, by omega⟩]
    rw [show (323 + (3 * (N 14))) + 1 = 323 + (N 14 * 3 + 1) by omega, show (323 + (3 * (N 14))) + 2 = 323 + (N 14 * 3 + 2) by omega, show (119 + (7 * l)) + 5 = 119 + (l * 7 + 5) by omega, show (119 + (7 * l)) + 6 = 119 + (l * 7 + 6) by omega, show 323 + (3 * (N 14)) = 323 + (N 14 * 3 + 0) by omega]
  have e3 : ws ((gm_uM (gm_uM (gm_uM (gm_uM (gm_uM (gm_uM M 227 ((119 + (7 * l)) + 5) p) 227 ((119 + (7 * l)) + 6) (N 9)) 227 (323 + (3 * (N 14))) (N 9)) 227 ((323 + (3 * (N 14))) + 1) l) 227 ((323 + (3 * (N 14))) + 2) p) 227 14 ((N 14) + 1)) 227) = nopn N l p := by
    rw [e1, e2, hT.1]
    funext i
    unfold nopn
    by_cases h14 : i = 14
    · subst h14
      rw [nup_at, nup_ne (by omega), nup_ne (by omega), nup_ne (by omega), nup_at]
    · rw [nup_ne h14]
      unfold nup
      try dsimp only
      rw [if_neg h14]
  exact gm_r_void (pc := 71) (by decide +kernel) (by decide +kernel) (hq (gm_uM (gm_uM (gm_uM (gm_uM (gm_uM (gm_uM M 227 ((119 + (7 * l)) + 5) p) 227 ((119 + (7 * l)) + 6) (N 9)) 227 (323 + (3 * (N 14))) (N 9)) 227 ((323 + (3 * (N 14))) + 1) l) 227 ((323 + (3 * (N 14))) + 2) p) 227 14 ((N 14) + 1)) (fr_p (fr_p (fr_p (fr_p (fr_p (fr_p fr_0 (Or.inl (by decide))) (Or.inl (by decide))) (Or.inl (by decide))) (Or.inl (by decide))) (Or.inl (by decide))) (Or.inl (by decide))) e3 (fun j hj => ((uM_ne (by omega)).trans ((uM_ne (by omega)).trans ((uM_ne (by omega)).trans ((uM_ne (by omega)).trans ((uM_ne (by omega)).trans ((uM_ne (by omega)).trans rfl))))))) ((uM_ne (by omega)).trans ((uM_ne (by omega)).trans ((uM_ne (by omega)).trans ((uM_ne (by omega)).trans ((uM_ne (by omega)).trans ((uM_ne (by omega)).trans rfl)))))))
theorem rw_c302 (hd : 18 ≤ d) (hE : E0 n K R) (hT : TR N h M) (hN : NR N) (hfw : FLR X LX n K R N h FI φ) (hI : FI M) (h1 : 0 ≤ l ∧ l < N 4) (ho : OUTR N h φ l (o l) (dd l)) (q1 : WTS N l (o l) → ∀ M2, fr [(226, some 29), (226, some 30), (226, some 26), (226, some 17), (226, some 18), (226, some 19), (226, some 20), (226, some 21), (226, some 22), (226, some 23), (235, none), (233, none), (236, none), (237, none)] M M2 → FI M2 → M2 226 29 = o l → M2 237 (o l) = dd l → Q (.inl (some (gm_vi 1))) n K R M2) (q0 : ¬ WTS N l (o l) → ∀ M2, fr [(226, some 29), (226, some 30), (226, some 26), (226, some 17), (226, some 18), (226, some 19), (226, some 20), (226, some 21), (226, some 22), (226, some 23), (235, none), (233, none), (236, none), (237, none)] M M2 → FI M2 → Q (.inl (some (gm_vi 0))) n K R M2) : gm_Wp X LX d bc bs 302 0 (gm_ent 302 [gm_vr 226, gm_vi l]) [] n K R M Q := by
  obtain ⟨⟨⟨a0, b0⟩, ⟨a1, b1⟩, ⟨a10, b10⟩, ⟨a11, b11⟩, ⟨a12, b12⟩, a9, b9⟩, ⟨⟨a2, b2⟩, ⟨a5, b5⟩, ⟨a3, b3⟩, ⟨a4, b4⟩, ⟨a6, b6⟩, ⟨a14, b14⟩, ⟨a7, b7⟩, a13, b13⟩, rF, rP, rL⟩ := id hN
  obtain ⟨r0, r1, r2, r3, -, r5, -⟩ := rL l h1.1 h1.2
  have r59 : -1 ≤ N (119 + (l * 7 + 5)) ∧ N (119 + (l * 7 + 5)) < N 3 := r5
  have rk9 : (if (N (119 + (l * 7 + 0))) = -1 then (1 : Int) else 0) = 1 ∧ (N (119 + (l * 7 + 0))) = -1 ∨ (if (N (119 + (l * 7 + 0))) = -1 then (1 : Int) else 0) = 0 ∧ ¬ (N (119 + (l * 7 + 0))) = -1 := by
    by_cases hh : (N (119 + (l * 7 + 0))) = -1
    · exact Or.inl ⟨if_pos hh, hh⟩
    · exact Or.inr ⟨if_neg hh, hh⟩
  refine gm_sz (gm_p_load (pc := 0) (i := .aload_n 0) (sr := 2) (j := 0) (by decide +kernel) rfl rfl rfl) ?_
  refine gm_sz (gm_p_load (pc := 1) (i := .iload_n 1) (sr := 0) (j := 1) (by decide +kernel) rfl rfl rfl) ?_
  refine gm_c_virt (k := 226) (ci := 11) (mj := 303) (ix := 374) (pc := 2) (as := [gm_vi l]) (st := []) (d' := d - 1) (bc' := 0) (bs' := 0) (by decide +kernel) (by decide +kernel) (by decide +kernel) (by decide +kernel) (e0k hE (k := 226) (c := 11) (by decide +kernel)).1 (e0k hE (k := 226) (c := 11) (by decide +kernel)).2 (by decide) (by decide +kernel) (show 1 = gm_na 303 by decide +kernel) (fw_c1 fw_si) (show 2 ≤ gm_ml 303 by decide +kernel) (Nat.le_of_ble_eq_true rfl) (by omega) (Nat.zero_le _) (Nat.zero_le _) ?_
  refine re_rk (by omega) hE hT hN ⟨by omega, by omega⟩ ?_
  show gm_Wp X LX d _ _ 302 5 _ [gm_vi (if (N (119 + (l * 7 + 0))) = -1 then (1 : Int) else 0)] n K _ _ Q
  refine fw_if (cc := .ne) (pc := 5) (off := 12) (by decide +kernel) (by decide) ⟨by omega, by omega⟩ (fun h5 => ?_) (fun h5 => ?_)
  · have h5 : ¬ (if (N (119 + (l * 7 + 0))) = -1 then (1 : Int) else 0) = 0 := h5
    refine gm_sz (gm_p_const (pc := 17) (i := .iconst 0) (v := gm_vi 0) (by decide +kernel) (by decide +kernel)) ?_
    have a9 : ¬ WTS N l (o l) := fun ⟨a1, a2, a3, a4⟩ => by omega
    exact gm_r_int (pc := 18) (by decide +kernel) (Or.inr ⟨(by decide +kernel), Or.inl rfl⟩) (q0 a9 M fr_0 hI)
  · have h5 : (if (N (119 + (l * 7 + 0))) = -1 then (1 : Int) else 0) = 0 := Classical.not_not.mp h5
    refine gm_sz (gm_p_load (pc := 8) (i := .aload_n 0) (sr := 2) (j := 0) (by decide +kernel) rfl rfl rfl) ?_
    refine gm_sz (gm_p_load (pc := 9) (i := .iload_n 1) (sr := 0) (j := 1) (by decide +kernel) rfl rfl rfl) ?_
    refine gm_sz (gm_p_const (pc := 10) (i := .iconst 5) (v := gm_vi 5) (by decide +kernel) (by decide +kernel)) ?_
    refine gm_c_virt (k := 226) (ci := 11) (mj := 301) (ix := 82) (pc := 11) (as := [gm_vi l, gm_vi 5]) (st := []) (d' := d - 1) (bc' := 0) (bs' := 0) (by decide +kernel) (by decide +kernel) (by decide +kernel) (by decide +kernel) (e0k hE (k := 226) (c := 11) (by decide +kernel)).1 (e0k hE (k := 226) (c := 11) (by decide +kernel)).2 (by decide) (by decide +kernel) (show 2 = gm_na 301 by decide +kernel) (fw_c2 fw_si fw_si) (show 3 ≤ gm_ml 301 by decide +kernel) (Nat.le_of_ble_eq_true rfl) (by omega) (Nat.zero_le _) (Nat.zero_le _) ?_
    refine re_ol hE hT hN ⟨by omega, by omega⟩ ⟨by omega, by omega⟩ ?_
    show gm_Wp X LX d _ _ 302 14 _ [gm_vi (N (119 + (l * 7 + 5)))] n K _ _ Q
    refine fw_if (cc := .lt) (pc := 14) (off := 5) (by decide +kernel) (by decide) ⟨by omega, by omega⟩ (fun h14 => ?_) (fun h14 => ?_)
    · have h14 : (N (119 + (l * 7 + 5))) < 0 := h14
      refine gm_sz (gm_p_load (pc := 19) (i := .aload_n 0) (sr := 2) (j := 0) (by decide +kernel) rfl rfl rfl) ?_
      refine gm_sz (gm_p_load (pc := 20) (i := .iload_n 1) (sr := 0) (j := 1) (by decide +kernel) rfl rfl rfl) ?_
      refine gm_c_virt (k := 226) (ci := 11) (mj := 304) (ix := 387) (pc := 21) (as := [gm_vi l]) (st := []) (d' := d - 1) (bc' := 0) (bs' := 0) (by decide +kernel) (by decide +kernel) (by decide +kernel) (by decide +kernel) (e0k hE (k := 226) (c := 11) (by decide +kernel)).1 (e0k hE (k := 226) (c := 11) (by decide +kernel)).2 (by decide) (by decide +kernel) (show 1 = gm_na 304 by decide +kernel) (fw_c1 fw_si) (show 2 ≤ gm_ml 304 by decide +kernel) (Nat.le_of_ble_eq_true rfl) (by omega) (Nat.zero_le _) (Nat.zero_le _) ?_
      refine re_c304 (l := l) (by omega) hE hT hN hfw hI ⟨by omega, by omega⟩ (fun M21 hf21 hI21 hr21 => ?_)
      show gm_Wp X LX d _ _ 302 24 _ [gm_vi (M21 226 29)] n K _ _ Q
      obtain ⟨e29, e37⟩ := rrun_o hr21 r3.1 ho
      have ob := OUTR_b ho r3.1
      refine gm_sz (gm_p_stor (pc := 24) (i := .istore_n 2) (sr := 0) (j := 2) (by decide +kernel) rfl (show 3 ≤ _ from Nat.le_of_ble_eq_true rfl) rfl) ?_
      refine gm_sz (gm_p_load (pc := 25) (i := .iload_n 2) (sr := 0) (j := 2) (by decide +kernel) rfl rfl rfl) ?_
      refine fw_if (cc := .lt) (pc := 26) (off := 15) (by decide +kernel) (by decide) ⟨by omega, by omega⟩ (fun h26 => ?_) (fun h26 => ?_)
      · have h26 : (M21 226 29) < 0 := h26
        refine gm_sz (gm_p_const (pc := 41) (i := .iconst 0) (v := gm_vi 0) (by decide +kernel) (by decide +kernel)) ?_
        have a9 : ¬ WTS N l (o l) := fun ⟨a1, a2, a3, a4⟩ => by omega
        exact gm_r_int (pc := 42) (by decide +kernel) (Or.inr ⟨(by decide +kernel), Or.inl rfl⟩) (q0 a9 M21 (fr_t fr_0 hf21 (by decide)) hI21)
      · have h26 : ¬ (M21 226 29) < 0 := h26
        refine gm_sz (gm_p_load (pc := 29) (i := .iload_n 2) (sr := 0) (j := 2) (by decide +kernel) rfl rfl rfl) ?_
        refine gm_sz (gm_p_load (pc := 30) (i := .aload_n 0) (sr := 2) (j := 0) (by decide +kernel) rfl rfl rfl) ?_
        refine gm_c_virt (k := 226) (ci := 11) (mj := 266) (ix := 162) (pc := 31) (as := []) (st := [gm_vi (M21 226 29)]) (d' := d - 1) (bc' := 0) (bs' := 0) (by decide +kernel) (by decide +kernel) (by decide +kernel) (by decide +kernel) (e0k hE (k := 226) (c := 11) (by decide +kernel)).1 (e0k hE (k := 226) (c := 11) (by decide +kernel)).2 (by decide) (by decide +kernel) (show 0 = gm_na 266 by decide +kernel) fw_c0 (show 1 ≤ gm_ml 266 by decide +kernel) (Nat.le_of_ble_eq_true rfl) (by omega) (Nat.zero_le _) (Nat.zero_le _) ?_
        refine re_now9 hE ((fr_c hf21 (by decide)).trans (tr_w hT (by decide) (by decide) (by decide))) ?_
        show gm_Wp X LX d _ _ 302 34 _ [gm_vi (N 9), gm_vi (M21 226 29)] n K _ _ Q
        refine fw_ic (cc := .gt) (pc := 34) (off := 7) (by decide +kernel) (by decide) ⟨by omega, by omega⟩ ⟨by omega, by omega⟩ (fun h34 => ?_) (fun h34 => ?_)
        · have h34 : (N 9) < (M21 226 29) := h34
          refine gm_sz (gm_p_const (pc := 41) (i := .iconst 0) (v := gm_vi 0) (by decide +kernel) (by decide +kernel)) ?_
          have a9 : ¬ WTS N l (o l) := fun ⟨a1, a2, a3, a4⟩ => by omega
          exact gm_r_int (pc := 42) (by decide +kernel) (Or.inr ⟨(by decide +kernel), Or.inl rfl⟩) (q0 a9 M21 (fr_t fr_0 hf21 (by decide)) hI21)
        · have h34 : ¬ (N 9) < (M21 226 29) := h34
          refine gm_sz (gm_p_const (pc := 37) (i := .iconst 1) (v := gm_vi 1) (by decide +kernel) (by decide +kernel)) ?_
          refine gm_sz (gm_p_goto (pc := 38) (off := 4) (by decide +kernel) (by decide)) ?_
          have a9 : WTS N l (o l) := ⟨by omega, by omega, by omega, by omega⟩
          exact gm_r_int (pc := 42) (by decide +kernel) (Or.inr ⟨(by decide +kernel), Or.inr rfl⟩) (q1 a9 M21 (fr_t fr_0 hf21 (by decide)) hI21 e29 (e37 (by omega)))
    · have h14 : ¬ (N (119 + (l * 7 + 5))) < 0 := h14
      refine gm_sz (gm_p_const (pc := 17) (i := .iconst 0) (v := gm_vi 0) (by decide +kernel) (by decide +kernel)) ?_
      have a9 : ¬ WTS N l (o l) := fun ⟨a1, a2, a3, a4⟩ => by omega
      exact gm_r_int (pc := 18) (by decide +kernel) (Or.inr ⟨(by decide +kernel), Or.inl rfl⟩) (q0 a9 M fr_0 hI)
theorem rm_b (hd : 19 ≤ d) (hE : E0 n K R) (hT : TR N h M) (hN : NR N) (hg : LOGI N) (hfw : FLR X LX n K R N h FI φ) (hI : FI M) (hst : RSt FI) (hmo : MOR X LX n K R N h FI (Ψ N)) (hFX : ∀ M M2, FI M → fr [(227, none)] M M2 → (∀ j, 395 ≤ j → M2 227 j = M 227 j) → M2 227 8 = M 227 8 → FI M2) (h1 : 0 ≤ l ∧ l < N 4) (ho : OUTR N h φ l (o l) (dd l)) (hc : 0 ≤ c ∧ c ≤ 24) (hq : ∀ z M2, fr [(226, some 29), (226, some 30), (226, some 26), (226, some 17), (226, some 18), (226, some 19), (226, some 20), (226, some 21), (226, some 22), (226, some 23), (235, none), (233, none), (236, none), (237, none), (227, none)] M M2 → FI M2 → ((∀ j, 395 ≤ j → M2 227 j = M 227 j) ∧ M2 227 8 = M 227 8) → ws (M2 227) = (ystep Ψ o dd l (N, c)).1 → gm_Wp X LX d bc bs 321 15 [some (gm_vr 226), some (gm_vi (ystep Ψ o dd l (N, c)).2), some (gm_vi (l + 1)), z] [] n K R M2 Q) (z : Option gm_V) : gm_Wp X LX d bc bs 321 15 [some (gm_vr 226), some (gm_vi c), some (gm_vi l), z] [] n K R M Q := by
  obtain ⟨⟨⟨a0, b0⟩, ⟨a1, b1⟩, ⟨a10, b10⟩, ⟨a11, b11⟩, ⟨a12, b12⟩, a9, b9⟩, ⟨⟨a2, b2⟩, ⟨a5, b5⟩, ⟨a3, b3⟩, ⟨a4, b4⟩, ⟨a6, b6⟩, ⟨a14, b14⟩, ⟨a7, b7⟩, a13, b13⟩, rF, rP, rL⟩ := id hN
  have hl24 : 0 ≤ l ∧ l < 24 := ⟨h1.1, by omega⟩
  obtain ⟨r0, -, -, r3, -⟩ := rL l h1.1 h1.2
  have ob := OUTR_b ho r3.1
  refine gm_sz (gm_p_load (pc := 15) (i := .iload_n 2) (sr := 0) (j := 2) (by decide +kernel) rfl rfl rfl) ?_
  refine gm_sz (gm_p_load (pc := 16) (i := .aload_n 0) (sr := 2) (j := 0) (by decide +kernel) rfl rfl rfl) ?_
  refine gm_c_virt (k := 226) (ci := 11) (mj := 254) (ix := 100) (pc := 17) (as := []) (st := [gm_vi l]) (d' := d - 1) (bc' := 0) (bs' := 0) (by decide +kernel) (by decide +kernel) (by decide +kernel) (by decide +kernel) (e0k hE (k := 226) (c := 11) (by decide +kernel)).1 (e0k hE (k := 226) (c := 11) (by decide +kernel)).2 (by decide) (by decide +kernel) (show 0 = gm_na 254 by decide +kernel) fw_c0 (show 1 ≤ gm_ml 254 by decide +kernel) (Nat.le_of_ble_eq_true rfl) (by omega) (Nat.zero_le _) (Nat.zero_le _) ?_
  refine re_let hE hT hN ?_
  show gm_Wp X LX d _ _ 321 20 _ [gm_vi (N 4), gm_vi l] n K _ _ Q
  refine fw_icf (cc := .ge) (pc := 20) (off := 43) (by decide +kernel) (by decide) ⟨by omega, by omega⟩ ⟨by omega, by omega⟩ (show ¬ (N 4) ≤ l by omega) ?_
  refine gm_sz (gm_p_load (pc := 23) (i := .aload_n 0) (sr := 2) (j := 0) (by decide +kernel) rfl rfl rfl) ?_
  refine gm_sz (gm_p_load (pc := 24) (i := .iload_n 2) (sr := 0) (j := 2) (by decide +kernel) rfl rfl rfl) ?_
  refine gm_c_virt (k := 226) (ci := 11) (mj := 302) (ix := 390) (pc := 25) (as := [gm_vi l]) (st := []) (d' := d - 1) (bc' := 0) (bs' := 0) (by decide +kernel) (by decide +kernel) (by decide +kernel) (by decide +kernel) (e0k hE (k := 226) (c := 11) (by decide +kernel)).1 (e0k hE (k := 226) (c := 11) (by decide +kernel)).2 (by decide) (by decide +kernel) (show 1 = gm_na 302 by decide +kernel) (fw_c1 fw_si) (show 2 ≤ gm_ml 302 by decide +kernel) (Nat.le_of_ble_eq_true rfl) (by omega) (Nat.zero_le _) (Nat.zero_le _) ?_
  refine rw_c302 (o := o) (dd := dd) (by omega) hE hT hN hfw hI h1 ho (fun v25 M25 hf25 hI25 e29 e37 => ?_) (fun v25 M25 hf25 hI25 => ?_)
  · show gm_Wp X LX d _ _ 321 28 _ [gm_vi 1] n K _ _ Q
    have w33 : 0 ≤ (N (119 + (l * 7 + 0))) := by have := v25.1; omega
    have b25 := opf_b (ψ := Ψ N) (dp := dd l) hN h1 w33
    refine fw_iffd (cc := .eq) (pc := 28) (off := 11) (by decide +kernel) (by decide) ⟨by decide, by decide⟩ (by decide) ?_
    refine gm_sz (gm_p_load (pc := 31) (i := .aload_n 0) (sr := 2) (j := 0) (by decide +kernel) rfl rfl rfl) ?_
    refine gm_sz (gm_p_load (pc := 32) (i := .iload_n 2) (sr := 0) (j := 2) (by decide +kernel) rfl rfl rfl) ?_
    refine gm_c_virt (k := 226) (ci := 11) (mj := 322) (ix := 420) (pc := 33) (as := [gm_vi l]) (st := []) (d' := d - 1) (bc' := 0) (bs' := 0) (by decide +kernel) (by decide +kernel) (by decide +kernel) (by decide +kernel) (e0k hE (k := 226) (c := 11) (by decide +kernel)).1 (e0k hE (k := 226) (c := 11) (by decide +kernel)).2 (by decide) (by decide +kernel) (show 1 = gm_na 322 by decide +kernel) (fw_c1 fw_si) (show 2 ≤ gm_ml 322 by decide +kernel) (Nat.le_of_ble_eq_true rfl) (by omega) (Nat.zero_le _) (Nat.zero_le _) ?_
    refine ro_c322 (dp := dd l) (by omega) hE (tr_fr (W := [(226, some 29), (226, some 30), (226, some 26), (226, some 17), (226, some 18), (226, some 19), (226, some 20), (226, some 21), (226, some 22), (226, some 23), (235, none), (233, none), (236, none), (237, none)]) hT (fr_t fr_0 hf25 (by decide)) (by decide)) hN hst hmo hI25 h1 w33 (by rw [e29]; exact ⟨by have := v25.2.2.1; omega, by omega⟩) (by rw [e29]; exact e37) (fun M33 hf33 => ?_)
    show gm_Wp X LX d _ _ 321 36 _ [gm_vi (opf N (Ψ N) l (dd l))] n K _ _ Q
    refine gm_sz (gm_p_goto (pc := 36) (off := 4) (by decide +kernel) (by decide)) ?_
    refine gm_sz (gm_p_stor (pc := 40) (i := .istore_n 3) (sr := 0) (j := 3) (by decide +kernel) rfl (show 4 ≤ _ from Nat.le_of_ble_eq_true rfl) rfl) ?_
    refine gm_sz (gm_p_load (pc := 41) (i := .iload_n 3) (sr := 0) (j := 3) (by decide +kernel) rfl rfl rfl) ?_
    refine fw_if (cc := .ge) (pc := 42) (off := 6) (by decide +kernel) (by decide) ⟨by omega, by omega⟩ (fun h42 => ?_) (fun h42 => ?_)
    · have h42 : 0 ≤ (opf N (Ψ N) l (dd l)) := h42
      refine gm_sz (gm_p_load (pc := 48) (i := .aload_n 0) (sr := 2) (j := 0) (by decide +kernel) rfl rfl rfl) ?_
      refine gm_sz (gm_p_load (pc := 49) (i := .iload_n 2) (sr := 0) (j := 2) (by decide +kernel) rfl rfl rfl) ?_
      refine gm_sz (gm_p_load (pc := 50) (i := .iload_n 3) (sr := 0) (j := 3) (by decide +kernel) rfl rfl rfl) ?_
      refine gm_c_virt (k := 226) (ci := 11) (mj := 319) (ix := 414) (pc := 51) (as := [gm_vi l, gm_vi (opf N (Ψ N) l (dd l))]) (st := []) (d' := d - 1) (bc' := 0) (bs' := 0) (by decide +kernel) (by decide +kernel) (by decide +kernel) (by decide +kernel) (e0k hE (k := 226) (c := 11) (by decide +kernel)).1 (e0k hE (k := 226) (c := 11) (by decide +kernel)).2 (by decide) (by decide +kernel) (show 2 = gm_na 319 by decide +kernel) (fw_c2 fw_si fw_si) (show 3 ≤ gm_ml 319 by decide +kernel) (Nat.le_of_ble_eq_true rfl) (by omega) (Nat.zero_le _) (Nat.zero_le _) ?_
      refine re_op (by omega) hE (tr_fr (W := [(226, some 29), (226, some 30), (226, some 26), (226, some 17), (226, some 18), (226, some 19), (226, some 20), (226, some 21), (226, some 22), (226, some 23), (235, none), (233, none), (236, none), (237, none)]) hT (fr_t (fr_t fr_0 hf25 (by decide)) hf33 (by decide)) (by decide)) hN hl24 (logi_lt hN hg h1 v25.2.1) (fun M51 hf51 hw51 hg51 hg8 => ?_)
      show gm_Wp X LX d _ _ 321 54 _ [] n K _ _ Q
      refine gm_sz (gm_p_iinc (pc := 54) (j := 1) (z := 1) (by decide +kernel) rfl) ?_
      refine gm_sz (gm_p_iinc (pc := 57) (j := 2) (z := 1) (by decide +kernel) rfl) ?_
      refine gm_sz (gm_p_goto (pc := 60) (off := (-45)) (by decide +kernel) (by decide)) ?_
      have e9 : ystep Ψ o dd l (N, c) = (nopn N l (opf N (Ψ N) l (dd l)), c + 1) := tif_t ⟨v25, show ¬ opf N (Ψ N) l (dd l) = -1 by omega⟩
      rw [e9] at hq
      exact hq _ M51 (fr_t (fr_t (fr_t fr_0 hf25 (by decide)) hf33 (by decide)) hf51 (by decide)) (hFX _ _ (hst [(226, some 17), (226, some 18), (226, some 19), (226, some 20), (226, some 21), (226, some 22), (226, some 23), (233, none)] _ _ (by decide) hf33 hI25) hf51 hg51 hg8) ⟨fun j hj => (hg51 j hj).trans ((fr_c hf33 (by decide)).trans (fr_c hf25 (by decide))), hg8.trans ((fr_c hf33 (by decide)).trans (fr_c hf25 (by decide)))⟩ hw51
    · have h42 : ¬ 0 ≤ (opf N (Ψ N) l (dd l)) := h42
      refine gm_sz (gm_p_goto (pc := 45) (off := 12) (by decide +kernel) (by decide)) ?_
      refine gm_sz (gm_p_iinc (pc := 57) (j := 2) (z := 1) (by decide +kernel) rfl) ?_
      refine gm_sz (gm_p_goto (pc := 60) (off := (-45)) (by decide +kernel) (by decide)) ?_
      have e9 : ystep Ψ o dd l (N, c) = (N, c) := tif_f (fun hh => hh.2 (show opf N (Ψ N) l (dd l) = -1 by omega))
      rw [e9] at hq
      exact hq _ M33 (fr_t (fr_t fr_0 hf25 (by decide)) hf33 (by decide)) (hst [(226, some 17), (226, some 18), (226, some 19), (226, some 20), (226, some 21), (226, some 22), (226, some 23), (233, none)] _ _ (by decide) hf33 hI25) ⟨fun j hj => (fr_c hf33 (by decide)).trans (fr_c hf25 (by decide)), (fr_c hf33 (by decide)).trans (fr_c hf25 (by decide))⟩ (tr_fr (W := [(226, some 29), (226, some 30), (226, some 26), (226, some 17), (226, some 18), (226, some 19), (226, some 20), (226, some 21), (226, some 22), (226, some 23), (235, none), (233, none), (236, none), (237, none)]) hT (fr_t (fr_t fr_0 hf25 (by decide)) hf33 (by decide)) (by decide)).1
  · show gm_Wp X LX d _ _ 321 28 _ [gm_vi 0] n K _ _ Q
    refine fw_iftd (cc := .eq) (pc := 28) (off := 11) (by decide +kernel) (by decide) ⟨by decide, by decide⟩ (by decide) ?_
    refine gm_sz (gm_p_const (pc := 39) (i := .iconst (-1)) (v := gm_vi (-1)) (by decide +kernel) (by decide +kernel)) ?_
    refine gm_sz (gm_p_stor (pc := 40) (i := .istore_n 3) (sr := 0) (j := 3) (by decide +kernel) rfl (show 4 ≤ _ from Nat.le_of_ble_eq_true rfl) rfl) ?_
    refine gm_sz (gm_p_load (pc := 41) (i := .iload_n 3) (sr := 0) (j := 3) (by decide +kernel) rfl rfl rfl) ?_
    refine fw_iffd (cc := .ge) (pc := 42) (off := 6) (by decide +kernel) (by decide) ⟨by decide, by decide⟩ (by decide) ?_
    refine gm_sz (gm_p_goto (pc := 45) (off := 12) (by decide +kernel) (by decide)) ?_
    refine gm_sz (gm_p_iinc (pc := 57) (j := 2) (z := 1) (by decide +kernel) rfl) ?_
    refine gm_sz (gm_p_goto (pc := 60) (off := (-45)) (by decide +kernel) (by decide)) ?_
    have e9 : ystep Ψ o dd l (N, c) = (N, c) := tif_f (fun hh => v25 hh.1)
    rw [e9] at hq
    exact hq _ M25 (fr_t fr_0 hf25 (by decide)) hI25 ⟨fun j hj => fr_c hf25 (by decide), fr_c hf25 (by decide)⟩ (tr_fr (W := [(226, some 29), (226, some 30), (226, some 26), (226, some 17), (226, some 18), (226, some 19), (226, some 20), (226, some 21), (226, some 22), (226, some 23), (235, none), (233, none), (236, none), (237, none)]) hT (fr_t fr_0 hf25 (by decide)) (by decide)).1
theorem rm_e (hd : 1 ≤ d) (hE : E0 n K R) (hT : TR N h M) (hN : NR N) (h1 : l = N 4) (hq : Q (.inl (some (gm_vi c))) n K R M) (z : Option gm_V) : gm_Wp X LX d bc bs 321 15 [some (gm_vr 226), some (gm_vi c), some (gm_vi l), z] [] n K R M Q := by
  obtain ⟨⟨⟨a0, b0⟩, ⟨a1, b1⟩, ⟨a10, b10⟩, ⟨a11, b11⟩, ⟨a12, b12⟩, a9, b9⟩, ⟨⟨a2, b2⟩, ⟨a5, b5⟩, ⟨a3, b3⟩, ⟨a4, b4⟩, ⟨a6, b6⟩, ⟨a14, b14⟩, ⟨a7, b7⟩, a13, b13⟩, rF, rP, rL⟩ := id hN
  refine gm_sz (gm_p_load (pc := 15) (i := .iload_n 2) (sr := 0) (j := 2) (by decide +kernel) rfl rfl rfl) ?_
  refine gm_sz (gm_p_load (pc := 16) (i := .aload_n 0) (sr := 2) (j := 0) (by decide +kernel) rfl rfl rfl) ?_
  refine gm_c_virt (k := 226) (ci := 11) (mj := 254) (ix := 100) (pc := 17) (as := []) (st := [gm_vi l]) (d' := d - 1) (bc' := 0) (bs' := 0) (by decide +kernel) (by decide +kernel) (by decide +kernel) (by decide +kernel) (e0k hE (k := 226) (c := 11) (by decide +kernel)).1 (e0k hE (k := 226) (c := 11) (by decide +kernel)).2 (by decide) (by decide +kernel) (show 0 = gm_na 254 by decide +kernel) fw_c0 (show 1 ≤ gm_ml 254 by decide +kernel) (Nat.le_of_ble_eq_true rfl) (by omega) (Nat.zero_le _) (Nat.zero_le _) ?_
  refine re_let hE hT hN ?_
  show gm_Wp X LX d _ _ 321 20 _ [gm_vi (N 4), gm_vi l] n K _ _ Q
  refine fw_ict (cc := .ge) (pc := 20) (off := 43) (by decide +kernel) (by decide) ⟨by omega, by omega⟩ ⟨by omega, by omega⟩ (show (N 4) ≤ l by omega) ?_
  refine gm_sz (gm_p_load (pc := 63) (i := .iload_n 1) (sr := 0) (j := 1) (by decide +kernel) rfl rfl rfl) ?_
  exact gm_r_int (pc := 64) (by decide +kernel) (Or.inl (by decide +kernel)) hq
end YM4
