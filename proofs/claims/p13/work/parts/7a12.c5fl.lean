/-! THE CLASS'S FLOWS: kept ones, under a law and without; who may open (laid by wip/core/c5.py). -/
section LO5
variable {X : Int → Int} {LX d bc bs mi pc n : Nat} {L : gm_L} {st : List gm_V} {K : gm_K} {R : gm_R} {M : gm_M} {Q : gm_Q}
theorem fw_la {k len : Nat} {e0 x : Int} (h : gm_at mi pc = some .laload) (hk : 1 ≤ k ∧ k ≤ n) (hK : K k = (2, len)) (hl : len < 2147483648) (hi : 0 ≤ e0 ∧ e0 < (len : Int)) (hx : M k e0 = x) : gm_Sp X LX d mi pc L (gm_vi e0 :: gm_vr k :: st) n K R M (pc + 1) L (gm_vl x :: st) n K R M 0 0 := by
  have hw : gm_w e0 = e0 := gm_w_id (by omega) (by omega)
  have := gm_p_lald (X := X) (LX := LX) (d := d) (L := L) (st := st) (K := K) (R := R) (M := M) h hk (by rw [hK]) (by rw [hw, hK]; exact hi)
  rwa [hw, hx] at this
theorem fw_ls {k len : Nat} {e0 x : Int} {M' : gm_M} (h : gm_at mi pc = some .lastore) (hk : 1 ≤ k ∧ k ≤ n) (hK : K k = (2, len)) (hl : len < 2147483648) (hi : 0 ≤ e0 ∧ e0 < (len : Int)) (hM : gm_uM M k e0 x = M') : gm_Sp X LX d mi pc L (gm_vl x :: gm_vi e0 :: gm_vr k :: st) n K R M (pc + 1) L st n K R M' 0 0 := by
  have hw : gm_w e0 = e0 := gm_w_id (by omega) (by omega)
  have := gm_p_last (X := X) (LX := LX) (d := d) (L := L) (st := st) (K := K) (R := R) (M := M) (x := x) h hk (by rw [hK]) (by rw [hw, hK]; exact hi)
  rw [hw, hM] at this
  exact this
end LO5
section FL5
variable {X : Int → Int} {LX d bc bs n : Nat} {K : gm_K} {R : gm_R} {M M2 : gm_M} {Q : gm_Q} {a len : Nat} {v cell f : Int}
theorem gm_fil_in {i j : Int} (h0 : 0 ≤ j) (h1 : j < i) : gm_fil M a i v a j = v := if_pos ⟨rfl, h0, h1⟩
theorem gm_fil_fr {i : Int} : fr [(a, none)] M (gm_fil M a i v) := fun c j h1 _ => by
  unfold gm_fil
  rw [if_neg]
  rintro ⟨rfl, -⟩
  exact h1 List.mem_cons_self
theorem fl_l38 (ha : (1 ≤ a ∧ a ≤ n) ∧ K a = (2, len)) (hl : len < 2147483648) (hq : Q (.inl none) n K R (gm_fil M a len v)) : ∀ (u : Nat) (i : Int), i + u = len → 0 ≤ i → gm_Wp X LX d bc bs 38 6 [some (gm_vr a), some (gm_vl v), none, some (gm_vi i), some (gm_vi (len : Int))] [] n K R (gm_fil M a i v) Q := by
  intro u
  induction u with
  | zero =>
    intro i hu h0
    have hi : i = (len : Int) := by omega
    subst hi
    refine gm_sz (gm_p_load (pc := 6) (i := .iload_n 3) (sr := 0) (j := 3) (by decide +kernel) rfl rfl rfl) ?_
    refine gm_sz (gm_p_load (pc := 7) (i := .iload 4) (sr := 0) (j := 4) (by decide +kernel) rfl rfl rfl) ?_
    refine fw_ict (cc := .ge) (pc := 9) (off := 13) (by decide +kernel) (by decide) ⟨by omega, by omega⟩ ⟨by omega, by omega⟩ (show (len : Int) ≤ (len : Int) by omega) ?_
    exact gm_r_void (pc := 22) (by decide +kernel) (by decide +kernel) hq
  | succ u ih =>
    intro i hu h0
    refine gm_sz (gm_p_load (pc := 6) (i := .iload_n 3) (sr := 0) (j := 3) (by decide +kernel) rfl rfl rfl) ?_
    refine gm_sz (gm_p_load (pc := 7) (i := .iload 4) (sr := 0) (j := 4) (by decide +kernel) rfl rfl rfl) ?_
    refine fw_icf (cc := .ge) (pc := 9) (off := 13) (by decide +kernel) (by decide) ⟨by omega, by omega⟩ ⟨by omega, by omega⟩ (show ¬ (len : Int) ≤ i by omega) ?_
    refine gm_sz (gm_p_load (pc := 12) (i := .aload_n 0) (sr := 2) (j := 0) (by decide +kernel) rfl rfl rfl) ?_
    refine gm_sz (gm_p_load (pc := 13) (i := .iload_n 3) (sr := 0) (j := 3) (by decide +kernel) rfl rfl rfl) ?_
    refine gm_sz (gm_p_load (pc := 14) (i := .lload_n 1) (sr := 1) (j := 1) (by decide +kernel) rfl rfl rfl) ?_
    refine gm_sz (fw_ls (pc := 15) (k := a) (len := len) (e0 := i) (x := v) (M' := gm_fil M a (i + 1) v) (by decide +kernel) ha.1 ha.2 (by omega) ⟨by omega, by omega⟩ (gm_fil_s h0)) ?_
    refine gm_sz (gm_p_iinc (pc := 16) (j := 3) (z := 1) (by decide +kernel) rfl) ?_
    refine gm_sz (gm_p_goto (pc := 19) (off := (-13)) (by decide +kernel) (by decide)) ?_
    exact ih (i + 1) (by omega) (by omega)
theorem fl_c38 (ha : (1 ≤ a ∧ a ≤ n) ∧ K a = (2, len)) (hl : len < 2147483648) (hq : Q (.inl none) n K R (gm_fil M a len v)) : gm_Wp X LX d bc bs 38 0 (gm_ent 38 [gm_vr a, gm_vl v]) [] n K R M Q := by
  refine gm_sz (gm_p_const (pc := 0) (i := .iconst 0) (v := gm_vi 0) (by decide +kernel) (by decide +kernel)) ?_
  refine gm_sz (gm_p_stor (pc := 1) (i := .istore_n 3) (sr := 0) (j := 3) (by decide +kernel) rfl (show 4 ≤ _ from Nat.le_of_ble_eq_true rfl) rfl) ?_
  refine gm_sz (gm_p_load (pc := 2) (i := .aload_n 0) (sr := 2) (j := 0) (by decide +kernel) rfl rfl rfl) ?_
  refine gm_sz (fw_al (pc := 3) (k := a) (len := len) (by decide +kernel) ha.1 ha.2 (by decide)) ?_
  refine gm_sz (gm_p_stor (pc := 4) (i := .istore 4) (sr := 0) (j := 4) (by decide +kernel) rfl (show 5 ≤ _ from Nat.le_of_ble_eq_true rfl) rfl) ?_
  have q := fl_l38 (X := X) (LX := LX) (d := d) (bc := bc) (bs := bs) (R := R) (M := M) (Q := Q) (v := v) ha hl hq len 0 (by omega) (Int.le_refl _)
  rw [gm_fil_0] at q
  exact q
/-- the flow kept in a place (31: none) -/
noncomputable def kv (M : gm_M) (c : Int) : Int := if M 200 6 = 0 then fld (M 205 (c / 12)) (c % 12 * 5) else 31
theorem kv_e (h6 : M2 200 6 = M 200 6) (h5 : ∀ j, M2 205 j = M 205 j) (c : Int) : kv M2 c = kv M c := by unfold kv; rw [h6, h5]
theorem kv_ir {c : Int} : gm_ir (kv M c) := by
  unfold kv
  split
  · exact and_ir
  · exact ⟨by decide, by decide⟩
theorem kv_k (h6 : M 200 6 = 0) (h0 : 0 ≤ cell ∧ cell < 178200) (hf : 0 ≤ f ∧ f < 32) : kv (gm_uM M 205 (cell / 12) (fkeep (M 205 (cell / 12)) (cell % 12 * 5) f)) cell = f := by
  have e6 : gm_uM M 205 (cell / 12) (fkeep (M 205 (cell / 12)) (cell % 12 * 5) f) 200 6 = 0 := (uM_ne (by omega)).trans h6
  unfold kv
  rw [if_pos e6, uM_at]
  obtain ⟨k, hk, -⟩ := sh12_s (c := cell % 12) ⟨by omega, by omega⟩
  exact fld_new hk hf
theorem kv_o (h6 : M 200 6 = 0) (h0 : 0 ≤ cell ∧ cell < 178200) (hf : 0 ≤ f ∧ f < 32) {c : Int} (hc : 0 ≤ c ∧ c < 178200) (hne : ¬ c = cell) : kv (gm_uM M 205 (cell / 12) (fkeep (M 205 (cell / 12)) (cell % 12 * 5) f)) c = kv M c := by
  have e6 : gm_uM M 205 (cell / 12) (fkeep (M 205 (cell / 12)) (cell % 12 * 5) f) 200 6 = 0 := (uM_ne (by omega)).trans h6
  unfold kv
  rw [if_pos e6, if_pos h6]
  by_cases e : c / 12 = cell / 12
  · rw [e, uM_at]
    obtain ⟨k, hk, k1⟩ := sh12_s (c := cell % 12) ⟨by omega, by omega⟩
    obtain ⟨k', hk', k2⟩ := sh12_s (c := c % 12) ⟨by omega, by omega⟩
    exact fld_old hk hk' hf (by omega)
  · rw [uM_ne (by omega)]
theorem ic_rc (hd : 1 ≤ d) (hE : E0 n K R) (hb : gm_ir (M 200 6)) (h0 : 0 ≤ cell ∧ cell < 178200) (hq : ∀ M2, fr [((200 : Nat), some (6 : Int)), ((205 : Nat), none)] M M2 → M2 200 6 = 0 → (∀ c, 0 ≤ c → c < 178200 → kv M2 c = kv M c) → Q (.inl (some (gm_vi (kv M cell)))) n K R M2) : gm_Wp X LX d bc bs 37 0 (gm_ent 37 [gm_vr 200, gm_vi cell]) [] n K R M Q := by
  refine gm_sz (gm_p_load (pc := 0) (i := .aload_n 0) (sr := 2) (j := 0) (by decide +kernel) rfl rfl rfl) ?_
  refine gm_sz (fw_gi (pc := 1) (ix := 30) (ci := 4) (j := 6) (x := M 200 6) (by decide +kernel) (e0k hE (k := 200) (c := 4) (by decide +kernel)) (by decide +kernel) (by decide +kernel) rfl) ?_
  refine fw_if (cc := .eq) (pc := 4) (off := 18) (by decide +kernel) (by decide) hb (fun h4 => ?_) (fun h4 => ?_)
  · have h4 : (M 200 6) = 0 := h4
    refine gm_sz (gm_p_load (pc := 22) (i := .iload_n 1) (sr := 0) (j := 1) (by decide +kernel) rfl rfl rfl) ?_
    refine gm_sz (gm_p_const (pc := 23) (i := .bipush 12) (v := gm_vi 12) (by decide +kernel) (by decide +kernel)) ?_
    refine gm_sz (gm_p_div (pc := 25) (by decide +kernel) (by decide)) ?_
    rw [fw_div (a := cell) (b := 12) (by omega) (by omega) (by decide)]
    refine gm_sz (gm_p_stor (pc := 26) (i := .istore_n 2) (sr := 0) (j := 2) (by decide +kernel) rfl (show 3 ≤ _ from Nat.le_of_ble_eq_true rfl) rfl) ?_
    refine gm_sz (gm_p_load (pc := 27) (i := .iload_n 1) (sr := 0) (j := 1) (by decide +kernel) rfl rfl rfl) ?_
    refine fw_iff (cc := .lt) (pc := 28) (off := 12) (by decide +kernel) (by decide) ⟨by omega, by omega⟩ (show ¬ cell < 0 by omega) ?_
    refine gm_sz (gm_p_load (pc := 31) (i := .iload_n 2) (sr := 0) (j := 2) (by decide +kernel) rfl rfl rfl) ?_
    refine gm_sz (gm_p_load (pc := 32) (i := .aload_n 0) (sr := 2) (j := 0) (by decide +kernel) rfl rfl rfl) ?_
    refine gm_sz (fw_gr (pc := 33) (ix := 26) (ci := 4) (j := 5) (r := 205) (by decide +kernel) (e0k hE (k := 200) (c := 4) (by decide +kernel)) (by decide +kernel) (by decide +kernel) (e0r hE (k := 200) (j := 5) (r := 205) (by decide +kernel))) ?_
    refine gm_sz (fw_al (pc := 36) (k := 205) (len := 14850) (by decide +kernel) (e0a hE (k := 205) (q := ((2 : Nat), (14850 : Nat))) (by decide +kernel)).1 (e0a hE (k := 205) (q := ((2 : Nat), (14850 : Nat))) (by decide +kernel)).2 (by decide)) ?_
    refine fw_ict (cc := .lt) (pc := 37) (off := 6) (by decide +kernel) (by decide) ⟨by omega, by omega⟩ ⟨by decide, by decide⟩ (show (cell / 12) < 14850 by omega) ?_
    refine gm_sz (gm_p_load (pc := 43) (i := .aload_n 0) (sr := 2) (j := 0) (by decide +kernel) rfl rfl rfl) ?_
    refine gm_sz (fw_gr (pc := 44) (ix := 26) (ci := 4) (j := 5) (r := 205) (by decide +kernel) (e0k hE (k := 200) (c := 4) (by decide +kernel)) (by decide +kernel) (by decide +kernel) (e0r hE (k := 200) (j := 5) (r := 205) (by decide +kernel))) ?_
    refine gm_sz (gm_p_load (pc := 47) (i := .iload_n 2) (sr := 0) (j := 2) (by decide +kernel) rfl rfl rfl) ?_
    refine gm_sz (fw_la (pc := 48) (k := 205) (len := 14850) (e0 := cell / 12) (x := M 205 (cell / 12)) (by decide +kernel) (e0a hE (k := 205) (q := ((2 : Nat), (14850 : Nat))) (by decide +kernel)).1 (e0a hE (k := 205) (q := ((2 : Nat), (14850 : Nat))) (by decide +kernel)).2 (by decide) ⟨by omega, by omega⟩ rfl) ?_
    refine gm_sz (gm_p_load (pc := 49) (i := .iload_n 1) (sr := 0) (j := 1) (by decide +kernel) rfl rfl rfl) ?_
    refine gm_sz (gm_p_const (pc := 50) (i := .bipush 12) (v := gm_vi 12) (by decide +kernel) (by decide +kernel)) ?_
    refine gm_sz (gm_p_rem (pc := 52) (by decide +kernel) (by decide)) ?_
    rw [fw_rem (a := cell) (b := 12) (by omega) (by omega) (by decide)]
    refine gm_sz (gm_p_const (pc := 53) (i := .iconst 5) (v := gm_vi 5) (by decide +kernel) (by decide +kernel)) ?_
    refine gm_sz (gm_p_bin (pc := 54) (i := .imul) (f := fun x y => x * y) (by decide +kernel) rfl) ?_
    refine gm_sz (gm_p_lsh (pc := 55) (i := .lushr) (f := ll_ushr) (by decide +kernel) rfl) ?_
    refine gm_sz (gm_p_l2i (pc := 56) (by decide +kernel)) ?_
    refine gm_sz (gm_p_const (pc := 57) (i := .bipush 31) (v := gm_vi 31) (by decide +kernel) (by decide +kernel)) ?_
    refine gm_sz (gm_p_bin (pc := 59) (i := .iand) (f := gm_and) (by decide +kernel) rfl) ?_
    have e9 : kv M cell = gm_and (ll_ushr (M 205 (cell / 12)) ((cell % 12) * 5)) 31 := by
      unfold kv
      rw [if_pos h4]
      rfl
    have q := hq M fr_0 h4 (fun _ _ _ => rfl)
    rw [e9] at q
    exact gm_r_int (pc := 60) (by decide +kernel) (Or.inl (by decide +kernel)) q
  · have h4 : ¬ (M 200 6) = 0 := h4
    refine gm_sz (gm_p_load (pc := 7) (i := .aload_n 0) (sr := 2) (j := 0) (by decide +kernel) rfl rfl rfl) ?_
    refine gm_sz (fw_gr (pc := 8) (ix := 26) (ci := 4) (j := 5) (r := 205) (by decide +kernel) (e0k hE (k := 200) (c := 4) (by decide +kernel)) (by decide +kernel) (by decide +kernel) (e0r hE (k := 200) (j := 5) (r := 205) (by decide +kernel))) ?_
    refine gm_sz (gm_p_ldcl (pc := 11) (ix := 116) (v := (-1)) (by decide +kernel) (by decide +kernel)) ?_
    refine gm_c_stat2 (mj := 38) (ix := 118) (pc := 14) (u0 := gm_vr 205) (u1 := gm_vl (-1)) (st := []) (d' := d - 1) (bc' := 0) (bs' := 0) (by decide +kernel) (by decide +kernel) (by decide +kernel) (by decide +kernel) (show 2 = gm_na 38 by decide +kernel) fw_sr (show 3 ≤ gm_ml 38 by decide +kernel) (Nat.le_of_ble_eq_true rfl) (by omega) (Nat.zero_le _) (Nat.zero_le _) ?_
    refine fl_c38 (e0a hE (k := 205) (q := ((2 : Nat), (14850 : Nat))) (by decide +kernel)) (by decide) ?_
    show gm_Wp X LX d _ _ 37 17 _ [] n K _ _ Q
    refine gm_sz (gm_p_load (pc := 17) (i := .aload_n 0) (sr := 2) (j := 0) (by decide +kernel) rfl rfl rfl) ?_
    refine gm_sz (gm_p_const (pc := 18) (i := .iconst 0) (v := gm_vi 0) (by decide +kernel) (by decide +kernel)) ?_
    refine gm_sz (fw_pz (pc := 19) (ix := 30) (ci := 4) (j := 6) (M' := gm_uM (gm_fil M 205 ((14850 : Nat) : Int) (-1)) 200 6 0) (by decide +kernel) (e0k hE (k := 200) (c := 4) (by decide +kernel)) (by decide +kernel) (by decide +kernel) (by decide +kernel) (Or.inl rfl) rfl) ?_
    refine gm_sz (gm_p_load (pc := 22) (i := .iload_n 1) (sr := 0) (j := 1) (by decide +kernel) rfl rfl rfl) ?_
    refine gm_sz (gm_p_const (pc := 23) (i := .bipush 12) (v := gm_vi 12) (by decide +kernel) (by decide +kernel)) ?_
    refine gm_sz (gm_p_div (pc := 25) (by decide +kernel) (by decide)) ?_
    rw [fw_div (a := cell) (b := 12) (by omega) (by omega) (by decide)]
    refine gm_sz (gm_p_stor (pc := 26) (i := .istore_n 2) (sr := 0) (j := 2) (by decide +kernel) rfl (show 3 ≤ _ from Nat.le_of_ble_eq_true rfl) rfl) ?_
    refine gm_sz (gm_p_load (pc := 27) (i := .iload_n 1) (sr := 0) (j := 1) (by decide +kernel) rfl rfl rfl) ?_
    refine fw_iff (cc := .lt) (pc := 28) (off := 12) (by decide +kernel) (by decide) ⟨by omega, by omega⟩ (show ¬ cell < 0 by omega) ?_
    refine gm_sz (gm_p_load (pc := 31) (i := .iload_n 2) (sr := 0) (j := 2) (by decide +kernel) rfl rfl rfl) ?_
    refine gm_sz (gm_p_load (pc := 32) (i := .aload_n 0) (sr := 2) (j := 0) (by decide +kernel) rfl rfl rfl) ?_
    refine gm_sz (fw_gr (pc := 33) (ix := 26) (ci := 4) (j := 5) (r := 205) (by decide +kernel) (e0k hE (k := 200) (c := 4) (by decide +kernel)) (by decide +kernel) (by decide +kernel) (e0r hE (k := 200) (j := 5) (r := 205) (by decide +kernel))) ?_
    refine gm_sz (fw_al (pc := 36) (k := 205) (len := 14850) (by decide +kernel) (e0a hE (k := 205) (q := ((2 : Nat), (14850 : Nat))) (by decide +kernel)).1 (e0a hE (k := 205) (q := ((2 : Nat), (14850 : Nat))) (by decide +kernel)).2 (by decide)) ?_
    refine fw_ict (cc := .lt) (pc := 37) (off := 6) (by decide +kernel) (by decide) ⟨by omega, by omega⟩ ⟨by decide, by decide⟩ (show (cell / 12) < 14850 by omega) ?_
    refine gm_sz (gm_p_load (pc := 43) (i := .aload_n 0) (sr := 2) (j := 0) (by decide +kernel) rfl rfl rfl) ?_
    refine gm_sz (fw_gr (pc := 44) (ix := 26) (ci := 4) (j := 5) (r := 205) (by decide +kernel) (e0k hE (k := 200) (c := 4) (by decide +kernel)) (by decide +kernel) (by decide +kernel) (e0r hE (k := 200) (j := 5) (r := 205) (by decide +kernel))) ?_
    refine gm_sz (gm_p_load (pc := 47) (i := .iload_n 2) (sr := 0) (j := 2) (by decide +kernel) rfl rfl rfl) ?_
    refine gm_sz (fw_la (pc := 48) (k := 205) (len := 14850) (e0 := cell / 12) (x := (-1)) (by decide +kernel) (e0a hE (k := 205) (q := ((2 : Nat), (14850 : Nat))) (by decide +kernel)).1 (e0a hE (k := 205) (q := ((2 : Nat), (14850 : Nat))) (by decide +kernel)).2 (by decide) ⟨by omega, by omega⟩ ((uM_ne (by omega)).trans (gm_fil_in (by omega) (by omega)))) ?_
    refine gm_sz (gm_p_load (pc := 49) (i := .iload_n 1) (sr := 0) (j := 1) (by decide +kernel) rfl rfl rfl) ?_
    refine gm_sz (gm_p_const (pc := 50) (i := .bipush 12) (v := gm_vi 12) (by decide +kernel) (by decide +kernel)) ?_
    refine gm_sz (gm_p_rem (pc := 52) (by decide +kernel) (by decide)) ?_
    rw [fw_rem (a := cell) (b := 12) (by omega) (by omega) (by decide)]
    refine gm_sz (gm_p_const (pc := 53) (i := .iconst 5) (v := gm_vi 5) (by decide +kernel) (by decide +kernel)) ?_
    refine gm_sz (gm_p_bin (pc := 54) (i := .imul) (f := fun x y => x * y) (by decide +kernel) rfl) ?_
    refine gm_sz (gm_p_lsh (pc := 55) (i := .lushr) (f := ll_ushr) (by decide +kernel) rfl) ?_
    refine gm_sz (gm_p_l2i (pc := 56) (by decide +kernel)) ?_
    refine gm_sz (gm_p_const (pc := 57) (i := .bipush 31) (v := gm_vi 31) (by decide +kernel) (by decide +kernel)) ?_
    refine gm_sz (gm_p_bin (pc := 59) (i := .iand) (f := gm_and) (by decide +kernel) rfl) ?_
    have e9 : kv M cell = gm_and (ll_ushr (-1) ((cell % 12) * 5)) 31 := by
      unfold kv
      rw [if_neg h4]
      obtain ⟨k, hk, -⟩ := sh12_s (c := cell % 12) ⟨by omega, by omega⟩
      exact (fld_m1 hk).symm
    have k9 : ∀ c, 0 ≤ c → c < 178200 → kv (gm_uM (gm_fil M 205 ((14850 : Nat) : Int) (-1)) 200 6 0) c = kv M c := fun c c0 c1 => by
      obtain ⟨k, hk, -⟩ := sh12_s (c := c % 12) ⟨by omega, by omega⟩
      have e6 : gm_uM (gm_fil M 205 ((14850 : Nat) : Int) (-1)) 200 6 0 200 6 = 0 := uM_at
      have e5 : gm_uM (gm_fil M 205 ((14850 : Nat) : Int) (-1)) 200 6 0 205 (c / 12) = -1 := ((uM_ne (by omega)).trans (gm_fil_in (by omega) (by omega)))
      unfold kv
      rw [if_pos e6, if_neg h4, e5]
      exact fld_m1 hk
    have q := hq (gm_uM (gm_fil M 205 ((14850 : Nat) : Int) (-1)) 200 6 0) (fr_p (fr_t fr_0 gm_fil_fr (by decide)) (Or.inr (by decide))) uM_at k9
    rw [e9] at q
    exact gm_r_int (pc := 60) (by decide +kernel) (Or.inl (by decide +kernel)) q
theorem ic_kp (hE : E0 n K R) (h0 : 0 ≤ cell ∧ cell < 178200) (hf : 0 ≤ f ∧ f < 32) (h6 : M 200 6 = 0) (hq : ∀ M2, fr [((205 : Nat), none)] M M2 → kv M2 cell = f → (∀ c, 0 ≤ c → c < 178200 → ¬ c = cell → kv M2 c = kv M c) → Q (.inl none) n K R M2) : gm_Wp X LX d bc bs 42 0 (gm_ent 42 [gm_vr 200, gm_vi cell, gm_vi f]) [] n K R M Q := by
  refine gm_sz (gm_p_load (pc := 0) (i := .iload_n 1) (sr := 0) (j := 1) (by decide +kernel) rfl rfl rfl) ?_
  refine gm_sz (gm_p_const (pc := 1) (i := .bipush 12) (v := gm_vi 12) (by decide +kernel) (by decide +kernel)) ?_
  refine gm_sz (gm_p_div (pc := 3) (by decide +kernel) (by decide)) ?_
  rw [fw_div (a := cell) (b := 12) (by omega) (by omega) (by decide)]
  refine gm_sz (gm_p_stor (pc := 4) (i := .istore_n 3) (sr := 0) (j := 3) (by decide +kernel) rfl (show 4 ≤ _ from Nat.le_of_ble_eq_true rfl) rfl) ?_
  refine gm_sz (gm_p_load (pc := 5) (i := .iload_n 1) (sr := 0) (j := 1) (by decide +kernel) rfl rfl rfl) ?_
  refine fw_iff (cc := .lt) (pc := 6) (off := 53) (by decide +kernel) (by decide) ⟨by omega, by omega⟩ (show ¬ cell < 0 by omega) ?_
  refine gm_sz (gm_p_load (pc := 9) (i := .iload_n 3) (sr := 0) (j := 3) (by decide +kernel) rfl rfl rfl) ?_
  refine gm_sz (gm_p_load (pc := 10) (i := .aload_n 0) (sr := 2) (j := 0) (by decide +kernel) rfl rfl rfl) ?_
  refine gm_sz (fw_gr (pc := 11) (ix := 26) (ci := 4) (j := 5) (r := 205) (by decide +kernel) (e0k hE (k := 200) (c := 4) (by decide +kernel)) (by decide +kernel) (by decide +kernel) (e0r hE (k := 200) (j := 5) (r := 205) (by decide +kernel))) ?_
  refine gm_sz (fw_al (pc := 14) (k := 205) (len := 14850) (by decide +kernel) (e0a hE (k := 205) (q := ((2 : Nat), (14850 : Nat))) (by decide +kernel)).1 (e0a hE (k := 205) (q := ((2 : Nat), (14850 : Nat))) (by decide +kernel)).2 (by decide)) ?_
  refine fw_icf (cc := .ge) (pc := 15) (off := 44) (by decide +kernel) (by decide) ⟨by omega, by omega⟩ ⟨by decide, by decide⟩ (show ¬ 14850 ≤ (cell / 12) by omega) ?_
  refine gm_sz (gm_p_ldcl (pc := 18) (ix := 121) (v := 31) (by decide +kernel) (by decide +kernel)) ?_
  refine gm_sz (gm_p_load (pc := 21) (i := .iload_n 1) (sr := 0) (j := 1) (by decide +kernel) rfl rfl rfl) ?_
  refine gm_sz (gm_p_const (pc := 22) (i := .bipush 12) (v := gm_vi 12) (by decide +kernel) (by decide +kernel)) ?_
  refine gm_sz (gm_p_rem (pc := 24) (by decide +kernel) (by decide)) ?_
  rw [fw_rem (a := cell) (b := 12) (by omega) (by omega) (by decide)]
  refine gm_sz (gm_p_const (pc := 25) (i := .iconst 5) (v := gm_vi 5) (by decide +kernel) (by decide +kernel)) ?_
  refine gm_sz (gm_p_bin (pc := 26) (i := .imul) (f := fun x y => x * y) (by decide +kernel) rfl) ?_
  refine gm_sz (gm_p_lsh (pc := 27) (i := .lshl) (f := ll_shl) (by decide +kernel) rfl) ?_
  refine gm_sz (gm_p_ldcl (pc := 28) (ix := 116) (v := (-1)) (by decide +kernel) (by decide +kernel)) ?_
  refine gm_sz (gm_p_lbin (pc := 31) (i := .lxor) (f := gm_lxor) (by decide +kernel) rfl) ?_
  refine gm_sz (gm_p_stor (pc := 32) (i := .lstore 4) (sr := 1) (j := 4) (by decide +kernel) rfl (show 6 ≤ _ from Nat.le_of_ble_eq_true rfl) rfl) ?_
  refine gm_sz (gm_p_load (pc := 34) (i := .aload_n 0) (sr := 2) (j := 0) (by decide +kernel) rfl rfl rfl) ?_
  refine gm_sz (fw_gr (pc := 35) (ix := 26) (ci := 4) (j := 5) (r := 205) (by decide +kernel) (e0k hE (k := 200) (c := 4) (by decide +kernel)) (by decide +kernel) (by decide +kernel) (e0r hE (k := 200) (j := 5) (r := 205) (by decide +kernel))) ?_
  refine gm_sz (gm_p_load (pc := 38) (i := .iload_n 3) (sr := 0) (j := 3) (by decide +kernel) rfl rfl rfl) ?_
  refine gm_sz (gm_p_load (pc := 39) (i := .aload_n 0) (sr := 2) (j := 0) (by decide +kernel) rfl rfl rfl) ?_
  refine gm_sz (fw_gr (pc := 40) (ix := 26) (ci := 4) (j := 5) (r := 205) (by decide +kernel) (e0k hE (k := 200) (c := 4) (by decide +kernel)) (by decide +kernel) (by decide +kernel) (e0r hE (k := 200) (j := 5) (r := 205) (by decide +kernel))) ?_
  refine gm_sz (gm_p_load (pc := 43) (i := .iload_n 3) (sr := 0) (j := 3) (by decide +kernel) rfl rfl rfl) ?_
  refine gm_sz (fw_la (pc := 44) (k := 205) (len := 14850) (e0 := cell / 12) (x := M 205 (cell / 12)) (by decide +kernel) (e0a hE (k := 205) (q := ((2 : Nat), (14850 : Nat))) (by decide +kernel)).1 (e0a hE (k := 205) (q := ((2 : Nat), (14850 : Nat))) (by decide +kernel)).2 (by decide) ⟨by omega, by omega⟩ rfl) ?_
  refine gm_sz (gm_p_load (pc := 45) (i := .lload 4) (sr := 1) (j := 4) (by decide +kernel) rfl rfl rfl) ?_
  refine gm_sz (gm_p_lbin (pc := 47) (i := .land) (f := gm_land) (by decide +kernel) rfl) ?_
  refine gm_sz (gm_p_load (pc := 48) (i := .iload_n 2) (sr := 0) (j := 2) (by decide +kernel) rfl rfl rfl) ?_
  refine gm_sz (gm_p_i2l (pc := 49) (by decide +kernel)) ?_
  rw [gm_w_id (x := f) (by omega) (by omega)]
  refine gm_sz (gm_p_load (pc := 50) (i := .iload_n 1) (sr := 0) (j := 1) (by decide +kernel) rfl rfl rfl) ?_
  refine gm_sz (gm_p_const (pc := 51) (i := .bipush 12) (v := gm_vi 12) (by decide +kernel) (by decide +kernel)) ?_
  refine gm_sz (gm_p_rem (pc := 53) (by decide +kernel) (by decide)) ?_
  rw [fw_rem (a := cell) (b := 12) (by omega) (by omega) (by decide)]
  refine gm_sz (gm_p_const (pc := 54) (i := .iconst 5) (v := gm_vi 5) (by decide +kernel) (by decide +kernel)) ?_
  refine gm_sz (gm_p_bin (pc := 55) (i := .imul) (f := fun x y => x * y) (by decide +kernel) rfl) ?_
  refine gm_sz (gm_p_lsh (pc := 56) (i := .lshl) (f := ll_shl) (by decide +kernel) rfl) ?_
  refine gm_sz (gm_p_lbin (pc := 57) (i := .lor) (f := gm_lor) (by decide +kernel) rfl) ?_
  refine gm_sz (fw_ls (pc := 58) (k := 205) (len := 14850) (e0 := cell / 12) (x := gm_lor (gm_land (M 205 (cell / 12)) (gm_lxor (ll_shl 31 ((cell % 12) * 5)) (-1))) (ll_shl f ((cell % 12) * 5))) (M' := gm_uM M 205 (cell / 12) (gm_lor (gm_land (M 205 (cell / 12)) (gm_lxor (ll_shl 31 ((cell % 12) * 5)) (-1))) (ll_shl f ((cell % 12) * 5)))) (by decide +kernel) (e0a hE (k := 205) (q := ((2 : Nat), (14850 : Nat))) (by decide +kernel)).1 (e0a hE (k := 205) (q := ((2 : Nat), (14850 : Nat))) (by decide +kernel)).2 (by decide) ⟨by omega, by omega⟩ rfl) ?_
  exact gm_r_void (pc := 59) (by decide +kernel) (by decide +kernel) (hq (gm_uM M 205 (cell / 12) (gm_lor (gm_land (M 205 (cell / 12)) (gm_lxor (ll_shl 31 ((cell % 12) * 5)) (-1))) (ll_shl f ((cell % 12) * 5)))) (fr_p fr_0 (Or.inl (by decide))) (kv_k h6 h0 hf) (fun c c0 c1 hne => kv_o h6 h0 hf ⟨c0, c1⟩ hne))
end FL5
/-- the facts -/
noncomputable def fcts (N h : Int → Int) (l r y s p a dp : Int) : Int → Int := fun i => if i = 0 then l else if i = 1 then r else if i = 2 then y else if i = 3 then h y else if i = 4 then s else if i = 5 then p else if i = 6 then a else if i = 7 then dp else if i = 8 then (if l = 0 ∨ l = N 0 - 1 then 1 else 0) else if i = 9 then (if l < N 12 then 1 else 0) else 0
/-- FLOW under a law: codes C, lines Ln, m of them -/
noncomputable def lphi (N h : Int → Int) (sp : Int → Int → Int) (C Ln : Int → Int) (m : Int) (l r y : Int) : Int := max 0 (min 30 (sp l r + lfas (fcts N h l r y (sp l r) 0 0 0) C Ln m.toNat))
/-- FLOW without one -/
noncomputable def nphi (sp : Int → Int → Int) (l r _y : Int) : Int := max 0 (min 30 (sp l r))
/-- the law that stands there -/
noncomputable def LB (NC : Nat) (C Ln : Int → Int) (m : Int) (M : gm_M) : Prop := LM NC M ∧ (∀ j, M 247 j = C j) ∧ (∀ j, M 249 j = Ln j) ∧ M 248 3 = m
/-- what is kept is right -/
noncomputable def KFL (_ : Int → Int) (φ : Int → Int → Int → Int) (M : gm_M) : Prop := (0 ≤ M 200 6 ∧ M 200 6 ≤ 1) ∧ ∀ l r y, 0 ≤ l → l < 6 → 0 ≤ r → r < 99 → 0 ≤ y → y < 300 → kv M ((l * 99 + r) * 300 + y) = 31 ∨ kv M ((l * 99 + r) * 300 + y) = φ l r y
section FL6
variable {X : Int → Int} {LX d bc bs n NC : Nat} {K : gm_K} {R : gm_R} {M M2 : gm_M} {Q : gm_Q} {N h C Ln : Int → Int} {sp : Int → Int → Int} {m lane row year person age deep : Int} {φ : Int → Int → Int → Int} {W : List (Nat × Option Int)}
theorem lb_fr (h9 : fr W M M2) (hw : W.all (fun w => decide (w.1 < 246)) = true) (hb : LB NC C Ln m M) : LB NC C Ln m M2 := by
  have e : ∀ k j, 246 ≤ k → M2 k j = M k j := fun k j hk => h9 k j (fun hm => by have := of_decide_eq_true (List.all_eq_true.mp hw _ hm); omega) (fun hm => by have := of_decide_eq_true (List.all_eq_true.mp hw _ hm); omega)
  obtain ⟨⟨h1, h2, h3⟩, h4, h5, h6⟩ := hb
  refine ⟨⟨?_, fun i i0 i1 => ?_, fun k k0 k1 => ?_⟩, fun j => (e 247 j (by decide)).trans (h4 j), fun j => (e 249 j (by decide)).trans (h5 j), (e 248 3 (by decide)).trans h6⟩
  · rw [e 248 0 (by decide), e 248 1 (by decide), e 248 3 (by decide)]
    exact h1
  · rw [e 247 i (by decide)]
    exact h2 i i0 i1
  · rw [e 248 3 (by decide)] at k1
    rw [e 249 _ (by decide), e 249 _ (by decide), e 249 _ (by decide), e 249 _ (by decide)]
    exact h3 k k0 k1
theorem kfl_fr (h9 : fr W M M2) (hw : W.all (fun w => !(w.1 == 205) && !(w.1 == 200)) = true) (hk : KFL N φ M) : KFL N φ M2 := by
  have e : ∀ k j, k = 200 ∨ k = 205 → M2 k j = M k j := fun k j hk => h9 k j (fun hm => by have := List.all_eq_true.mp hw _ hm; simp at this; omega) (fun hm => by have := List.all_eq_true.mp hw _ hm; simp at this; omega)
  refine ⟨?_, fun l r y l0 l1 r0 r1 y0 y1 => ?_⟩
  · rw [e 200 6 (Or.inl rfl)]
    exact hk.1
  · rw [kv_e (e 200 6 (Or.inl rfl)) (fun j => e 205 j (Or.inr rfl))]
    exact hk.2 l r y l0 l1 r0 r1 y0 y1
theorem lfas_b (hL : ∀ k : Int, 0 ≤ k → k < m → 0 ≤ Ln (k * 4 + 1) ∧ Ln (k * 4 + 1) ≤ 20) {F : Int → Int} : ∀ k : Nat, (k : Int) ≤ m → -20 * (k : Int) ≤ lfas F C Ln k ∧ lfas F C Ln k ≤ 20 * (k : Int) := by
  intro k
  induction k with
  | zero => intro _; exact ⟨by show _ ≤ (0 : Int); omega, by show (0 : Int) ≤ _; omega⟩
  | succ k ih =>
    intro hk
    obtain ⟨i1, i2⟩ := ih (by omega)
    have hl := hL k (by omega) (by omega)
    unfold lfas
    split
    · split
      · split <;> exact ⟨by omega, by omega⟩
      · exact ⟨by omega, by omega⟩
    · exact ⟨by omega, by omega⟩
theorem lb_lines (hb : LB NC C Ln m M) : (0 ≤ m ∧ m ≤ 12) ∧ ∀ k : Int, 0 ≤ k → k < m → 0 ≤ Ln (k * 4 + 1) ∧ Ln (k * 4 + 1) ≤ 20 := by
  obtain ⟨⟨h1, h2, h3⟩, h4, h5, h6⟩ := hb
  refine ⟨by omega, fun k k0 k1 => ?_⟩
  have := (h3 k k0 (by omega)).2.1
  rwa [h5] at this
theorem ic_fa_s {s : Int} (j : Int) (j0 : 0 ≤ j) (j1 : j < 10) : ic_fa M N h lane row year s 204 j = fcts N h lane row year s 0 0 0 j := by
  have h10 : j = 0 ∨ j = 1 ∨ j = 2 ∨ j = 3 ∨ j = 4 ∨ j = 5 ∨ j = 6 ∨ j = 7 ∨ j = 8 ∨ j = 9 := by omega
  rcases h10 with rfl | rfl | rfl | rfl | rfl | rfl | rfl | rfl | rfl | rfl <;> simp [ic_fa, fcts, gm_uM]
theorem ic_fa_o {s : Int} (j : Int) (j0 : 0 ≤ j) (j1 : j < 10) : gm_uM (gm_uM (gm_uM (ic_fa M N h lane row year s) 204 5 person) 204 6 age) 204 7 deep 204 j = fcts N h lane row year s person age deep j := by
  have h10 : j = 0 ∨ j = 1 ∨ j = 2 ∨ j = 3 ∨ j = 4 ∨ j = 5 ∨ j = 6 ∨ j = 7 ∨ j = 8 ∨ j = 9 := by omega
  rcases h10 with rfl | rfl | rfl | rfl | rfl | rfl | rfl | rfl | rfl | rfl <;> simp [ic_fa, fcts, gm_uM]
theorem ic_flx (hE : E0 n K R) (hL : LE n K R NC) (hlw : R 3 ((8 : Nat) : Int) = 246) (hN : NR N) (hsp : ∀ l r, 0 ≤ l → l < 6 → 0 ≤ r → r < 99 → 0 ≤ sp l r ∧ sp l r ≤ 20) : ∀ (d bc bs : Nat) (M : gm_M) (Q : gm_Q) (lane row year : Int), 12 ≤ d → 0 ≤ lane ∧ lane < 6 → 0 ≤ row ∧ row < 99 → 0 ≤ year ∧ year < 300 → TI N h sp M → (LB NC C Ln m M ∧ KFL N (lphi N h sp C Ln m) M) → (∀ M2, fr [((200 : Nat), some (6 : Int)), ((204 : Nat), none), ((205 : Nat), none)] M M2 → (LB NC C Ln m M2 ∧ KFL N (lphi N h sp C Ln m) M2) → Q (.inl (some (gm_vi (lphi N h sp C Ln m lane row year)))) n K R M2) → gm_Wp X LX d bc bs 35 0 (gm_ent 35 [gm_vr 200, gm_vi lane, gm_vi row, gm_vi year]) [] n K R M Q := by
  intro d bc bs M Q lane row year hd h1 h2 h3 hT hI hq
  obtain ⟨hB, ⟨k6, k7⟩, hk⟩ := hI
  have hB9 := lb_lines hB
  obtain ⟨⟨⟨a0, b0⟩, ⟨a1, b1⟩, ⟨a10, b10⟩, ⟨a11, b11⟩, ⟨a12, b12⟩, a9, b9⟩, ⟨⟨a2, b2⟩, ⟨a5, b5⟩, ⟨a3, b3⟩, ⟨a4, b4⟩, ⟨a6, b6⟩, ⟨a14, b14⟩, ⟨a7, b7⟩, a13, b13⟩, rF, rP, rL⟩ := id hN
  have hsp9 := hsp lane row (by omega) (by omega) (by omega) (by omega)
  have hk9 := hk lane row year (by omega) (by omega) (by omega) (by omega) (by omega) (by omega)
  refine gm_sz (gm_p_load (pc := 0) (i := .aload_n 0) (sr := 2) (j := 0) (by decide +kernel) rfl rfl rfl) ?_
  refine gm_sz (gm_p_load (pc := 1) (i := .iload_n 1) (sr := 0) (j := 1) (by decide +kernel) rfl rfl rfl) ?_
  refine gm_sz (gm_p_load (pc := 2) (i := .iload_n 2) (sr := 0) (j := 2) (by decide +kernel) rfl rfl rfl) ?_
  refine gm_c_virt (k := 200) (ci := 4) (mj := 36) (ix := 90) (pc := 3) (as := [gm_vi lane, gm_vi row]) (st := []) (d' := d - 1) (bc' := 0) (bs' := 0) (by decide +kernel) (by decide +kernel) (by decide +kernel) (by decide +kernel) (e0k hE (k := 200) (c := 4) (by decide +kernel)).1 (e0k hE (k := 200) (c := 4) (by decide +kernel)).2 (by decide) (by decide +kernel) (show 2 = gm_na 36 by decide +kernel) (fw_c2 fw_si fw_si) (show 3 ≤ gm_ml 36 by decide +kernel) (Nat.le_of_ble_eq_true rfl) (by omega) (Nat.zero_le _) (Nat.zero_le _) ?_
  refine ic_spd hE hT hN ⟨by omega, by omega⟩ ⟨by omega, by omega⟩ ?_
  show gm_Wp X LX d _ _ 35 6 _ [gm_vi (sp lane row)] n K _ _ Q
  refine gm_sz (gm_p_stor (pc := 6) (i := .istore 4) (sr := 0) (j := 4) (by decide +kernel) rfl (show 5 ≤ _ from Nat.le_of_ble_eq_true rfl) rfl) ?_
  refine gm_sz (gm_p_load (pc := 8) (i := .aload_n 0) (sr := 2) (j := 0) (by decide +kernel) rfl rfl rfl) ?_
  refine gm_sz (fw_gr (pc := 9) (ix := 34) (ci := 4) (j := 0) (r := 3) (by decide +kernel) (e0k hE (k := 200) (c := 4) (by decide +kernel)) (by decide +kernel) (by decide +kernel) (e0r hE (k := 200) (j := 0) (r := 3) (by decide +kernel))) ?_
  refine gm_sz (fw_gr (pc := 12) (ix := 93) (ci := 1) (j := 8) (r := 246) (by decide +kernel) (e0k hE (k := 3) (c := 1) (by decide +kernel)) (by decide +kernel) (by decide +kernel) hlw) ?_
  refine gm_b_nnul (pc := 15) (off := 6) (k0 := 246) (by decide) (by decide +kernel) (by decide) (fun _ => ?_) (fun h => absurd h (by decide))
  refine gm_sz (gm_p_load (pc := 21) (i := .iload_n 1) (sr := 0) (j := 1) (by decide +kernel) rfl rfl rfl) ?_
  refine gm_sz (gm_p_const (pc := 22) (i := .bipush 99) (v := gm_vi 99) (by decide +kernel) (by decide +kernel)) ?_
  refine gm_sz (gm_p_bin (pc := 24) (i := .imul) (f := fun x y => x * y) (by decide +kernel) rfl) ?_
  refine gm_sz (gm_p_load (pc := 25) (i := .iload_n 2) (sr := 0) (j := 2) (by decide +kernel) rfl rfl rfl) ?_
  refine gm_sz (gm_p_bin (pc := 26) (i := .iadd) (f := fun x y => x + y) (by decide +kernel) rfl) ?_
  refine gm_sz (gm_p_const (pc := 27) (i := .sipush 300) (v := gm_vi 300) (by decide +kernel) (by decide +kernel)) ?_
  refine gm_sz (gm_p_bin (pc := 30) (i := .imul) (f := fun x y => x * y) (by decide +kernel) rfl) ?_
  refine gm_sz (gm_p_load (pc := 31) (i := .iload_n 3) (sr := 0) (j := 3) (by decide +kernel) rfl rfl rfl) ?_
  refine gm_sz (gm_p_bin (pc := 32) (i := .iadd) (f := fun x y => x + y) (by decide +kernel) rfl) ?_
  refine gm_sz (gm_p_stor (pc := 33) (i := .istore 5) (sr := 0) (j := 5) (by decide +kernel) rfl (show 6 ≤ _ from Nat.le_of_ble_eq_true rfl) rfl) ?_
  refine gm_sz (gm_p_load (pc := 35) (i := .aload_n 0) (sr := 2) (j := 0) (by decide +kernel) rfl rfl rfl) ?_
  refine gm_sz (gm_p_load (pc := 36) (i := .iload 5) (sr := 0) (j := 5) (by decide +kernel) rfl rfl rfl) ?_
  refine gm_c_virt (k := 200) (ci := 4) (mj := 37) (ix := 97) (pc := 38) (as := [gm_vi ((((lane * 99) + row) * 300) + year)]) (st := []) (d' := d - 1) (bc' := 0) (bs' := 0) (by decide +kernel) (by decide +kernel) (by decide +kernel) (by decide +kernel) (e0k hE (k := 200) (c := 4) (by decide +kernel)).1 (e0k hE (k := 200) (c := 4) (by decide +kernel)).2 (by decide) (by decide +kernel) (show 1 = gm_na 37 by decide +kernel) (fw_c1 fw_si) (show 2 ≤ gm_ml 37 by decide +kernel) (Nat.le_of_ble_eq_true rfl) (by omega) (Nat.zero_le _) (Nat.zero_le _) ?_
  refine ic_rc (cell := (((lane * 99) + row) * 300) + year) (by omega) hE ⟨by omega, by omega⟩ ⟨by omega, by omega⟩ (fun M37 hf37 h637 hk37 => ?_)
  show gm_Wp X LX d _ _ 35 41 _ [gm_vi (kv M ((((lane * 99) + row) * 300) + year))] n K _ _ Q
  refine gm_sz (gm_p_stor (pc := 41) (i := .istore 6) (sr := 0) (j := 6) (by decide +kernel) rfl (show 7 ≤ _ from Nat.le_of_ble_eq_true rfl) rfl) ?_
  refine gm_sz (gm_p_load (pc := 43) (i := .iload 6) (sr := 0) (j := 6) (by decide +kernel) rfl rfl rfl) ?_
  refine gm_sz (gm_p_const (pc := 45) (i := .bipush 31) (v := gm_vi 31) (by decide +kernel) (by decide +kernel)) ?_
  refine fw_ic (cc := .ne) (pc := 47) (off := 48) (by decide +kernel) (by decide) kv_ir ⟨by decide, by decide⟩ (fun h47 => ?_) (fun h47 => ?_)
  · have h47 : ¬ (kv M ((((lane * 99) + row) * 300) + year)) = 31 := h47
    refine gm_sz (gm_p_load (pc := 95) (i := .iload 6) (sr := 0) (j := 6) (by decide +kernel) rfl rfl rfl) ?_
    have e9 : kv M ((lane * 99 + row) * 300 + year) = lphi N h sp C Ln m lane row year := hk9.resolve_left h47
    have kf : KFL N (lphi N h sp C Ln m) M37 := ⟨⟨by omega, by omega⟩, fun l r y l0 l1 r0 r1 y0 y1 => by rw [hk37 _ (by omega) (by omega)]; exact hk l r y l0 l1 r0 r1 y0 y1⟩
    have q := hq _ (fr_t fr_0 hf37 (by decide)) ⟨(lb_fr (W := [((200 : Nat), some (6 : Int)), ((205 : Nat), none)]) (fr_t fr_0 hf37 (by decide)) (by decide) hB), kf⟩
    rw [← e9] at q
    exact gm_r_int (pc := 97) (by decide +kernel) (Or.inl (by decide +kernel)) q
  · have h47 : (kv M ((((lane * 99) + row) * 300) + year)) = 31 := Classical.not_not.mp h47
    refine gm_sz (gm_p_load (pc := 50) (i := .aload_n 0) (sr := 2) (j := 0) (by decide +kernel) rfl rfl rfl) ?_
    refine gm_sz (gm_p_load (pc := 51) (i := .iload_n 1) (sr := 0) (j := 1) (by decide +kernel) rfl rfl rfl) ?_
    refine gm_sz (gm_p_load (pc := 52) (i := .iload_n 2) (sr := 0) (j := 2) (by decide +kernel) rfl rfl rfl) ?_
    refine gm_sz (gm_p_load (pc := 53) (i := .iload_n 3) (sr := 0) (j := 3) (by decide +kernel) rfl rfl rfl) ?_
    refine gm_sz (gm_p_load (pc := 54) (i := .iload 4) (sr := 0) (j := 4) (by decide +kernel) rfl rfl rfl) ?_
    refine gm_c_virt (k := 200) (ci := 4) (mj := 39) (ix := 101) (pc := 56) (as := [gm_vi lane, gm_vi row, gm_vi year, gm_vi (sp lane row)]) (st := []) (d' := d - 1) (bc' := 0) (bs' := 0) (by decide +kernel) (by decide +kernel) (by decide +kernel) (by decide +kernel) (e0k hE (k := 200) (c := 4) (by decide +kernel)).1 (e0k hE (k := 200) (c := 4) (by decide +kernel)).2 (by decide) (by decide +kernel) (show 4 = gm_na 39 by decide +kernel) (fw_c4 fw_si fw_si fw_si fw_si) (show 5 ≤ gm_ml 39 by decide +kernel) (Nat.le_of_ble_eq_true rfl) (by omega) (Nat.zero_le _) (Nat.zero_le _) ?_
    refine ic_sf (by omega) hE (ti_fr (W := [((200 : Nat), some (6 : Int)), ((205 : Nat), none)]) hT (fr_t fr_0 hf37 (by decide)) (by decide) (by decide +kernel)) hN ⟨by omega, by omega⟩ ⟨by omega, by omega⟩ ?_
    show gm_Wp X LX d _ _ 35 59 _ [] n K _ _ Q
    refine gm_sz (gm_p_const (pc := 59) (i := .iconst 0) (v := gm_vi 0) (by decide +kernel) (by decide +kernel)) ?_
    refine gm_sz (gm_p_const (pc := 60) (i := .bipush 30) (v := gm_vi 30) (by decide +kernel) (by decide +kernel)) ?_
    refine gm_sz (gm_p_load (pc := 62) (i := .iload 4) (sr := 0) (j := 4) (by decide +kernel) rfl rfl rfl) ?_
    refine gm_sz (gm_p_load (pc := 64) (i := .aload_n 0) (sr := 2) (j := 0) (by decide +kernel) rfl rfl rfl) ?_
    refine gm_sz (fw_gr (pc := 65) (ix := 34) (ci := 4) (j := 0) (r := 3) (by decide +kernel) (e0k hE (k := 200) (c := 4) (by decide +kernel)) (by decide +kernel) (by decide +kernel) (e0r hE (k := 200) (j := 0) (r := 3) (by decide +kernel))) ?_
    refine gm_sz (fw_gr (pc := 68) (ix := 93) (ci := 1) (j := 8) (r := 246) (by decide +kernel) (e0k hE (k := 3) (c := 1) (by decide +kernel)) (by decide +kernel) (by decide +kernel) hlw) ?_
    refine gm_sz (gm_p_load (pc := 71) (i := .aload_n 0) (sr := 2) (j := 0) (by decide +kernel) rfl rfl rfl) ?_
    refine gm_sz (fw_gr (pc := 72) (ix := 23) (ci := 4) (j := 4) (r := 204) (by decide +kernel) (e0k hE (k := 200) (c := 4) (by decide +kernel)) (by decide +kernel) (by decide +kernel) (e0r hE (k := 200) (j := 4) (r := 204) (by decide +kernel))) ?_
    refine gm_c_virt (k := 246) (ci := 10) (mj := 40) (ix := 105) (pc := 75) (as := [gm_vr 204]) (st := [gm_vi (sp lane row), gm_vi 30, gm_vi 0]) (d' := d - 1) (bc' := 0) (bs' := 0) (by decide +kernel) (by decide +kernel) (by decide +kernel) (by decide +kernel) (lk6 hL).1 (lk6 hL).2 (by decide) (by decide +kernel) (show 1 = gm_na 40 by decide +kernel) (fw_c1 fw_sr) (show 2 ≤ gm_ml 40 by decide +kernel) (Nat.le_of_ble_eq_true rfl) (by omega) (Nat.zero_le _) (Nat.zero_le _) ?_
    refine fa_c40 (F := (fcts N h lane row year (sp lane row) 0 0 0)) (C := C) (L := Ln) (m := m) (by omega) hE hL (lb_fr (W := [((200 : Nat), some (6 : Int)), ((205 : Nat), none), ((204 : Nat), some (0 : Int)), ((204 : Nat), some (1 : Int)), ((204 : Nat), some (2 : Int)), ((204 : Nat), some (3 : Int)), ((204 : Nat), some (4 : Int)), ((204 : Nat), some (5 : Int)), ((204 : Nat), some (6 : Int)), ((204 : Nat), some (7 : Int)), ((204 : Nat), some (8 : Int)), ((204 : Nat), some (9 : Int))]) (fr_p (fr_p (fr_p (fr_p (fr_p (fr_p (fr_p (fr_p (fr_p (fr_p (fr_t fr_0 hf37 (by decide)) (Or.inr (by decide))) (Or.inr (by decide))) (Or.inr (by decide))) (Or.inr (by decide))) (Or.inr (by decide))) (Or.inr (by decide))) (Or.inr (by decide))) (Or.inr (by decide))) (Or.inr (by decide))) (Or.inr (by decide))) (by decide) hB).1 (fun j j0 j1 => ic_fa_s j j0 j1) (lb_fr (W := [((200 : Nat), some (6 : Int)), ((205 : Nat), none), ((204 : Nat), some (0 : Int)), ((204 : Nat), some (1 : Int)), ((204 : Nat), some (2 : Int)), ((204 : Nat), some (3 : Int)), ((204 : Nat), some (4 : Int)), ((204 : Nat), some (5 : Int)), ((204 : Nat), some (6 : Int)), ((204 : Nat), some (7 : Int)), ((204 : Nat), some (8 : Int)), ((204 : Nat), some (9 : Int))]) (fr_p (fr_p (fr_p (fr_p (fr_p (fr_p (fr_p (fr_p (fr_p (fr_p (fr_t fr_0 hf37 (by decide)) (Or.inr (by decide))) (Or.inr (by decide))) (Or.inr (by decide))) (Or.inr (by decide))) (Or.inr (by decide))) (Or.inr (by decide))) (Or.inr (by decide))) (Or.inr (by decide))) (Or.inr (by decide))) (Or.inr (by decide))) (by decide) hB).2.1 (lb_fr (W := [((200 : Nat), some (6 : Int)), ((205 : Nat), none), ((204 : Nat), some (0 : Int)), ((204 : Nat), some (1 : Int)), ((204 : Nat), some (2 : Int)), ((204 : Nat), some (3 : Int)), ((204 : Nat), some (4 : Int)), ((204 : Nat), some (5 : Int)), ((204 : Nat), some (6 : Int)), ((204 : Nat), some (7 : Int)), ((204 : Nat), some (8 : Int)), ((204 : Nat), some (9 : Int))]) (fr_p (fr_p (fr_p (fr_p (fr_p (fr_p (fr_p (fr_p (fr_p (fr_p (fr_t fr_0 hf37 (by decide)) (Or.inr (by decide))) (Or.inr (by decide))) (Or.inr (by decide))) (Or.inr (by decide))) (Or.inr (by decide))) (Or.inr (by decide))) (Or.inr (by decide))) (Or.inr (by decide))) (Or.inr (by decide))) (Or.inr (by decide))) (by decide) hB).2.2.1 (lb_fr (W := [((200 : Nat), some (6 : Int)), ((205 : Nat), none), ((204 : Nat), some (0 : Int)), ((204 : Nat), some (1 : Int)), ((204 : Nat), some (2 : Int)), ((204 : Nat), some (3 : Int)), ((204 : Nat), some (4 : Int)), ((204 : Nat), some (5 : Int)), ((204 : Nat), some (6 : Int)), ((204 : Nat), some (7 : Int)), ((204 : Nat), some (8 : Int)), ((204 : Nat), some (9 : Int))]) (fr_p (fr_p (fr_p (fr_p (fr_p (fr_p (fr_p (fr_p (fr_p (fr_p (fr_t fr_0 hf37 (by decide)) (Or.inr (by decide))) (Or.inr (by decide))) (Or.inr (by decide))) (Or.inr (by decide))) (Or.inr (by decide))) (Or.inr (by decide))) (Or.inr (by decide))) (Or.inr (by decide))) (Or.inr (by decide))) (Or.inr (by decide))) (by decide) hB).2.2.2 ?_
    show gm_Wp X LX d _ _ 35 78 _ [gm_vi (lfas (fcts N h lane row year (sp lane row) 0 0 0) C Ln m.toNat), gm_vi (sp lane row), gm_vi 30, gm_vi 0] n K _ _ Q
    have hl9 := lfas_b (C := C) (F := (fcts N h lane row year (sp lane row) 0 0 0)) hB9.2 m.toNat (by omega)
    refine gm_sz (gm_p_bin (pc := 78) (i := .iadd) (f := fun x y => x + y) (by decide +kernel) rfl) ?_
    refine gm_sz (gm_p_min (pc := 79) (ix := 109) (x := 30) (y := (sp lane row) + (lfas (fcts N h lane row year (sp lane row) 0 0 0) C Ln m.toNat)) (by decide +kernel) (by decide +kernel) (gm_w_id (by omega) (by omega)) (gm_w_id (by omega) (by omega)) (Nat.le_of_ble_eq_true rfl) (by omega)) ?_
    refine gm_sz (gm_p_max (pc := 82) (ix := 77) (x := 0) (y := min 30 ((sp lane row) + (lfas (fcts N h lane row year (sp lane row) 0 0 0) C Ln m.toNat))) (by decide +kernel) (by decide +kernel) (gm_w_id (by omega) (by omega)) (gm_w_id (by omega) (by omega)) (Nat.le_of_ble_eq_true rfl) (by omega)) ?_
    refine gm_sz (gm_p_stor (pc := 85) (i := .istore 6) (sr := 0) (j := 6) (by decide +kernel) rfl (show 7 ≤ _ from Nat.le_of_ble_eq_true rfl) rfl) ?_
    refine gm_sz (gm_p_load (pc := 87) (i := .aload_n 0) (sr := 2) (j := 0) (by decide +kernel) rfl rfl rfl) ?_
    refine gm_sz (gm_p_load (pc := 88) (i := .iload 5) (sr := 0) (j := 5) (by decide +kernel) rfl rfl rfl) ?_
    refine gm_sz (gm_p_load (pc := 90) (i := .iload 6) (sr := 0) (j := 6) (by decide +kernel) rfl rfl rfl) ?_
    refine gm_c_virt (k := 200) (ci := 4) (mj := 42) (ix := 112) (pc := 92) (as := [gm_vi ((((lane * 99) + row) * 300) + year), gm_vi (max 0 (min 30 ((sp lane row) + (lfas (fcts N h lane row year (sp lane row) 0 0 0) C Ln m.toNat))))]) (st := []) (d' := d - 1) (bc' := 0) (bs' := 0) (by decide +kernel) (by decide +kernel) (by decide +kernel) (by decide +kernel) (e0k hE (k := 200) (c := 4) (by decide +kernel)).1 (e0k hE (k := 200) (c := 4) (by decide +kernel)).2 (by decide) (by decide +kernel) (show 2 = gm_na 42 by decide +kernel) (fw_c2 fw_si fw_si) (show 3 ≤ gm_ml 42 by decide +kernel) (Nat.le_of_ble_eq_true rfl) (by omega) (Nat.zero_le _) (Nat.zero_le _) ?_
    refine ic_kp (cell := (((lane * 99) + row) * 300) + year) (f := max 0 (min 30 ((sp lane row) + (lfas (fcts N h lane row year (sp lane row) 0 0 0) C Ln m.toNat)))) hE ⟨by omega, by omega⟩ ⟨by omega, by omega⟩ ((uM_ne (by omega)).trans ((uM_ne (by omega)).trans ((uM_ne (by omega)).trans ((uM_ne (by omega)).trans ((uM_ne (by omega)).trans ((uM_ne (by omega)).trans ((uM_ne (by omega)).trans ((uM_ne (by omega)).trans ((uM_ne (by omega)).trans ((uM_ne (by omega)).trans h637)))))))))) (fun M42 hf42 hk42 ho42 => ?_)
    show gm_Wp X LX d _ _ 35 95 _ [] n K _ _ Q
    refine gm_sz (gm_p_load (pc := 95) (i := .iload 6) (sr := 0) (j := 6) (by decide +kernel) rfl rfl rfl) ?_
    have ke : ∀ c, kv (gm_uM (gm_uM (gm_uM (gm_uM (gm_uM (gm_uM (gm_uM (gm_uM (gm_uM (gm_uM M37 204 0 lane) 204 1 row) 204 2 year) 204 3 (h year)) 204 4 (sp lane row)) 204 5 0) 204 6 0) 204 7 0) 204 8 (if lane = 0 ∨ lane = N 0 - 1 then 1 else 0)) 204 9 (if lane < N 12 then 1 else 0)) c = kv M37 c := kv_e ((uM_ne (by omega)).trans ((uM_ne (by omega)).trans ((uM_ne (by omega)).trans ((uM_ne (by omega)).trans ((uM_ne (by omega)).trans ((uM_ne (by omega)).trans ((uM_ne (by omega)).trans ((uM_ne (by omega)).trans ((uM_ne (by omega)).trans ((uM_ne (by omega)).trans rfl)))))))))) (fun j => ((uM_ne (by omega)).trans ((uM_ne (by omega)).trans ((uM_ne (by omega)).trans ((uM_ne (by omega)).trans ((uM_ne (by omega)).trans ((uM_ne (by omega)).trans ((uM_ne (by omega)).trans ((uM_ne (by omega)).trans ((uM_ne (by omega)).trans ((uM_ne (by omega)).trans rfl)))))))))))
    have kf : KFL N (lphi N h sp C Ln m) M42 := by
      refine ⟨?_, fun l r y l0 l1 r0 r1 y0 y1 => ?_⟩
      · rw [show M42 200 6 = 0 from ((fr_c hf42 (by decide)).trans ((uM_ne (by omega)).trans ((uM_ne (by omega)).trans ((uM_ne (by omega)).trans ((uM_ne (by omega)).trans ((uM_ne (by omega)).trans ((uM_ne (by omega)).trans ((uM_ne (by omega)).trans ((uM_ne (by omega)).trans ((uM_ne (by omega)).trans ((uM_ne (by omega)).trans h637)))))))))))]
        exact ⟨by decide, by decide⟩
      · by_cases e : (l * 99 + r) * 300 + y = (lane * 99 + row) * 300 + year
        · obtain ⟨rfl, rfl, rfl⟩ : l = lane ∧ r = row ∧ y = year := ⟨by omega, by omega, by omega⟩
          exact Or.inr hk42
        · rw [(ho42 _ (by omega) (by omega) e).trans (ke _), hk37 _ (by omega) (by omega)]
          exact hk l r y l0 l1 r0 r1 y0 y1
    exact gm_r_int (pc := 97) (by decide +kernel) (Or.inl (by decide +kernel)) (hq _ (fr_t (fr_p (fr_p (fr_p (fr_p (fr_p (fr_p (fr_p (fr_p (fr_p (fr_p (fr_t fr_0 hf37 (by decide)) (Or.inl (by decide))) (Or.inl (by decide))) (Or.inl (by decide))) (Or.inl (by decide))) (Or.inl (by decide))) (Or.inl (by decide))) (Or.inl (by decide))) (Or.inl (by decide))) (Or.inl (by decide))) (Or.inl (by decide))) hf42 (by decide)) ⟨(lb_fr (W := [((200 : Nat), some (6 : Int)), ((205 : Nat), none), ((204 : Nat), some (0 : Int)), ((204 : Nat), some (1 : Int)), ((204 : Nat), some (2 : Int)), ((204 : Nat), some (3 : Int)), ((204 : Nat), some (4 : Int)), ((204 : Nat), some (5 : Int)), ((204 : Nat), some (6 : Int)), ((204 : Nat), some (7 : Int)), ((204 : Nat), some (8 : Int)), ((204 : Nat), some (9 : Int))]) (fr_t (fr_p (fr_p (fr_p (fr_p (fr_p (fr_p (fr_p (fr_p (fr_p (fr_p (fr_t fr_0 hf37 (by decide)) (Or.inr (by decide))) (Or.inr (by decide))) (Or.inr (by decide))) (Or.inr (by decide))) (Or.inr (by decide))) (Or.inr (by decide))) (Or.inr (by decide))) (Or.inr (by decide))) (Or.inr (by decide))) (Or.inr (by decide))) hf42 (by decide)) (by decide) hB), kf⟩)
theorem ic_flw (hE : E0 n K R) (hL : LE n K R NC) (hlw : R 3 ((8 : Nat) : Int) = 246) (hN : NR N) (hsp : ∀ l r, 0 ≤ l → l < 6 → 0 ≤ r → r < 99 → 0 ≤ sp l r ∧ sp l r ≤ 20) : FLW X LX n K R N h sp (fun M => LB NC C Ln m M ∧ KFL N (lphi N h sp C Ln m) M) (lphi N h sp C Ln m) := by
  refine ⟨fun l r y => by unfold lphi; exact ⟨by omega, by omega⟩, fun W M M2 hw h9 hI => ⟨lb_fr h9 (List.all_eq_true.mpr fun w hw9 => by have := List.all_eq_true.mp hw w hw9; simp at this ⊢; omega) hI.1, kfl_fr h9 (List.all_eq_true.mpr fun w hw9 => by have := List.all_eq_true.mp hw w hw9; simp at this ⊢; omega) hI.2⟩, ?_⟩
  exact fun d bc bs M Q lane row year hd h1 h2 h3 hT hI hq => ic_flx hE hL hlw hN hsp d bc bs M Q lane row year hd ⟨h1.1, by have := hN.1.1; omega⟩ ⟨h2.1, by have := hN.1.2.1; omega⟩ h3 hT hI hq
theorem ic_flw0 (hE : E0 n K R) (hlw : R 3 ((8 : Nat) : Int) = 0) (hN : NR N) (hsp : ∀ l r, 0 ≤ l → l < 6 → 0 ≤ r → r < 99 → 0 ≤ sp l r ∧ sp l r ≤ 20) : FLW X LX n K R N h sp (fun _ => True) (nphi sp) := by
  refine ⟨fun l r y => by unfold nphi; exact ⟨by omega, by omega⟩, fun W M M2 hw h9 hI => trivial, ?_⟩
  intro d bc bs M Q lane row year hd h1 h2 h3 hT hI hq
  obtain ⟨⟨⟨a0, b0⟩, ⟨a1, b1⟩, ⟨a10, b10⟩, ⟨a11, b11⟩, ⟨a12, b12⟩, a9, b9⟩, ⟨⟨a2, b2⟩, ⟨a5, b5⟩, ⟨a3, b3⟩, ⟨a4, b4⟩, ⟨a6, b6⟩, ⟨a14, b14⟩, ⟨a7, b7⟩, a13, b13⟩, rF, rP, rL⟩ := id hN
  have hsp9 := hsp lane row (by omega) (by omega) (by omega) (by omega)
  have e9 : nphi sp lane row year = sp lane row := by unfold nphi; omega
  rw [e9] at hq
  refine gm_sz (gm_p_load (pc := 0) (i := .aload_n 0) (sr := 2) (j := 0) (by decide +kernel) rfl rfl rfl) ?_
  refine gm_sz (gm_p_load (pc := 1) (i := .iload_n 1) (sr := 0) (j := 1) (by decide +kernel) rfl rfl rfl) ?_
  refine gm_sz (gm_p_load (pc := 2) (i := .iload_n 2) (sr := 0) (j := 2) (by decide +kernel) rfl rfl rfl) ?_
  refine gm_c_virt (k := 200) (ci := 4) (mj := 36) (ix := 90) (pc := 3) (as := [gm_vi lane, gm_vi row]) (st := []) (d' := d - 1) (bc' := 0) (bs' := 0) (by decide +kernel) (by decide +kernel) (by decide +kernel) (by decide +kernel) (e0k hE (k := 200) (c := 4) (by decide +kernel)).1 (e0k hE (k := 200) (c := 4) (by decide +kernel)).2 (by decide) (by decide +kernel) (show 2 = gm_na 36 by decide +kernel) (fw_c2 fw_si fw_si) (show 3 ≤ gm_ml 36 by decide +kernel) (Nat.le_of_ble_eq_true rfl) (by omega) (Nat.zero_le _) (Nat.zero_le _) ?_
  refine ic_spd hE hT hN ⟨by omega, by omega⟩ ⟨by omega, by omega⟩ ?_
  show gm_Wp X LX d _ _ 35 6 _ [gm_vi (sp lane row)] n K _ _ Q
  refine gm_sz (gm_p_stor (pc := 6) (i := .istore 4) (sr := 0) (j := 4) (by decide +kernel) rfl (show 5 ≤ _ from Nat.le_of_ble_eq_true rfl) rfl) ?_
  refine gm_sz (gm_p_load (pc := 8) (i := .aload_n 0) (sr := 2) (j := 0) (by decide +kernel) rfl rfl rfl) ?_
  refine gm_sz (fw_gr (pc := 9) (ix := 34) (ci := 4) (j := 0) (r := 3) (by decide +kernel) (e0k hE (k := 200) (c := 4) (by decide +kernel)) (by decide +kernel) (by decide +kernel) (e0r hE (k := 200) (j := 0) (r := 3) (by decide +kernel))) ?_
  refine gm_sz (fw_gr (pc := 12) (ix := 93) (ci := 1) (j := 8) (r := 0) (by decide +kernel) (e0k hE (k := 3) (c := 1) (by decide +kernel)) (by decide +kernel) (by decide +kernel) hlw) ?_
  refine gm_b_nnul (pc := 15) (off := 6) (k0 := 0) (by decide) (by decide +kernel) (by decide) (fun h => absurd rfl h) (fun _ => ?_)
  refine gm_sz (gm_p_load (pc := 18) (i := .iload 4) (sr := 0) (j := 4) (by decide +kernel) rfl rfl rfl) ?_
  exact gm_r_int (pc := 20) (by decide +kernel) (Or.inl (by decide +kernel)) (hq M fr_0 trivial)
/-- who may open, by what it answers -/
noncomputable def MOW (X : Int → Int) (LX n : Nat) (K : gm_K) (R : gm_R) (N h : Int → Int) (sp : Int → Int → Int) (FI : gm_M → Prop) (ψ : Int → Int → Int → Int → Prop) : Prop := ∀ (d bc bs : Nat) (M : gm_M) (Q : gm_Q) (person lane age deep : Int), 3 ≤ d → 0 ≤ lane ∧ lane < N 0 → TI N h sp M → FI M → (ψ person lane age deep → ∀ M2, fr [((204 : Nat), none)] M M2 → Q (.inl (some (gm_vi 1))) n K R M2) → (¬ ψ person lane age deep → ∀ M2, fr [((204 : Nat), none)] M M2 → Q (.inl (some (gm_vi 0))) n K R M2) → gm_Wp X LX d bc bs 164 0 (gm_ent 164 [gm_vr 200, gm_vi person, gm_vi lane, gm_vi age, gm_vi deep]) [] n K R M Q
/-- OPEN under a law -/
noncomputable def lpsi (N h C Ln : Int → Int) (m : Int) (person lane age deep : Int) : Prop := lopn (fcts N h lane (N 1) (N 9) 0 person age deep) C Ln m
theorem ic_mow (hE : E0 n K R) (hL : LE n K R NC) (hlw : R 3 ((8 : Nat) : Int) = 246) (hN : NR N) : MOW X LX n K R N h sp (fun M => LB NC C Ln m M ∧ KFL N (lphi N h sp C Ln m) M) (lpsi N h C Ln m) := by
  intro d bc bs M Q person lane age deep hd h1 hT hI q1 q0
  obtain ⟨hB, -⟩ := hI
  obtain ⟨⟨⟨a0, b0⟩, ⟨a1, b1⟩, ⟨a10, b10⟩, ⟨a11, b11⟩, ⟨a12, b12⟩, a9, b9⟩, ⟨⟨a2, b2⟩, ⟨a5, b5⟩, ⟨a3, b3⟩, ⟨a4, b4⟩, ⟨a6, b6⟩, ⟨a14, b14⟩, ⟨a7, b7⟩, a13, b13⟩, rF, rP, rL⟩ := id hN
  refine gm_sz (gm_p_load (pc := 0) (i := .aload_n 0) (sr := 2) (j := 0) (by decide +kernel) rfl rfl rfl) ?_
  refine gm_sz (fw_gr (pc := 1) (ix := 34) (ci := 4) (j := 0) (r := 3) (by decide +kernel) (e0k hE (k := 200) (c := 4) (by decide +kernel)) (by decide +kernel) (by decide +kernel) (e0r hE (k := 200) (j := 0) (r := 3) (by decide +kernel))) ?_
  refine gm_sz (fw_gr (pc := 4) (ix := 93) (ci := 1) (j := 8) (r := 246) (by decide +kernel) (e0k hE (k := 3) (c := 1) (by decide +kernel)) (by decide +kernel) (by decide +kernel) hlw) ?_
  refine gm_b_nnul (pc := 7) (off := 5) (k0 := 246) (by decide) (by decide +kernel) (by decide) (fun _ => ?_) (fun h => absurd h (by decide))
  refine gm_sz (gm_p_load (pc := 12) (i := .aload_n 0) (sr := 2) (j := 0) (by decide +kernel) rfl rfl rfl) ?_
  refine gm_sz (gm_p_load (pc := 13) (i := .iload_n 2) (sr := 0) (j := 2) (by decide +kernel) rfl rfl rfl) ?_
  refine gm_sz (gm_p_load (pc := 14) (i := .aload_n 0) (sr := 2) (j := 0) (by decide +kernel) rfl rfl rfl) ?_
  refine gm_sz (fw_gr (pc := 15) (ix := 34) (ci := 4) (j := 0) (r := 3) (by decide +kernel) (e0k hE (k := 200) (c := 4) (by decide +kernel)) (by decide +kernel) (by decide +kernel) (e0r hE (k := 200) (j := 0) (r := 3) (by decide +kernel))) ?_
  refine gm_sz (fw_gi (pc := 18) (ix := 85) (ci := 1) (j := 1) (x := N 1) (by decide +kernel) (e0k hE (k := 3) (c := 1) (by decide +kernel)) (by decide +kernel) (by decide +kernel) (ti_las hT)) ?_
  refine gm_sz (gm_p_load (pc := 21) (i := .aload_n 0) (sr := 2) (j := 0) (by decide +kernel) rfl rfl rfl) ?_
  refine gm_sz (fw_gr (pc := 22) (ix := 34) (ci := 4) (j := 0) (r := 3) (by decide +kernel) (e0k hE (k := 200) (c := 4) (by decide +kernel)) (by decide +kernel) (by decide +kernel) (e0r hE (k := 200) (j := 0) (r := 3) (by decide +kernel))) ?_
  refine gm_sz (fw_gi (pc := 25) (ix := 129) (ci := 1) (j := 6) (x := N 9) (by decide +kernel) (e0k hE (k := 3) (c := 1) (by decide +kernel)) (by decide +kernel) (by decide +kernel) (ti_now hT)) ?_
  refine gm_sz (gm_p_const (pc := 28) (i := .iconst 0) (v := gm_vi 0) (by decide +kernel) (by decide +kernel)) ?_
  refine gm_c_virt (k := 200) (ci := 4) (mj := 39) (ix := 101) (pc := 29) (as := [gm_vi lane, gm_vi (N 1), gm_vi (N 9), gm_vi 0]) (st := []) (d' := d - 1) (bc' := 0) (bs' := 0) (by decide +kernel) (by decide +kernel) (by decide +kernel) (by decide +kernel) (e0k hE (k := 200) (c := 4) (by decide +kernel)).1 (e0k hE (k := 200) (c := 4) (by decide +kernel)).2 (by decide) (by decide +kernel) (show 4 = gm_na 39 by decide +kernel) (fw_c4 fw_si fw_si fw_si fw_si) (show 5 ≤ gm_ml 39 by decide +kernel) (Nat.le_of_ble_eq_true rfl) (by omega) (Nat.zero_le _) (Nat.zero_le _) ?_
  refine ic_sf (by omega) hE hT hN ⟨by omega, by omega⟩ ⟨by omega, by omega⟩ ?_
  show gm_Wp X LX d _ _ 164 32 _ [] n K _ _ Q
  refine gm_sz (gm_p_load (pc := 32) (i := .aload_n 0) (sr := 2) (j := 0) (by decide +kernel) rfl rfl rfl) ?_
  refine gm_sz (fw_gr (pc := 33) (ix := 23) (ci := 4) (j := 4) (r := 204) (by decide +kernel) (e0k hE (k := 200) (c := 4) (by decide +kernel)) (by decide +kernel) (by decide +kernel) (e0r hE (k := 200) (j := 4) (r := 204) (by decide +kernel))) ?_
  refine gm_sz (gm_p_const (pc := 36) (i := .iconst 5) (v := gm_vi 5) (by decide +kernel) (by decide +kernel)) ?_
  refine gm_sz (gm_p_load (pc := 37) (i := .iload_n 1) (sr := 0) (j := 1) (by decide +kernel) rfl rfl rfl) ?_
  refine gm_sz (fw_is (pc := 38) (k := 204) (len := 10) (e0 := 5) (x := person) (M' := gm_uM (gm_uM (gm_uM (gm_uM (gm_uM (gm_uM (gm_uM (gm_uM (gm_uM (gm_uM (gm_uM M 204 0 lane) 204 1 (N 1)) 204 2 (N 9)) 204 3 (h (N 9))) 204 4 0) 204 5 0) 204 6 0) 204 7 0) 204 8 (if lane = 0 ∨ lane = N 0 - 1 then 1 else 0)) 204 9 (if lane < N 12 then 1 else 0)) 204 5 person) (by decide +kernel) (e0a hE (k := 204) (q := ((0 : Nat), (10 : Nat))) (by decide +kernel)).1 (e0a hE (k := 204) (q := ((0 : Nat), (10 : Nat))) (by decide +kernel)).2 (by decide) ⟨by omega, by omega⟩ rfl) ?_
  refine gm_sz (gm_p_load (pc := 39) (i := .aload_n 0) (sr := 2) (j := 0) (by decide +kernel) rfl rfl rfl) ?_
  refine gm_sz (fw_gr (pc := 40) (ix := 23) (ci := 4) (j := 4) (r := 204) (by decide +kernel) (e0k hE (k := 200) (c := 4) (by decide +kernel)) (by decide +kernel) (by decide +kernel) (e0r hE (k := 200) (j := 4) (r := 204) (by decide +kernel))) ?_
  refine gm_sz (gm_p_const (pc := 43) (i := .bipush 6) (v := gm_vi 6) (by decide +kernel) (by decide +kernel)) ?_
  refine gm_sz (gm_p_load (pc := 45) (i := .iload_n 3) (sr := 0) (j := 3) (by decide +kernel) rfl rfl rfl) ?_
  refine gm_sz (fw_is (pc := 46) (k := 204) (len := 10) (e0 := 6) (x := age) (M' := gm_uM (gm_uM (gm_uM (gm_uM (gm_uM (gm_uM (gm_uM (gm_uM (gm_uM (gm_uM (gm_uM (gm_uM M 204 0 lane) 204 1 (N 1)) 204 2 (N 9)) 204 3 (h (N 9))) 204 4 0) 204 5 0) 204 6 0) 204 7 0) 204 8 (if lane = 0 ∨ lane = N 0 - 1 then 1 else 0)) 204 9 (if lane < N 12 then 1 else 0)) 204 5 person) 204 6 age) (by decide +kernel) (e0a hE (k := 204) (q := ((0 : Nat), (10 : Nat))) (by decide +kernel)).1 (e0a hE (k := 204) (q := ((0 : Nat), (10 : Nat))) (by decide +kernel)).2 (by decide) ⟨by omega, by omega⟩ rfl) ?_
  refine gm_sz (gm_p_load (pc := 47) (i := .aload_n 0) (sr := 2) (j := 0) (by decide +kernel) rfl rfl rfl) ?_
  refine gm_sz (fw_gr (pc := 48) (ix := 23) (ci := 4) (j := 4) (r := 204) (by decide +kernel) (e0k hE (k := 200) (c := 4) (by decide +kernel)) (by decide +kernel) (by decide +kernel) (e0r hE (k := 200) (j := 4) (r := 204) (by decide +kernel))) ?_
  refine gm_sz (gm_p_const (pc := 51) (i := .bipush 7) (v := gm_vi 7) (by decide +kernel) (by decide +kernel)) ?_
  refine gm_sz (gm_p_load (pc := 53) (i := .iload 4) (sr := 0) (j := 4) (by decide +kernel) rfl rfl rfl) ?_
  refine gm_sz (fw_is (pc := 55) (k := 204) (len := 10) (e0 := 7) (x := deep) (M' := gm_uM (gm_uM (gm_uM (gm_uM (gm_uM (gm_uM (gm_uM (gm_uM (gm_uM (gm_uM (gm_uM (gm_uM (gm_uM M 204 0 lane) 204 1 (N 1)) 204 2 (N 9)) 204 3 (h (N 9))) 204 4 0) 204 5 0) 204 6 0) 204 7 0) 204 8 (if lane = 0 ∨ lane = N 0 - 1 then 1 else 0)) 204 9 (if lane < N 12 then 1 else 0)) 204 5 person) 204 6 age) 204 7 deep) (by decide +kernel) (e0a hE (k := 204) (q := ((0 : Nat), (10 : Nat))) (by decide +kernel)).1 (e0a hE (k := 204) (q := ((0 : Nat), (10 : Nat))) (by decide +kernel)).2 (by decide) ⟨by omega, by omega⟩ rfl) ?_
  refine gm_sz (gm_p_load (pc := 56) (i := .aload_n 0) (sr := 2) (j := 0) (by decide +kernel) rfl rfl rfl) ?_
  refine gm_sz (fw_gr (pc := 57) (ix := 34) (ci := 4) (j := 0) (r := 3) (by decide +kernel) (e0k hE (k := 200) (c := 4) (by decide +kernel)) (by decide +kernel) (by decide +kernel) (e0r hE (k := 200) (j := 0) (r := 3) (by decide +kernel))) ?_
  refine gm_sz (fw_gr (pc := 60) (ix := 93) (ci := 1) (j := 8) (r := 246) (by decide +kernel) (e0k hE (k := 3) (c := 1) (by decide +kernel)) (by decide +kernel) (by decide +kernel) hlw) ?_
  refine gm_sz (gm_p_load (pc := 63) (i := .aload_n 0) (sr := 2) (j := 0) (by decide +kernel) rfl rfl rfl) ?_
  refine gm_sz (fw_gr (pc := 64) (ix := 23) (ci := 4) (j := 4) (r := 204) (by decide +kernel) (e0k hE (k := 200) (c := 4) (by decide +kernel)) (by decide +kernel) (by decide +kernel) (e0r hE (k := 200) (j := 4) (r := 204) (by decide +kernel))) ?_
  refine gm_c_virt (k := 246) (ci := 10) (mj := 165) (ix := 132) (pc := 67) (as := [gm_vr 204]) (st := []) (d' := d - 1) (bc' := 0) (bs' := 0) (by decide +kernel) (by decide +kernel) (by decide +kernel) (by decide +kernel) (lk6 hL).1 (lk6 hL).2 (by decide) (by decide +kernel) (show 1 = gm_na 165 by decide +kernel) (fw_c1 fw_sr) (show 2 ≤ gm_ml 165 by decide +kernel) (Nat.le_of_ble_eq_true rfl) (by omega) (Nat.zero_le _) (Nat.zero_le _) ?_
  refine lo_c165 (F := fcts N h lane (N 1) (N 9) 0 person age deep) (C := C) (L := Ln) (m := m) (by omega) hE hL (lb_fr (W := [((204 : Nat), some (0 : Int)), ((204 : Nat), some (1 : Int)), ((204 : Nat), some (2 : Int)), ((204 : Nat), some (3 : Int)), ((204 : Nat), some (4 : Int)), ((204 : Nat), some (5 : Int)), ((204 : Nat), some (6 : Int)), ((204 : Nat), some (7 : Int)), ((204 : Nat), some (8 : Int)), ((204 : Nat), some (9 : Int))]) (fr_p (fr_p (fr_p (fr_p (fr_p (fr_p (fr_p (fr_p (fr_p (fr_p (fr_p (fr_p (fr_p fr_0 (Or.inr (by decide))) (Or.inr (by decide))) (Or.inr (by decide))) (Or.inr (by decide))) (Or.inr (by decide))) (Or.inr (by decide))) (Or.inr (by decide))) (Or.inr (by decide))) (Or.inr (by decide))) (Or.inr (by decide))) (Or.inr (by decide))) (Or.inr (by decide))) (Or.inr (by decide))) (by decide) hB).1 (fun j j0 j1 => ic_fa_o j j0 j1) (lb_fr (W := [((204 : Nat), some (0 : Int)), ((204 : Nat), some (1 : Int)), ((204 : Nat), some (2 : Int)), ((204 : Nat), some (3 : Int)), ((204 : Nat), some (4 : Int)), ((204 : Nat), some (5 : Int)), ((204 : Nat), some (6 : Int)), ((204 : Nat), some (7 : Int)), ((204 : Nat), some (8 : Int)), ((204 : Nat), some (9 : Int))]) (fr_p (fr_p (fr_p (fr_p (fr_p (fr_p (fr_p (fr_p (fr_p (fr_p (fr_p (fr_p (fr_p fr_0 (Or.inr (by decide))) (Or.inr (by decide))) (Or.inr (by decide))) (Or.inr (by decide))) (Or.inr (by decide))) (Or.inr (by decide))) (Or.inr (by decide))) (Or.inr (by decide))) (Or.inr (by decide))) (Or.inr (by decide))) (Or.inr (by decide))) (Or.inr (by decide))) (Or.inr (by decide))) (by decide) hB).2.1 (lb_fr (W := [((204 : Nat), some (0 : Int)), ((204 : Nat), some (1 : Int)), ((204 : Nat), some (2 : Int)), ((204 : Nat), some (3 : Int)), ((204 : Nat), some (4 : Int)), ((204 : Nat), some (5 : Int)), ((204 : Nat), some (6 : Int)), ((204 : Nat), some (7 : Int)), ((204 : Nat), some (8 : Int)), ((204 : Nat), some (9 : Int))]) (fr_p (fr_p (fr_p (fr_p (fr_p (fr_p (fr_p (fr_p (fr_p (fr_p (fr_p (fr_p (fr_p fr_0 (Or.inr (by decide))) (Or.inr (by decide))) (Or.inr (by decide))) (Or.inr (by decide))) (Or.inr (by decide))) (Or.inr (by decide))) (Or.inr (by decide))) (Or.inr (by decide))) (Or.inr (by decide))) (Or.inr (by decide))) (Or.inr (by decide))) (Or.inr (by decide))) (Or.inr (by decide))) (by decide) hB).2.2.1 (lb_fr (W := [((204 : Nat), some (0 : Int)), ((204 : Nat), some (1 : Int)), ((204 : Nat), some (2 : Int)), ((204 : Nat), some (3 : Int)), ((204 : Nat), some (4 : Int)), ((204 : Nat), some (5 : Int)), ((204 : Nat), some (6 : Int)), ((204 : Nat), some (7 : Int)), ((204 : Nat), some (8 : Int)), ((204 : Nat), some (9 : Int))]) (fr_p (fr_p (fr_p (fr_p (fr_p (fr_p (fr_p (fr_p (fr_p (fr_p (fr_p (fr_p (fr_p fr_0 (Or.inr (by decide))) (Or.inr (by decide))) (Or.inr (by decide))) (Or.inr (by decide))) (Or.inr (by decide))) (Or.inr (by decide))) (Or.inr (by decide))) (Or.inr (by decide))) (Or.inr (by decide))) (Or.inr (by decide))) (Or.inr (by decide))) (Or.inr (by decide))) (Or.inr (by decide))) (by decide) hB).2.2.2 (fun v9 => ?_) (fun v9 => ?_)
  · show gm_Wp X LX d _ _ 164 70 _ [gm_vi 1] n K _ _ Q
    exact gm_r_int (pc := 70) (by decide +kernel) (Or.inr ⟨(by decide +kernel), Or.inr rfl⟩) (q1 v9 _ (fr_p (fr_p (fr_p (fr_p (fr_p (fr_p (fr_p (fr_p (fr_p (fr_p (fr_p (fr_p (fr_p fr_0 (Or.inl (by decide))) (Or.inl (by decide))) (Or.inl (by decide))) (Or.inl (by decide))) (Or.inl (by decide))) (Or.inl (by decide))) (Or.inl (by decide))) (Or.inl (by decide))) (Or.inl (by decide))) (Or.inl (by decide))) (Or.inl (by decide))) (Or.inl (by decide))) (Or.inl (by decide))))
  · show gm_Wp X LX d _ _ 164 70 _ [gm_vi 0] n K _ _ Q
    exact gm_r_int (pc := 70) (by decide +kernel) (Or.inr ⟨(by decide +kernel), Or.inl rfl⟩) (q0 v9 _ (fr_p (fr_p (fr_p (fr_p (fr_p (fr_p (fr_p (fr_p (fr_p (fr_p (fr_p (fr_p (fr_p fr_0 (Or.inl (by decide))) (Or.inl (by decide))) (Or.inl (by decide))) (Or.inl (by decide))) (Or.inl (by decide))) (Or.inl (by decide))) (Or.inl (by decide))) (Or.inl (by decide))) (Or.inl (by decide))) (Or.inl (by decide))) (Or.inl (by decide))) (Or.inl (by decide))) (Or.inl (by decide))))
theorem ic_mow0 (hE : E0 n K R) (hlw : R 3 ((8 : Nat) : Int) = 0) : MOW X LX n K R N h sp (fun _ => True) (fun _ _ _ _ => False) := by
  intro d bc bs M Q person lane age deep hd h1 hT hI q1 q0
  refine gm_sz (gm_p_load (pc := 0) (i := .aload_n 0) (sr := 2) (j := 0) (by decide +kernel) rfl rfl rfl) ?_
  refine gm_sz (fw_gr (pc := 1) (ix := 34) (ci := 4) (j := 0) (r := 3) (by decide +kernel) (e0k hE (k := 200) (c := 4) (by decide +kernel)) (by decide +kernel) (by decide +kernel) (e0r hE (k := 200) (j := 0) (r := 3) (by decide +kernel))) ?_
  refine gm_sz (fw_gr (pc := 4) (ix := 93) (ci := 1) (j := 8) (r := 0) (by decide +kernel) (e0k hE (k := 3) (c := 1) (by decide +kernel)) (by decide +kernel) (by decide +kernel) hlw) ?_
  refine gm_b_nnul (pc := 7) (off := 5) (k0 := 0) (by decide) (by decide +kernel) (by decide) (fun h => absurd rfl h) (fun _ => ?_)
  refine gm_sz (gm_p_const (pc := 10) (i := .iconst 0) (v := gm_vi 0) (by decide +kernel) (by decide +kernel)) ?_
  exact gm_r_int (pc := 11) (by decide +kernel) (Or.inr ⟨(by decide +kernel), Or.inl rfl⟩) (q0 id M fr_0)
end FL6
