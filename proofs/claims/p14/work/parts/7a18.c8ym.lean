/-! THE CLASS: one year more (laid by wip/core/c8.py). -/
section YM8
variable {X : Int → Int} {LX d bc bs n : Nat} {K : gm_K} {R : gm_R} {M : gm_M} {Q : gm_Q} {l p c : Int} {N h : Int → Int} {sp : Int → Int → Int} {FI : gm_M → Prop} {Ψ : (Int → Int) → Int → Int → Int → Int → Prop} {o dd : Int → Int}
theorem cs_op_fr : fr [(11, none), (14, some 3), (15, none)] M (cs_op M l p) := by
  unfold cs_op
  exact fr_p (fr_p (fr_p (fr_p (fr_p (fr_p fr_0 (Or.inl (by decide))) (Or.inl (by decide))) (Or.inr (by decide))) (Or.inl (by decide))) (Or.inl (by decide))) (Or.inl (by decide))
/-- the ends, told by functions -/
def ENF (N : Int → Int) (o dd : Int → Int) (M : gm_M) : Prop := M 220 3 = N 4 ∧ ∀ l, 0 ≤ l → l < N 4 → M 221 (l * 2 + 0) = o l ∧ M 221 (l * 2 + 1) = dd l ∧ -1 ≤ o l ∧ o l ≤ 299
theorem opf_b {ψ : Int → Int → Int → Int → Prop} {dp : Int} (hN : NR N) (h1 : 0 ≤ l ∧ l < N 4) (hr : 0 ≤ (N (119 + (l * 7 + 0)))) : -1 ≤ opf N ψ l dp ∧ opf N ψ l dp < N 3 := by
  obtain ⟨-, r1, -, -, -, -, -, r7⟩ := hN.2.2.2.2 l h1.1 h1.2
  have r8 := r7 hr
  have b3 := hN.2.1.2.2.1
  unfold opf
  by_cases h : (N (95 + (((N (119 + (l * 7 + 1)))) * 3 + 2))) = (N (119 + (l * 7 + 2)))
  · rw [tif_t h]
    exact ⟨by omega, r1.2⟩
  · rw [tif_f h]
    obtain ⟨a, b, -⟩ := fo_b (C := wop N ψ l dp) (N 3).toNat 0 (Int.le_refl _)
    exact ⟨a, by omega⟩
theorem ym_b (hd : 5 ≤ d) (hE : E0 n K R) (hT : TI N h sp M) (hN : NR N) (hg : LOGI N) (hst : FSt FI) (hmo : MOW X LX n K R N h sp FI (Ψ N)) (hI : FI M) (hen : ENF N o dd M) (h1 : 0 ≤ l ∧ l < N 4) (hc : 0 ≤ c ∧ c ≤ 24) (hq : ∀ z M2, fr [(3, some 6), (11, none), (14, some 3), (15, none), (204, none)] M M2 → cs M2 3 = (ystep Ψ o dd l (N, c)).1 → gm_Wp X LX d bc bs 162 17 [some (gm_vr 1), some (gm_vi (ystep Ψ o dd l (N, c)).2), some (gm_vi (l + 1)), z] [] n K R M2 Q) (z : Option gm_V) : gm_Wp X LX d bc bs 162 17 [some (gm_vr 1), some (gm_vi c), some (gm_vi l), z] [] n K R M Q := by
  obtain ⟨⟨⟨a0, b0⟩, ⟨a1, b1⟩, ⟨a10, b10⟩, ⟨a11, b11⟩, ⟨a12, b12⟩, a9, b9⟩, ⟨⟨a2, b2⟩, ⟨a5, b5⟩, ⟨a3, b3⟩, ⟨a4, b4⟩, ⟨a6, b6⟩, ⟨a14, b14⟩, ⟨a7, b7⟩, a13, b13⟩, rF, rP, rL⟩ := id hN
  obtain ⟨h3, hen9⟩ := hen
  obtain ⟨ho, hdp, hob⟩ := hen9 l h1.1 h1.2
  have hl24 : 0 ≤ l ∧ l < 24 := ⟨h1.1, by omega⟩
  have r9 := (rL l h1.1 h1.2).1
  have fo9 := fo_b (C := wop N (Ψ N) l (dd l)) (N 3).toNat 0 (Int.le_refl _)

  refine gm_sz (gm_p_load (pc := 17) (i := .iload_n 2) (sr := 0) (j := 2) (by decide +kernel) rfl rfl rfl) ?_
  refine gm_sz (gm_p_load (pc := 18) (i := .aload_n 0) (sr := 2) (j := 0) (by decide +kernel) rfl rfl rfl) ?_
  refine gm_sz (fw_gr (pc := 19) (ix := 23) (ci := 0) (j := 3) (r := 3) (by decide +kernel) (e0k hE (k := 1) (c := 0) (by decide +kernel)) (by decide +kernel) (by decide +kernel) (e0r hE (k := 1) (j := 3) (r := 3) (by decide +kernel))) ?_
  refine gm_sz (fw_gr (pc := 22) (ix := 203) (ci := 1) (j := 12) (r := 10) (by decide +kernel) (e0k hE (k := 3) (c := 1) (by decide +kernel)) (by decide +kernel) (by decide +kernel) (e0r hE (k := 3) (j := 12) (r := 10) (by decide +kernel))) ?_
  refine gm_c_virt (k := 10) (ci := 2) (mj := 9) (ix := 277) (pc := 25) (as := []) (st := [gm_vi l]) (d' := d - 1) (bc' := 0) (bs' := 0) (by decide +kernel) (by decide +kernel) (by decide +kernel) (by decide +kernel) (e0k hE (k := 10) (c := 2) (by decide +kernel)).1 (e0k hE (k := 10) (c := 2) (by decide +kernel)).2 (by decide) (by decide +kernel) (show 0 = gm_na 9 by decide +kernel) fw_c0 (show 1 ≤ gm_ml 9 by decide +kernel) (Nat.le_of_ble_eq_true rfl) (by omega) (Nat.zero_le _) (Nat.zero_le _) ?_
  refine rw_size (s := N 4) (e0k hE (k := 10) (c := 2) (by decide +kernel)) (ti_let hT) ?_
  show gm_Wp X LX d _ _ 162 28 _ [gm_vi (N 4), gm_vi l] n K _ _ Q
  refine fw_icf (cc := .ge) (pc := 28) (off := 40) (by decide +kernel) (by decide) ⟨by omega, by omega⟩ ⟨by omega, by omega⟩ (show ¬ (N 4) ≤ l by omega) ?_
  refine gm_sz (gm_p_load (pc := 31) (i := .aload_n 0) (sr := 2) (j := 0) (by decide +kernel) rfl rfl rfl) ?_
  refine gm_sz (gm_p_load (pc := 32) (i := .iload_n 2) (sr := 0) (j := 2) (by decide +kernel) rfl rfl rfl) ?_
  refine gm_c_virt (k := 1) (ci := 0) (mj := 66) (ix := 257) (pc := 33) (as := [gm_vi l]) (st := []) (d' := d - 1) (bc' := 0) (bs' := 0) (by decide +kernel) (by decide +kernel) (by decide +kernel) (by decide +kernel) (e0k hE (k := 1) (c := 0) (by decide +kernel)).1 (e0k hE (k := 1) (c := 0) (by decide +kernel)).2 (by decide) (by decide +kernel) (show 1 = gm_na 66 by decide +kernel) (fw_c1 fw_si) (show 2 ≤ gm_ml 66 by decide +kernel) (Nat.le_of_ble_eq_true rfl) (by omega) (Nat.zero_le _) (Nat.zero_le _) ?_
  refine wt_c66 (by omega) hE hT hN h1 h3 ho hob (fun v33 => ?_) (fun v33 => ?_)
  · show gm_Wp X LX d _ _ 162 36 _ [gm_vi 1] n K _ _ Q
    have w33 : 0 ≤ (N (119 + (l * 7 + 0))) := by have := v33.1; omega
    refine fw_iffd (cc := .eq) (pc := 36) (off := 26) (by decide +kernel) (by decide) ⟨by decide, by decide⟩ (by decide) ?_
    refine gm_sz (gm_p_load (pc := 39) (i := .aload_n 0) (sr := 2) (j := 0) (by decide +kernel) rfl rfl rfl) ?_
    refine gm_sz (gm_p_load (pc := 40) (i := .iload_n 2) (sr := 0) (j := 2) (by decide +kernel) rfl rfl rfl) ?_
    refine gm_c_virt (k := 1) (ci := 0) (mj := 163) (ix := 280) (pc := 41) (as := [gm_vi l]) (st := []) (d' := d - 1) (bc' := 0) (bs' := 0) (by decide +kernel) (by decide +kernel) (by decide +kernel) (by decide +kernel) (e0k hE (k := 1) (c := 0) (by decide +kernel)).1 (e0k hE (k := 1) (c := 0) (by decide +kernel)).2 (by decide) (by decide +kernel) (show 1 = gm_na 163 by decide +kernel) (fw_c1 fw_si) (show 2 ≤ gm_ml 163 by decide +kernel) (Nat.le_of_ble_eq_true rfl) (by omega) (Nat.zero_le _) (Nat.zero_le _) ?_
    refine op_c163 (dp := dd l) (by omega) hE hT hN hst hmo hI h1 w33 h3 hdp (fun M41 hf41 => ?_)
    show gm_Wp X LX d _ _ 162 44 _ [gm_vi (opf N (Ψ N) l (dd l))] n K _ _ Q
    have b41 := opf_b (ψ := Ψ N) (dp := dd l) hN h1 w33
    refine gm_sz (gm_p_stor (pc := 44) (i := .istore_n 3) (sr := 0) (j := 3) (by decide +kernel) rfl (show 4 ≤ _ from Nat.le_of_ble_eq_true rfl) rfl) ?_
    refine gm_sz (gm_p_load (pc := 45) (i := .iload_n 3) (sr := 0) (j := 3) (by decide +kernel) rfl rfl rfl) ?_
    refine gm_sz (gm_p_const (pc := 46) (i := .iconst (-1)) (v := gm_vi (-1)) (by decide +kernel) (by decide +kernel)) ?_
    refine fw_ic (cc := .eq) (pc := 47) (off := 15) (by decide +kernel) (by decide) ⟨by omega, by omega⟩ ⟨by decide, by decide⟩ (fun h47 => ?_) (fun h47 => ?_)
    · have h47 : (opf N (Ψ N) l (dd l)) = (-1) := h47
      refine gm_sz (gm_p_iinc (pc := 62) (j := 2) (z := 1) (by decide +kernel) rfl) ?_
      refine gm_sz (gm_p_goto (pc := 65) (off := (-48)) (by decide +kernel) (by decide)) ?_
      have e9 : ystep Ψ o dd l (N, c) = (N, c) := tif_f (fun hh => hh.2 h47)
      rw [e9] at hq
      exact hq _ _ (fr_t fr_0 hf41 (by decide)) (ti_fr (W := [(204, none)]) hT hf41 (by decide) (by decide +kernel)).2.1
    · have h47 : ¬ (opf N (Ψ N) l (dd l)) = (-1) := h47
      refine gm_sz (gm_p_load (pc := 50) (i := .aload_n 0) (sr := 2) (j := 0) (by decide +kernel) rfl rfl rfl) ?_
      refine gm_sz (fw_gr (pc := 51) (ix := 23) (ci := 0) (j := 3) (r := 3) (by decide +kernel) (e0k hE (k := 1) (c := 0) (by decide +kernel)) (by decide +kernel) (by decide +kernel) (e0r hE (k := 1) (j := 3) (r := 3) (by decide +kernel))) ?_
      refine gm_sz (gm_p_load (pc := 54) (i := .iload_n 2) (sr := 0) (j := 2) (by decide +kernel) rfl rfl rfl) ?_
      refine gm_sz (gm_p_load (pc := 55) (i := .iload_n 3) (sr := 0) (j := 3) (by decide +kernel) rfl rfl rfl) ?_
      refine gm_c_virt (k := 3) (ci := 1) (mj := 159) (ix := 266) (pc := 56) (as := [gm_vi l, gm_vi (opf N (Ψ N) l (dd l))]) (st := []) (d' := d - 1) (bc' := 0) (bs' := 0) (by decide +kernel) (by decide +kernel) (by decide +kernel) (by decide +kernel) (e0k hE (k := 3) (c := 1) (by decide +kernel)).1 (e0k hE (k := 3) (c := 1) (by decide +kernel)).2 (by decide) (by decide +kernel) (show 2 = gm_na 159 by decide +kernel) (fw_c2 fw_si fw_si) (show 3 ≤ gm_ml 159 by decide +kernel) (Nat.le_of_ble_eq_true rfl) (by omega) (Nat.zero_le _) (Nat.zero_le _) ?_
      refine cs_opn (by omega) hE (cst_fr (W := [(204, none)]) hT.1 (fr_t fr_0 hf41 (by decide)) (by decide +kernel)) (by rw [ti_let (ti_fr (W := [(204, none)]) hT (fr_t fr_0 hf41 (by decide)) (by decide) (by decide +kernel))]; exact h1) (by rw [ti_let (ti_fr (W := [(204, none)]) hT (fr_t fr_0 hf41 (by decide)) (by decide) (by decide +kernel))]; omega) (by rw [ti_ope (ti_fr (W := [(204, none)]) hT (fr_t fr_0 hf41 (by decide)) (by decide) (by decide +kernel))]; exact logi_lt hN hg h1 v33.2.1) ?_
      show gm_Wp X LX d _ _ 162 59 _ [] n K _ _ Q
      refine gm_sz (gm_p_iinc (pc := 59) (j := 1) (z := 1) (by decide +kernel) rfl) ?_
      refine gm_sz (gm_p_iinc (pc := 62) (j := 2) (z := 1) (by decide +kernel) rfl) ?_
      refine gm_sz (gm_p_goto (pc := 65) (off := (-48)) (by decide +kernel) (by decide)) ?_
      have e9 : ystep Ψ o dd l (N, c) = (nopn N l (opf N (Ψ N) l (dd l)), c + 1) := tif_t ⟨v33, h47⟩
      rw [e9] at hq
      exact hq _ _ (fr_t (fr_t fr_0 hf41 (by decide)) cs_op_fr (by decide)) (cs_op_n (ti_fr (W := [(204, none)]) hT hf41 (by decide) (by decide +kernel)).2.1 hl24 (logi_lt hN hg h1 v33.2.1))
  · show gm_Wp X LX d _ _ 162 36 _ [gm_vi 0] n K _ _ Q
    refine fw_iftd (cc := .eq) (pc := 36) (off := 26) (by decide +kernel) (by decide) ⟨by decide, by decide⟩ (by decide) ?_
    refine gm_sz (gm_p_iinc (pc := 62) (j := 2) (z := 1) (by decide +kernel) rfl) ?_
    refine gm_sz (gm_p_goto (pc := 65) (off := (-48)) (by decide +kernel) (by decide)) ?_
    have e9 : ystep Ψ o dd l (N, c) = (N, c) := tif_f (fun hh => v33 hh.1)
    rw [e9] at hq
    exact hq _ _ fr_0 hT.2.1
theorem ym_e (hd : 1 ≤ d) (hE : E0 n K R) (hT : TI N h sp M) (hN : NR N) (h1 : l = N 4) (hq : Q (.inl (some (gm_vi c))) n K R M) (z : Option gm_V) : gm_Wp X LX d bc bs 162 17 [some (gm_vr 1), some (gm_vi c), some (gm_vi l), z] [] n K R M Q := by
  obtain ⟨⟨⟨a0, b0⟩, ⟨a1, b1⟩, ⟨a10, b10⟩, ⟨a11, b11⟩, ⟨a12, b12⟩, a9, b9⟩, ⟨⟨a2, b2⟩, ⟨a5, b5⟩, ⟨a3, b3⟩, ⟨a4, b4⟩, ⟨a6, b6⟩, ⟨a14, b14⟩, ⟨a7, b7⟩, a13, b13⟩, rF, rP, rL⟩ := id hN
  have h3 : True := trivial
  refine gm_sz (gm_p_load (pc := 17) (i := .iload_n 2) (sr := 0) (j := 2) (by decide +kernel) rfl rfl rfl) ?_
  refine gm_sz (gm_p_load (pc := 18) (i := .aload_n 0) (sr := 2) (j := 0) (by decide +kernel) rfl rfl rfl) ?_
  refine gm_sz (fw_gr (pc := 19) (ix := 23) (ci := 0) (j := 3) (r := 3) (by decide +kernel) (e0k hE (k := 1) (c := 0) (by decide +kernel)) (by decide +kernel) (by decide +kernel) (e0r hE (k := 1) (j := 3) (r := 3) (by decide +kernel))) ?_
  refine gm_sz (fw_gr (pc := 22) (ix := 203) (ci := 1) (j := 12) (r := 10) (by decide +kernel) (e0k hE (k := 3) (c := 1) (by decide +kernel)) (by decide +kernel) (by decide +kernel) (e0r hE (k := 3) (j := 12) (r := 10) (by decide +kernel))) ?_
  refine gm_c_virt (k := 10) (ci := 2) (mj := 9) (ix := 277) (pc := 25) (as := []) (st := [gm_vi l]) (d' := d - 1) (bc' := 0) (bs' := 0) (by decide +kernel) (by decide +kernel) (by decide +kernel) (by decide +kernel) (e0k hE (k := 10) (c := 2) (by decide +kernel)).1 (e0k hE (k := 10) (c := 2) (by decide +kernel)).2 (by decide) (by decide +kernel) (show 0 = gm_na 9 by decide +kernel) fw_c0 (show 1 ≤ gm_ml 9 by decide +kernel) (Nat.le_of_ble_eq_true rfl) (by omega) (Nat.zero_le _) (Nat.zero_le _) ?_
  refine rw_size (s := N 4) (e0k hE (k := 10) (c := 2) (by decide +kernel)) (ti_let hT) ?_
  show gm_Wp X LX d _ _ 162 28 _ [gm_vi (N 4), gm_vi l] n K _ _ Q
  refine fw_ict (cc := .ge) (pc := 28) (off := 40) (by decide +kernel) (by decide) ⟨by omega, by omega⟩ ⟨by omega, by omega⟩ (show (N 4) ≤ l by omega) ?_
  refine gm_sz (gm_p_load (pc := 68) (i := .iload_n 1) (sr := 0) (j := 1) (by decide +kernel) rfl rfl rfl) ?_
  exact gm_r_int (pc := 69) (by decide +kernel) (Or.inl (by decide +kernel)) hq
/-- what the letters do keeps the valley, the log, the bounds -/
theorem ym_i (hN : NR N) (hg : LOGI N) {s0 : Int} (h0 : 0 ≤ s0) : ∀ k : Nat, (k : Int) ≤ N 4 → NR (yrun Ψ o dd (N, s0) k).1 ∧ LOGI (yrun Ψ o dd (N, s0) k).1 ∧ geo N (yrun Ψ o dd (N, s0) k).1 ∧ (yrun Ψ o dd (N, s0) k).1 4 = N 4 ∧ s0 ≤ (yrun Ψ o dd (N, s0) k).2 ∧ (yrun Ψ o dd (N, s0) k).2 ≤ s0 + (k : Int) := by
  intro k
  induction k with
  | zero => exact fun _ => ⟨hN, hg, geo_r, rfl, Int.le_refl _, by show s0 ≤ s0 + ((0 : Nat) : Int); omega⟩
  | succ k ih =>
    intro hk
    obtain ⟨i1, i2, i3, i4, i5, i6⟩ := ih (by omega)
    show NR (ystep Ψ o dd (k : Int) (yrun Ψ o dd (N, s0) k)).1 ∧ LOGI (ystep Ψ o dd (k : Int) (yrun Ψ o dd (N, s0) k)).1 ∧ geo N (ystep Ψ o dd (k : Int) (yrun Ψ o dd (N, s0) k)).1 ∧ (ystep Ψ o dd (k : Int) (yrun Ψ o dd (N, s0) k)).1 4 = N 4 ∧ s0 ≤ (ystep Ψ o dd (k : Int) (yrun Ψ o dd (N, s0) k)).2 ∧ (ystep Ψ o dd (k : Int) (yrun Ψ o dd (N, s0) k)).2 ≤ s0 + ((k + 1 : Nat) : Int)
    generalize yrun Ψ o dd (N, s0) k = s at i1 i2 i3 i4 i5 i6 ⊢
    unfold ystep
    by_cases h : WTS s.1 (k : Int) (o (k : Int)) ∧ ¬ opf s.1 (Ψ s.1) (k : Int) (dd (k : Int)) = -1
    · rw [tif_t h]
      have hl : 0 ≤ (k : Int) ∧ (k : Int) < s.1 4 := ⟨by omega, by omega⟩
      have b4 := i1.2.1.2.2.2.1
      have ho := logi_lt i1 i2 hl h.1.2.1
      have r9 := (i1.2.2.2.2 (k : Int) hl.1 hl.2).1
      have hb := opf_b (ψ := Ψ s.1) (dp := dd (k : Int)) i1 hl (by have := h.1.1; omega)
      exact ⟨nr_nopn i1 hl ho ⟨by have := h.2; omega, hb.2⟩, logi_nopn i1 i2 hl h.1.2.1 h.2, geo_t i3 (geo_nopn ⟨hl.1, by omega⟩ ho), (nopn_o (i := 4) (by decide) (by decide) ⟨hl.1, by omega⟩ ho).trans i4, by show s0 ≤ s.2 + 1; omega, by show s.2 + 1 ≤ _; omega⟩
    · rw [tif_f h]
      exact ⟨i1, i2, i3, i4, i5, by omega⟩
theorem ym_l (hd : 5 ≤ d) (hE : E0 n K R) (hT : TI N h sp M) (hN : NR N) (hg : LOGI N) (h9 : N 9 < 299) (hst : FSt FI) (hmo : ∀ N2, geo N N2 → NR N2 → MOW X LX n K R N2 h sp FI (Ψ N2)) (hI : FI M) (hen : ENF N o dd M) (hq : ∀ M2, fr [(3, some 6), (11, none), (14, some 3), (15, none), (204, none)] M M2 → cs M2 3 = (yrun Ψ o dd (nyr N, 0) (N 4).toNat).1 → Q (.inl (some (gm_vi (yrun Ψ o dd (nyr N, 0) (N 4).toNat).2))) n K R M2) : ∀ (u k : Nat) (z : Option gm_V) (M1 : gm_M), (k : Int) + (u : Int) = N 4 → fr [(3, some 6), (11, none), (14, some 3), (15, none), (204, none)] M M1 → cs M1 3 = (yrun Ψ o dd (nyr N, 0) k).1 → gm_Wp X LX d bc bs 162 17 [some (gm_vr 1), some (gm_vi (yrun Ψ o dd (nyr N, 0) k).2), some (gm_vi (k : Int)), z] [] n K R M1 Q := by
  have b4 := hN.2.1.2.2.2.1
  have e4 : nyr N 4 = N 4 := nup_ne (by decide)
  have inv : ∀ k : Nat, (k : Int) ≤ N 4 → NR (yrun Ψ o dd (nyr N, 0) k).1 ∧ LOGI (yrun Ψ o dd (nyr N, 0) k).1 ∧ geo (nyr N) (yrun Ψ o dd (nyr N, 0) k).1 ∧ (yrun Ψ o dd (nyr N, 0) k).1 4 = nyr N 4 ∧ 0 ≤ (yrun Ψ o dd (nyr N, 0) k).2 ∧ (yrun Ψ o dd (nyr N, 0) k).2 ≤ 0 + (k : Int) := fun k hk => ym_i (nr_nyr hN h9) (logi_nyr hg) (Int.le_refl 0) k (by rw [e4]; exact hk)
  have tie : ∀ (k : Nat) (M1 : gm_M), (k : Int) ≤ N 4 → fr [(3, some 6), (11, none), (14, some 3), (15, none), (204, none)] M M1 → cs M1 3 = (yrun Ψ o dd (nyr N, 0) k).1 → TI (yrun Ψ o dd (nyr N, 0) k).1 h sp M1 := fun k M1 hk hf hc => ti_geo (geo_t geo_nyr (inv k hk).2.2.1) hT (cst_fr hT.1 hf (by decide +kernel)) hc (fun a j a1 a2 => hf a j (fun hm => by simp at hm; omega) (fun hm => by simp at hm; omega))
  intro u
  induction u with
  | zero =>
    intro k z M1 hk hf hc
    have ek : (N 4).toNat = k := by omega
    rw [ek] at hq
    obtain ⟨i1, -, -, i4, -⟩ := inv k (by omega)
    exact ym_e (by omega) hE (tie k M1 (by omega) hf hc) i1 (by rw [i4, e4]; omega) (hq M1 hf hc) z
  | succ u ih =>
    intro k z M1 hk hf hc
    obtain ⟨i1, i2, i3, i4, i5, i6⟩ := inv k (by omega)
    have en : ENF (yrun Ψ o dd (nyr N, 0) k).1 o dd M1 := ⟨by rw [i4, e4]; exact (fr_c hf (by decide)).trans hen.1, fun l l0 l1 => by
      rw [i4, e4] at l1
      obtain ⟨a, b, c⟩ := hen.2 l l0 l1
      exact ⟨(fr_c hf (by decide)).trans a, (fr_c hf (by decide)).trans b, c⟩⟩
    refine ym_b hd hE (tie k M1 (by omega) hf hc) i1 i2 hst (hmo _ (geo_t geo_nyr i3) i1) (hst [(3, some 6), (11, none), (14, some 3), (15, none), (204, none)] _ _ (by decide) hf hI) en ⟨by omega, by rw [i4, e4]; omega⟩ ⟨i5, by omega⟩ (fun z2 M2 hf2 hc2 => ?_) z
    have q := ih (k + 1) z2 M2 (by omega) (fr_t hf hf2 (by decide)) hc2
    rwa [show ((k + 1 : Nat) : Int) = (k : Int) + 1 by omega] at q
theorem ym_c162 (hd : 5 ≤ d) (hE : E0 n K R) (hT : TI N h sp M) (hN : NR N) (hg : LOGI N) (h9 : N 9 < 299) (hst : FSt FI) (hmo : ∀ N2, geo N N2 → NR N2 → MOW X LX n K R N2 h sp FI (Ψ N2)) (hI : FI M) (hen : ENF N o dd M) (hq : ∀ M2, fr [(3, some 6), (11, none), (14, some 3), (15, none), (204, none)] M M2 → cs M2 3 = (yrun Ψ o dd (nyr N, 0) (N 4).toNat).1 → Q (.inl (some (gm_vi (yrun Ψ o dd (nyr N, 0) (N 4).toNat).2))) n K R M2) : gm_Wp X LX d bc bs 162 0 (gm_ent 162 [gm_vr 1]) [] n K R M Q := by
  obtain ⟨⟨⟨a0, b0⟩, ⟨a1, b1⟩, ⟨a10, b10⟩, ⟨a11, b11⟩, ⟨a12, b12⟩, a9, b9⟩, ⟨⟨a2, b2⟩, ⟨a5, b5⟩, ⟨a3, b3⟩, ⟨a4, b4⟩, ⟨a6, b6⟩, ⟨a14, b14⟩, ⟨a7, b7⟩, a13, b13⟩, rF, rP, rL⟩ := id hN
  refine gm_sz (gm_p_load (pc := 0) (i := .aload_n 0) (sr := 2) (j := 0) (by decide +kernel) rfl rfl rfl) ?_
  refine gm_sz (fw_gr (pc := 1) (ix := 23) (ci := 0) (j := 3) (r := 3) (by decide +kernel) (e0k hE (k := 1) (c := 0) (by decide +kernel)) (by decide +kernel) (by decide +kernel) (e0r hE (k := 1) (j := 3) (r := 3) (by decide +kernel))) ?_
  refine gm_sz (gm_p_dup (pc := 4) (by decide +kernel) fw_sr) ?_
  refine gm_sz (fw_gi (pc := 5) (ix := 269) (ci := 1) (j := 6) (x := N 9) (by decide +kernel) (e0k hE (k := 3) (c := 1) (by decide +kernel)) (by decide +kernel) (by decide +kernel) (ti_now hT)) ?_
  refine gm_sz (gm_p_const (pc := 8) (i := .iconst 1) (v := gm_vi 1) (by decide +kernel) (by decide +kernel)) ?_
  refine gm_sz (gm_p_bin (pc := 9) (i := .iadd) (f := fun x y => x + y) (by decide +kernel) rfl) ?_
  refine gm_sz (fw_pi (pc := 10) (ix := 269) (ci := 1) (j := 6) (M' := gm_uM M 3 6 ((N 9) + 1)) (by decide +kernel) (e0k hE (k := 3) (c := 1) (by decide +kernel)) (by decide +kernel) (by decide +kernel) (by decide +kernel) rfl) ?_
  refine gm_sz (gm_p_const (pc := 13) (i := .iconst 0) (v := gm_vi 0) (by decide +kernel) (by decide +kernel)) ?_
  refine gm_sz (gm_p_stor (pc := 14) (i := .istore_n 1) (sr := 0) (j := 1) (by decide +kernel) rfl (show 2 ≤ _ from Nat.le_of_ble_eq_true rfl) rfl) ?_
  refine gm_sz (gm_p_const (pc := 15) (i := .iconst 0) (v := gm_vi 0) (by decide +kernel) (by decide +kernel)) ?_
  refine gm_sz (gm_p_stor (pc := 16) (i := .istore_n 2) (sr := 0) (j := 2) (by decide +kernel) rfl (show 3 ≤ _ from Nat.le_of_ble_eq_true rfl) rfl) ?_
  exact ym_l hd hE hT hN hg h9 hst hmo hI hen hq (N 4).toNat 0 _ _ (by omega) (fr_p fr_0 (Or.inr (by decide))) (by rw [cs_f9 (b := 3), hT.2.1]; rfl)
end YM8
