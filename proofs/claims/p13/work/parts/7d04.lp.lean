/-! THE LAW'S LOOP, told of class and reference (laid by wip/rel/gq.py). -/
section LPF
variable {X : Int → Int} {LX g bc bs : Nat} {i : Int} {la : Nat → Nat} {K : gm_K} {R : gm_R} {M : gm_M} {Q : gm_Q} {L : gm_L}
theorem mn_L_i {z : Int} (h : mn_L i L) : mn_L z (gm_lst L 4 (gm_vi z)) := by
  obtain ⟨h0, h1, h2, h3, h4, h5⟩ := h
  show mn_L z ((gm_lc L 4).set 4 (some (gm_vi z)))
  have e3 : (gm_lc L 4)[3]? = some (some (gm_vr 245)) := by
    show (match L[3]? with
      | some (some (.inr (.inl _))) => L.set 3 none
      | _ => L)[3]? = _
    rw [h4]
    exact h4
  have e : ∀ k, k < 3 → ((gm_lc L 4).set 4 (some (gm_vi z)))[k]? = L[k]? := fun k hk => by
    rw [List.getElem?_set, if_neg (by omega), gm_lc_ne (by omega)]
  refine ⟨by rw [List.length_set, gm_lc_len]; exact h0, (e 0 (by decide)).trans h1, (e 1 (by decide)).trans h2, (e 2 (by decide)).trans h3, ?_, ?_⟩
  · rw [List.getElem?_set, if_neg (by decide)]
    exact e3
  · rw [List.getElem?_set, if_pos rfl, if_pos (by rw [gm_lc_len]; omega)]
theorem mn_lp (hLX : LX ≤ 3072) (hX : ∀ j, gm_ir (X j)) (hQ : ∀ n K R M, Q (.inl (some (gm_vi 1))) n K R M) : ∀ (t : Nat) (i : Int) (g bc bs : Nat) (la : Nat → Nat) (K : gm_K) (R : gm_R) (M : gm_M) (L : gm_L), (LX : Int) - i ≤ 6 * (t : Int) + 5 → 0 ≤ i → i ≤ (LX : Int) + 6 → g + 2 * t ≤ 9000 → 12 * t ≤ bc → 1200 * t ≤ bs → bg g la K R M → RELW la K M → mn_L i L → gm_Wp X LX 280 bc bs 370 23 L [] (245 + 4 * g) K R M Q := by
  intro t
  induction t with
  | zero =>
    intro i g bc bs la K R M L ht h0 h6 hg hbc hbs hb hM hL
    refine gm_sz (gm_p_load (pc := 23) (i := .iload 4) (sr := 0) (j := 4) (by decide +kernel) rfl hL.2.2.2.2.2 rfl) ?_
    refine gm_sz (gm_p_load (pc := 25) (i := .aload_n 0) (sr := 2) (j := 0) (by decide +kernel) rfl hL.2.1 rfl) ?_
    refine gm_sz (gm_p_slen (pc := 26) (by decide +kernel)) ?_
    refine gm_sz (gm_p_const (pc := 27) (i := .bipush 6) (v := gm_vi 6) (by decide +kernel) (by decide +kernel)) ?_
    refine gm_sz (gm_p_bin (pc := 29) (i := .isub) (f := fun x y => x - y) (by decide +kernel) rfl) ?_
    refine gm_b_ic (cc := .gt) (pc := 30) (off := 1969) (by decide +kernel) (by decide) (fun _ => ?_) (fun hp => ?_)
    · refine gm_sz (gm_p_const (pc := 1999) (i := .iconst 1) (v := gm_vi 1) (by decide +kernel) (by decide +kernel)) ?_
      exact gm_r_int (pc := 2000) (by decide +kernel) (Or.inr ⟨by decide +kernel, Or.inr rfl⟩) (hQ _ _ _ _)
    · rw [gm_cm_w ⟨by omega, by omega⟩ ⟨by omega, by omega⟩] at hp
      have hp : ¬ (LX : Int) - 6 < i := hp
      omega
  | succ t ih =>
    intro i g bc bs la K R M L ht h0 h6 hg hbc hbs hb hM hL
    refine gm_sz (gm_p_load (pc := 23) (i := .iload 4) (sr := 0) (j := 4) (by decide +kernel) rfl hL.2.2.2.2.2 rfl) ?_
    refine gm_sz (gm_p_load (pc := 25) (i := .aload_n 0) (sr := 2) (j := 0) (by decide +kernel) rfl hL.2.1 rfl) ?_
    refine gm_sz (gm_p_slen (pc := 26) (by decide +kernel)) ?_
    refine gm_sz (gm_p_const (pc := 27) (i := .bipush 6) (v := gm_vi 6) (by decide +kernel) (by decide +kernel)) ?_
    refine gm_sz (gm_p_bin (pc := 29) (i := .isub) (f := fun x y => x - y) (by decide +kernel) rfl) ?_
    refine gm_b_ic (cc := .gt) (pc := 30) (off := 1969) (by decide +kernel) (by decide) (fun _ => ?_) (fun hp => ?_)
    · refine gm_sz (gm_p_const (pc := 1999) (i := .iconst 1) (v := gm_vi 1) (by decide +kernel) (by decide +kernel)) ?_
      exact gm_r_int (pc := 2000) (by decide +kernel) (Or.inr ⟨by decide +kernel, Or.inr rfl⟩) (hQ _ _ _ _)
    · rw [gm_cm_w ⟨by omega, by omega⟩ ⟨by omega, by omega⟩] at hp
      have hp : ¬ (LX : Int) - 6 < i := hp
      have hi : 0 ≤ i ∧ i + 6 ≤ (LX : Int) := ⟨h0, by omega⟩
      have w : gm_w i = i := gm_w_id (by omega) (by omega)
      have rest : mn_R X LX bc bs i g Q := by
        intro g' la' K2 R2 M2 L2 hb2 hg2 hM2 hL2
        refine gm_sz (gm_p_iinc (pc := 1993) (j := 4) (z := 6) (by decide +kernel) hL2.2.2.2.2.2) ?_
        refine gm_sz (gm_p_goto (pc := 1996) (off := (-1973)) (by decide +kernel) (by decide)) ?_
        exact ih (i + 6) g' _ _ la' K2 R2 M2 _ (by omega) (by omega) (by omega) (by omega) (by omega) (by omega) hb2 hM2 (mn_L_i hL2)
      have hg9 : g < 9990 := by omega
      have hb12 : 12 ≤ bc := by omega
      have hs12 : 1200 ≤ bs := by omega
      refine gm_sz (gm_p_load (pc := 33) (i := .aload_n 0) (sr := 2) (j := 0) (by decide +kernel) rfl hL.2.1 rfl) ?_
      refine gm_sz (gm_p_load (pc := 34) (i := .iload 4) (sr := 0) (j := 4) (by decide +kernel) rfl hL.2.2.2.2.2 rfl) ?_
      refine gm_sz (gm_p_sald (pc := 36) (by decide +kernel) (by rw [w]; omega)) ?_
      refine gm_sz (gm_p_const (pc := 37) (i := .bipush 63) (v := gm_vi 63) (by decide +kernel) (by decide +kernel)) ?_
      refine gm_sz (gm_p_bin (pc := 39) (i := .iand) (by decide +kernel) rfl) ?_
      refine gm_b_sw (pc := 40) (df := 1953) (lo := 0) (hi := 46) (offs := #[204, 277, 302, 318, 334, 347, 375, 415, 467, 507, 547, 587, 655, 695, 735, 763, 791, 855, 895, 935, 975, 1003, 1016, 1057, 1085, 1137, 1201, 1241, 1293, 1306, 1322, 1390, 1442, 1482, 1538, 1594, 1634, 1662, 1687, 1743, 1783, 1823, 1851, 1891, 1904, 1915, 1928]) (by decide +kernel) (by decide) (by decide) (fun _ => ?_) ?_
      · exact gm_Wp_wk (Nat.le_refl _) (Nat.sub_le _ _) (Nat.sub_le _ _) (rest g la K R M L hb (by omega) hM hL)
      · refine ⟨fun _ => ?_, fun _ => ?_, fun _ => ?_, fun _ => ?_, fun _ => ?_, fun _ => ?_, fun _ => ?_, fun _ => ?_, fun _ => ?_, fun _ => ?_, fun _ => ?_, fun _ => ?_, fun _ => ?_, fun _ => ?_, fun _ => ?_, fun _ => ?_, fun _ => ?_, fun _ => ?_, fun _ => ?_, fun _ => ?_, fun _ => ?_, fun _ => ?_, fun _ => ?_, fun _ => ?_, fun _ => ?_, fun _ => ?_, fun _ => ?_, fun _ => ?_, fun _ => ?_, fun _ => ?_, fun _ => ?_, fun _ => ?_, fun _ => ?_, fun _ => ?_, fun _ => ?_, fun _ => ?_, fun _ => ?_, fun _ => ?_, fun _ => ?_, fun _ => ?_, fun _ => ?_, fun _ => ?_, fun _ => ?_, fun _ => ?_, fun _ => ?_, fun _ => ?_, fun _ => ?_, trivial⟩
        · exact mc_0 hb hg9 hM hL hi hLX hX hb12 hs12 rest
        · exact mc_1 hb hg9 hM hL hi hLX hX hb12 hs12 rest
        · exact mc_2 hb hg9 hM hL hi hLX hX hb12 hs12 rest
        · exact mc_3 hb hg9 hM hL hi hLX hX hb12 hs12 rest
        · exact mc_4 hb hg9 hM hL hi hLX hX hb12 hs12 rest
        · exact mc_5 hb hg9 hM hL hi hLX hX hb12 hs12 rest
        · exact mc_6 hb hg9 hM hL hi hLX hX hb12 hs12 rest
        · exact mc_7 hb hg9 hM hL hi hLX hX hb12 hs12 rest
        · exact mc_8 hb hg9 hM hL hi hLX hX hb12 hs12 rest
        · exact mc_9 hb hg9 hM hL hi hLX hX hb12 hs12 rest
        · exact mc_10 hb hg9 hM hL hi hLX hX hb12 hs12 rest
        · exact mc_11 hb hg9 hM hL hi hLX hX hb12 hs12 rest
        · exact mc_12 hb hg9 hM hL hi hLX hX hb12 hs12 rest
        · exact mc_13 hb hg9 hM hL hi hLX hX hb12 hs12 rest
        · exact mc_14 hb hg9 hM hL hi hLX hX hb12 hs12 rest
        · exact mc_15 hb hg9 hM hL hi hLX hX hb12 hs12 rest
        · exact mc_16 hb hg9 hM hL hi hLX hX hb12 hs12 rest
        · exact mc_17 hb hg9 hM hL hi hLX hX hb12 hs12 rest
        · exact mc_18 hb hg9 hM hL hi hLX hX hb12 hs12 rest
        · exact mc_19 hb hg9 hM hL hi hLX hX hb12 hs12 rest
        · exact mc_20 hb hg9 hM hL hi hLX hX hb12 hs12 rest
        · exact mc_21 hb hg9 hM hL hi hLX hX hb12 hs12 rest
        · exact mc_22 hb hg9 hM hL hi hLX hX hb12 hs12 rest
        · exact mc_23 hb hg9 hM hL hi hLX hX hb12 hs12 rest
        · exact mc_24 hb hg9 hM hL hi hLX hX hb12 hs12 rest
        · exact mc_25 hb hg9 hM hL hi hLX hX hb12 hs12 rest
        · exact mc_26 hb hg9 hM hL hi hLX hX hb12 hs12 rest
        · exact mc_27 hb hg9 hM hL hi hLX hX hb12 hs12 rest
        · exact mc_28 hb hg9 hM hL hi hLX hX hb12 hs12 rest
        · exact mc_29 hb hg9 hM hL hi hLX hX hb12 hs12 rest
        · exact mc_30 hb hg9 hM hL hi hLX hX hb12 hs12 rest
        · exact mc_31 hb hg9 hM hL hi hLX hX hb12 hs12 rest
        · exact mc_32 hb hg9 hM hL hi hLX hX hb12 hs12 rest
        · exact mc_33 hb hg9 hM hL hi hLX hX hb12 hs12 rest
        · exact mc_34 hb hg9 hM hL hi hLX hX hb12 hs12 rest
        · exact mc_35 hb hg9 hM hL hi hLX hX hb12 hs12 rest
        · exact mc_36 hb hg9 hM hL hi hLX hX hb12 hs12 rest
        · exact mc_37 hb hg9 hM hL hi hLX hX hb12 hs12 rest
        · exact mc_38 hb hg9 hM hL hi hLX hX hb12 hs12 rest
        · exact mc_39 hb hg9 hM hL hi hLX hX hb12 hs12 rest
        · exact mc_40 hb hg9 hM hL hi hLX hX hb12 hs12 rest
        · exact mc_41 hb hg9 hM hL hi hLX hX hb12 hs12 rest
        · exact mc_42 hb hg9 hM hL hi hLX hX hb12 hs12 rest
        · exact mc_43 hb hg9 hM hL hi hLX hX hb12 hs12 rest
        · exact mc_44 hb hg9 hM hL hi hLX hX hb12 hs12 rest
        · exact mc_45 hb hg9 hM hL hi hLX hX hb12 hs12 rest
        · exact mc_46 hb hg9 hM hL hi hLX hX hb12 hs12 rest
end LPF
