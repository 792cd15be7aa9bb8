/-! THE LAW'S LOOP (laid by wip/am/gen99f.py). -/
section LPF
variable {X : Int → Int} {LX g bc bs : Nat} {i : Int} {la : Nat → Nat} {K : gm_K} {R : gm_R} {M : gm_M} {Q : gm_Q} {L : gm_L}
/-- back: what it tells is whether there is an image -/
def mn_bk (kk : Nat) (jj : Int) (S : ck_Sum) : Bool := S.2.2.2.2.2.all fun oc => match oc.1 with
  | .inr (some (.inl I)) => decide (I.1 = I.2.1) && oc.2.2.2.2.any fun q => decide (q.1 = kk ∧ q.2.1 = jj ∧ q.2.2.1 = jj ∧ q.2.2.2.1 = I.1 ∧ q.2.2.2.2.1 = I.1)
  | _ => false
theorem mn_bkK {O : gm_Or} {S : ck_Sum} {z g1 kk ok pc : Nat} {jj oj : Int} {st : List gm_V} (hk : bc_keep S kk jj = true) (ho : bc_keep S ok oj = true) (hc : mn_bk kk jj S = true) (hkk : kk ≤ 245) (hok : ok ≤ 245) (hbc : 6 ≤ bc) (hbs : 600 ≤ bs) (h4 : S.1.2.1 ≤ 6) (h5 : S.1.2.2 ≤ 600) (k : ∀ (g' : Nat) (la' : Nat → Nat) (K2 : gm_K) (R2 : gm_R) (M2 : gm_M) (y : Int), bg g' la' K2 R2 M2 → g' ≤ g + 1 → M2 ok oj = M ok oj → M2 kk jj = M kk jj → gm_ir y → y = M kk jj → gm_Wp X LX 280 (bc - 6) (bs - 600) 369 pc L (gm_vi y :: st) (245 + 4 * g') K2 R2 M2 Q) : bc_K X LX 280 (bc - S.1.2.1) (bs - S.1.2.2) 369 pc L st Q O z g1 g la K M S := by
  intro oc hoc σ u n' K' R' M' hσ hu hf hF hfr g' la' K2 R2 M2 hb2 hg2 hM2
  have e1 : ∀ c j, c ≤ 245 → bs_M la M c j = M c j := fun c j hc => by unfold bs_M bg_rho; rw [if_pos (by omega)]
  have hk1 : M2 kk jj = M kk jj := by rw [hM2 kk jj hkk, bc_keep_s hk (by omega) hfr, e1 kk jj hkk]
  have hk2 : M2 ok oj = M ok oj := by rw [hM2 ok oj hok, bc_keep_s ho (by omega) hfr, e1 ok oj hok]
  have h9 := List.all_eq_true.mp hc oc hoc
  rcases hoc1 : oc.1 with x | a
  · rw [hoc1] at h9; cases h9
  · rw [hoc1] at h9 hu
    rcases a with _ | a
    · cases h9
    · rcases a with I | a
      · simp only [Bool.and_eq_true, decide_eq_true_eq] at h9
        obtain ⟨hI, h9⟩ := h9
        obtain ⟨q, hq, h10⟩ := List.any_eq_true.mp h9
        obtain ⟨q1, q2, q3, q4, q5⟩ := of_decide_eq_true h10
        have h11 := ((hf.2.2 q hq).2 jj (by omega) (by omega)).2
        rw [q1] at h11
        have h12 := h11.1
        have h13 := h11.2.1
        have h14 := hM2 kk jj hkk
        cases u with
        | none => exact absurd hu id
        | some v =>
          obtain ⟨y, rfl, hy, h6, h7, -⟩ := hu
          exact gm_Wp_wk (Nat.le_refl _) (by omega) (by omega) (k g' la' K2 R2 M2 y hb2 hg2 hk2 hk1 hy (by omega))
      · cases h9
theorem mc_45 (hb : bg g la K R M) (hg : g < 9990) (hM : M 1 6 = M 226 5) (hL : mn_L i L) (hi : 0 ≤ i ∧ i + 6 ≤ (LX : Int)) (hLX : LX ≤ 3072) (hX : ∀ j, gm_ir (X j)) (hbc : 12 ≤ bc) (hbs : 1200 ≤ bs) (rest : mn_R X LX bc bs i g Q) : gm_Wp X LX 280 bc bs 369 1927 L [] (245 + 4 * g) K R M Q := by
  have cont : ∀ (g1 : Nat) (la1 : Nat → Nat) (K1 : gm_K) (R1 : gm_R) (M1 : gm_M) (y : Int), bg g1 la1 K1 R1 M1 → g1 ≤ g + 1 → M1 226 5 = M 226 5 → M1 1 6 = M 1 6 → gm_ir y → y = M 1 6 → gm_Wp X LX 280 (bc - 6) (bs - 600) 369 1931 L [gm_vi y] (245 + 4 * g1) K1 R1 M1 Q := by
    intro g1 la1 K1 R1 M1 y hb1 hg1 h8 h9 hy hf
    refine gm_sz (gm_p_load (pc := 1931) (i := .aload_n 2) (sr := 2) (j := 2) (by decide +kernel) rfl hL.2.2.2.1 rfl) ?_
    refine bc_virt (O := p2_O) (z := 100003) (g1 := 0) (S := p2_s1762) (k1 := 226) (ci := 11) (mj := 237) (ix := 299) (pc := 1932) (xs := []) (st := [gm_vi y]) hb1 (Or.inr (Or.inl ⟨rfl, rfl⟩)) (by omega) p2_nmu (fun _ _ _ _ h => h) (bs_F0 hb1) ⟨by decide, by decide⟩ (md_mo hb1.2.1).2 (by decide +kernel) (by decide +kernel) (by decide +kernel) (by decide) (by decide +kernel) (show 0 = gm_na 237 by decide +kernel) (show 0 + 1 ≤ gm_ml 237 by decide +kernel) (Nat.le_of_ble_eq_true rfl) p2_s1762_s (by decide +kernel) (by decide +kernel) (Nat.zero_le _) (Nat.zero_le _) (fun σ => by have := bc_gas2 (σ := σ) (S := p2_s1762) (k1 := 226) (t := false) (xs := []) (by decide +kernel) bc_in0 (fun _ h => nomatch h); rwa [show bc_as [] false = ([] : List Int).map gm_vi by simp [bc_as]] at this) (mn_bkK (kk := 226) (jj := 5) (ok := 1) (oj := 6) (by decide +kernel) (by decide +kernel) (by decide +kernel) (by decide) (by decide) (by omega) (by omega) (by decide +kernel) (by decide +kernel) ?_)
    intro g2 la2 K2 R2 M2 y2 hb2 hg2 h1 h2 hy2 hf2
    show gm_Wp X LX 280 _ _ 369 1935 L [gm_vi y2, gm_vi y] (245 + 4 * g2) K2 R2 M2 Q
    refine gm_b_ic (cc := .eq) (pc := 1935) (off := 30) (by decide +kernel) (by decide) (fun hp => ?_) (fun hp => ?_)
    · exact gm_Wp_wk (Nat.le_refl _) (by omega) (by omega) (rest g2 la2 K2 R2 M2 L hb2 (by omega) (by omega) hL)
    · rw [gm_cm_w hy hy2] at hp
      have hp : ¬ y = y2 := hp
      omega
  refine gm_sz (gm_p_load (pc := 1927) (i := .aload_n 1) (sr := 2) (j := 1) (by decide +kernel) rfl hL.2.2.1 rfl) ?_
  by_cases h3 : la 3 = 0
  · refine bc_virt (O := p2_O) (z := 0) (g1 := 0) (S := p2_s1761) (k1 := 1) (ci := 0) (mj := 60) (ix := 296) (pc := 1928) (xs := []) (st := []) hb (Or.inl ⟨rfl, rfl, h3⟩) (by omega) p2_nmu (fun _ _ _ _ h => h) (bs_F0 hb) ⟨by decide, by decide⟩ (lq_kd (c := 0) hb.2.1 lq_or.1.1).2 (by decide +kernel) (by decide +kernel) (by decide +kernel) (by decide) (by decide +kernel) (show 0 = gm_na 60 by decide +kernel) (show 0 + 1 ≤ gm_ml 60 by decide +kernel) (Nat.le_of_ble_eq_true rfl) p2_s1761_s (by decide +kernel) (by decide +kernel) (Nat.zero_le _) (Nat.zero_le _) (fun σ => by have := bc_gas2 (σ := σ) (S := p2_s1761) (k1 := 1) (t := false) (xs := []) (by decide +kernel) bc_in0 (fun _ h => nomatch h); rwa [show bc_as [] false = ([] : List Int).map gm_vi by simp [bc_as]] at this) (mn_bkK (kk := 1) (jj := 6) (ok := 226) (oj := 5) (by decide +kernel) (by decide +kernel) (by decide +kernel) (by decide) (by decide) (by omega) (by omega) (by decide +kernel) (by decide +kernel) ?_)
    exact cont
  · refine bc_virt (O := p2_OL) (z := 246) (g1 := 1) (S := pl_s977) (k1 := 1) (ci := 0) (mj := 60) (ix := 296) (pc := 1928) (xs := []) (st := []) hb (Or.inr (Or.inr ⟨rfl, rfl, h3⟩)) (by omega) pl_nmu (fun _ _ _ _ h => pl_o h) (bs_F1 hb h3) ⟨by decide, by decide⟩ (lq_kd (c := 0) hb.2.1 lq_or.1.1).2 (by decide +kernel) (by decide +kernel) (by decide +kernel) (by decide) (by decide +kernel) (show 0 = gm_na 60 by decide +kernel) (show 0 + 1 ≤ gm_ml 60 by decide +kernel) (Nat.le_of_ble_eq_true rfl) pl_s977_s (by decide +kernel) (by decide +kernel) (Nat.zero_le _) (Nat.zero_le _) (fun σ => by have := bc_gas2 (σ := σ) (S := pl_s977) (k1 := 1) (t := false) (xs := []) (by decide +kernel) bc_in0 (fun _ h => nomatch h); rwa [show bc_as [] false = ([] : List Int).map gm_vi by simp [bc_as]] at this) (mn_bkK (kk := 1) (jj := 6) (ok := 226) (oj := 5) (by decide +kernel) (by decide +kernel) (by decide +kernel) (by decide) (by decide) (by omega) (by omega) (by decide +kernel) (by decide +kernel) ?_)
    exact cont
theorem mn_L_i {z : Int} (h : mn_L i L) : mn_L z (gm_lst L 4 (gm_vi z)) := by
  obtain ⟨h0, h1, h2, h3, h4, h5⟩ := h
  show mn_L z ((gm_lc L 4).set 4 (some (gm_vi z)))
  have e3 : (gm_lc L 4)[3]? = some (some (gm_vr 245)) := by
    show (match L[3]? with
      | some (some (.inr (.inl _))) => L.set 3 none
      | _ => L)[3]? = _
    rw [h4]
    exact h4
  have e : ∀ k, k < 3 → ((gm_lc L 4).set 4 (some (gm_vi z)))[k]? = L[k]? := fun k hk => by
    rw [List.getElem?_set, if_neg (by omega), gm_lc_ne (by omega)]
  refine ⟨by rw [List.length_set, gm_lc_len]; exact h0, (e 0 (by decide)).trans h1, (e 1 (by decide)).trans h2, (e 2 (by decide)).trans h3, ?_, ?_⟩
  · rw [List.getElem?_set, if_neg (by decide)]
    exact e3
  · rw [List.getElem?_set, if_pos rfl, if_pos (by rw [gm_lc_len]; omega)]
/-- from the head of the loop on -/
theorem mn_lp (hLX : LX ≤ 3072) (hX : ∀ j, gm_ir (X j)) (hQ : ∀ n K R M, Q (.inl (some (gm_vi 1))) n K R M) : ∀ (t : Nat) (i : Int) (g bc bs : Nat) (la : Nat → Nat) (K : gm_K) (R : gm_R) (M : gm_M) (L : gm_L), (LX : Int) - i ≤ 6 * (t : Int) + 5 → 0 ≤ i → i ≤ (LX : Int) + 6 → g + 2 * t ≤ 9000 → 12 * t ≤ bc → 1200 * t ≤ bs → bg g la K R M → M 1 6 = M 226 5 → mn_L i L → gm_Wp X LX 280 bc bs 369 23 L [] (245 + 4 * g) K R M Q := by
  intro t
  induction t with
  | zero =>
    intro i g bc bs la K R M L ht h0 h6 hg hbc hbs hb hM hL
    refine gm_sz (gm_p_load (pc := 23) (i := .iload 4) (sr := 0) (j := 4) (by decide +kernel) rfl hL.2.2.2.2.2 rfl) ?_
    refine gm_sz (gm_p_load (pc := 25) (i := .aload_n 0) (sr := 2) (j := 0) (by decide +kernel) rfl hL.2.1 rfl) ?_
    refine gm_sz (gm_p_slen (pc := 26) (by decide +kernel)) ?_
    refine gm_sz (gm_p_const (pc := 27) (i := .bipush 6) (v := gm_vi 6) (by decide +kernel) (by decide +kernel)) ?_
    refine gm_sz (gm_p_bin (pc := 29) (i := .isub) (f := fun x y => x - y) (by decide +kernel) rfl) ?_
    refine gm_b_ic (cc := .gt) (pc := 30) (off := 1941) (by decide +kernel) (by decide) (fun _ => ?_) (fun hp => ?_)
    · refine gm_sz (gm_p_const (pc := 1971) (i := .iconst 1) (v := gm_vi 1) (by decide +kernel) (by decide +kernel)) ?_
      exact gm_r_int (pc := 1972) (by decide +kernel) (Or.inr ⟨by decide +kernel, Or.inr rfl⟩) (hQ _ _ _ _)
    · rw [gm_cm_w ⟨by omega, by omega⟩ ⟨by omega, by omega⟩] at hp
      have hp : ¬ (LX : Int) - 6 < i := hp
      omega
  | succ t ih =>
    intro i g bc bs la K R M L ht h0 h6 hg hbc hbs hb hM hL
    refine gm_sz (gm_p_load (pc := 23) (i := .iload 4) (sr := 0) (j := 4) (by decide +kernel) rfl hL.2.2.2.2.2 rfl) ?_
    refine gm_sz (gm_p_load (pc := 25) (i := .aload_n 0) (sr := 2) (j := 0) (by decide +kernel) rfl hL.2.1 rfl) ?_
    refine gm_sz (gm_p_slen (pc := 26) (by decide +kernel)) ?_
    refine gm_sz (gm_p_const (pc := 27) (i := .bipush 6) (v := gm_vi 6) (by decide +kernel) (by decide +kernel)) ?_
    refine gm_sz (gm_p_bin (pc := 29) (i := .isub) (f := fun x y => x - y) (by decide +kernel) rfl) ?_
    refine gm_b_ic (cc := .gt) (pc := 30) (off := 1941) (by decide +kernel) (by decide) (fun _ => ?_) (fun hp => ?_)
    · refine gm_sz (gm_p_const (pc := 1971) (i := .iconst 1) (v := gm_vi 1) (by decide +kernel) (by decide +kernel)) ?_
      exact gm_r_int (pc := 1972) (by decide +kernel) (Or.inr ⟨by decide +kernel, Or.inr rfl⟩) (hQ _ _ _ _)
    · rw [gm_cm_w ⟨by omega, by omega⟩ ⟨by omega, by omega⟩] at hp
      have hp : ¬ (LX : Int) - 6 < i := hp
      have hi : 0 ≤ i ∧ i + 6 ≤ (LX : Int) := ⟨h0, by omega⟩
      have w : gm_w i = i := gm_w_id (by omega) (by omega)
      have rest : mn_R X LX bc bs i g Q := by
        intro g' la' K2 R2 M2 L2 hb2 hg2 hM2 hL2
        refine gm_sz (gm_p_iinc (pc := 1965) (j := 4) (z := 6) (by decide +kernel) hL2.2.2.2.2.2) ?_
        refine gm_sz (gm_p_goto (pc := 1968) (off := (-1945)) (by decide +kernel) (by decide)) ?_
        exact ih (i + 6) g' _ _ la' K2 R2 M2 _ (by omega) (by omega) (by omega) (by omega) (by omega) (by omega) hb2 hM2 (mn_L_i hL2)
      have hg9 : g < 9990 := by omega
      have hb12 : 12 ≤ bc := by omega
      have hs12 : 1200 ≤ bs := by omega
      refine gm_sz (gm_p_load (pc := 33) (i := .aload_n 0) (sr := 2) (j := 0) (by decide +kernel) rfl hL.2.1 rfl) ?_
      refine gm_sz (gm_p_load (pc := 34) (i := .iload 4) (sr := 0) (j := 4) (by decide +kernel) rfl hL.2.2.2.2.2 rfl) ?_
      refine gm_sz (gm_p_sald (pc := 36) (by decide +kernel) (by rw [w]; omega)) ?_
      refine gm_sz (gm_p_const (pc := 37) (i := .bipush 63) (v := gm_vi 63) (by decide +kernel) (by decide +kernel)) ?_
      refine gm_sz (gm_p_bin (pc := 39) (i := .iand) (by decide +kernel) rfl) ?_
      refine gm_b_sw (pc := 40) (df := 1925) (lo := 0) (hi := 46) (offs := #[204, 277, 302, 318, 334, 347, 375, 415, 467, 507, 547, 587, 627, 667, 707, 735, 763, 827, 867, 907, 947, 975, 988, 1029, 1057, 1109, 1173, 1213, 1265, 1278, 1294, 1362, 1414, 1454, 1510, 1566, 1606, 1634, 1659, 1715, 1755, 1795, 1823, 1863, 1876, 1887, 1900]) (by decide +kernel) (by decide) (by decide) (fun _ => ?_) ?_
      · exact gm_Wp_wk (Nat.le_refl _) (Nat.sub_le _ _) (Nat.sub_le _ _) (rest g la K R M L hb (by omega) hM hL)
      · refine ⟨fun _ => ?_, fun _ => ?_, fun _ => ?_, fun _ => ?_, fun _ => ?_, fun _ => ?_, fun _ => ?_, fun _ => ?_, fun _ => ?_, fun _ => ?_, fun _ => ?_, fun _ => ?_, fun _ => ?_, fun _ => ?_, fun _ => ?_, fun _ => ?_, fun _ => ?_, fun _ => ?_, fun _ => ?_, fun _ => ?_, fun _ => ?_, fun _ => ?_, fun _ => ?_, fun _ => ?_, fun _ => ?_, fun _ => ?_, fun _ => ?_, fun _ => ?_, fun _ => ?_, fun _ => ?_, fun _ => ?_, fun _ => ?_, fun _ => ?_, fun _ => ?_, fun _ => ?_, fun _ => ?_, fun _ => ?_, fun _ => ?_, fun _ => ?_, fun _ => ?_, fun _ => ?_, fun _ => ?_, fun _ => ?_, fun _ => ?_, fun _ => ?_, fun _ => ?_, fun _ => ?_, trivial⟩
        · exact mc_0 hb hg9 hM hL hi hLX hX hb12 hs12 rest
        · exact mc_1 hb hg9 hM hL hi hLX hX hb12 hs12 rest
        · exact mc_2 hb hg9 hM hL hi hLX hX hb12 hs12 rest
        · exact mc_3 hb hg9 hM hL hb12 hs12 rest
        · exact mc_4 hb hg9 hM hL hi hLX hX hb12 hs12 rest
        · exact mc_5 hb hg9 hM hL hi hLX hX hb12 hs12 rest
        · exact mc_6 hb hg9 hM hL hi hLX hX hb12 hs12 rest
        · exact mc_7 hb hg9 hM hL hi hLX hX hb12 hs12 rest
        · exact mc_8 hb hg9 hM hL hi hLX hX hb12 hs12 rest
        · exact mc_9 hb hg9 hM hL hi hLX hX hb12 hs12 rest
        · exact mc_10 hb hg9 hM hL hi hLX hX hb12 hs12 rest
        · exact mc_11 hb hg9 hM hL hi hLX hX hb12 hs12 rest
        · exact mc_12 hb hg9 hM hL hi hLX hX hb12 hs12 rest
        · exact mc_13 hb hg9 hM hL hi hLX hX hb12 hs12 rest
        · exact mc_14 hb hg9 hM hL hi hLX hX hb12 hs12 rest
        · exact mc_15 hb hg9 hM hL hi hLX hX hb12 hs12 rest
        · exact mc_16 hb hg9 hM hL hi hLX hX hb12 hs12 rest
        · exact mc_17 hb hg9 hM hL hi hLX hX hb12 hs12 rest
        · exact mc_18 hb hg9 hM hL hi hLX hX hb12 hs12 rest
        · exact mc_19 hb hg9 hM hL hi hLX hX hb12 hs12 rest
        · exact mc_20 hb hg9 hM hL hi hLX hX hb12 hs12 rest
        · exact mc_21 hb hg9 hM hL hi hLX hX hb12 hs12 rest
        · exact mc_22 hb hg9 hM hL hi hLX hX hb12 hs12 rest
        · exact mc_23 hb hg9 hM hL hi hLX hX hb12 hs12 rest
        · exact mc_24 hb hg9 hM hL hi hLX hX hb12 hs12 rest
        · exact mc_25 hb hg9 hM hL hi hLX hX hb12 hs12 rest
        · exact mc_26 hb hg9 hM hL hi hLX hX hb12 hs12 rest
        · exact mc_27 hb hg9 hM hL hi hLX hX hb12 hs12 rest
        · exact mc_28 hb hg9 hM hL hi hLX hX hb12 hs12 rest
        · exact mc_29 hb hg9 hM hL hi hLX hX hb12 hs12 rest
        · exact mc_30 hb hg9 hM hL hi hLX hX hb12 hs12 rest
        · exact mc_31 hb hg9 hM hL hi hLX hX hb12 hs12 rest
        · exact mc_32 hb hg9 hM hL hi hLX hX hb12 hs12 rest
        · exact mc_33 hb hg9 hM hL hi hLX hX hb12 hs12 rest
        · exact mc_34 hb hg9 hM hL hi hLX hX hb12 hs12 rest
        · exact mc_35 hb hg9 hM hL hi hLX hX hb12 hs12 rest
        · exact mc_36 hb hg9 hM hL hi hLX hX hb12 hs12 rest
        · exact mc_37 hb hg9 hM hL hi hLX hX hb12 hs12 rest
        · exact mc_38 hb hg9 hM hL hi hLX hX hb12 hs12 rest
        · exact mc_39 hb hg9 hM hL hi hLX hX hb12 hs12 rest
        · exact mc_40 hb hg9 hM hL hi hLX hX hb12 hs12 rest
        · exact mc_41 hb hg9 hM hL hi hLX hX hb12 hs12 rest
        · exact mc_42 hb hg9 hM hL hi hLX hX hb12 hs12 rest
        · exact mc_43 hb hg9 hM hL hi hLX hX hb12 hs12 rest
        · exact mc_44 hb hg9 hM hL hi hLX hX hb12 hs12 rest
        · exact mc_45 hb hg9 hM hL hi hLX hX hb12 hs12 rest
        · exact mc_46 hb hg9 hM hL hi hLX hX hb12 hs12 rest
end LPF
