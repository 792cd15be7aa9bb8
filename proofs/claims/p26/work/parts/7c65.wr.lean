/-! WRITERS, WROTE: what they answer. -/
/-- the latest YEAR when it may have been written -/
noncomputable def WROA (N h : Int → Int) (φ : Int → Int → Int → Int) (p lane y x v : Int) : Prop := (v = -1 ∧ (¬ (N (95 + (p * 3 + 0))) = lane ∨ ∀ q : Int, 0 ≤ q → q < y → ¬ (fro N h φ lane ((N (95 + (p * 3 + 1)))) q = y ∧ (nwy N h φ lane 0 (-1) q ((N (95 + (p * 3 + 1)))) (y - q).toNat).2 = x))) ∨ ((N (95 + (p * 3 + 0))) = lane ∧ (0 ≤ v ∧ v < y) ∧ (fro N h φ lane ((N (95 + (p * 3 + 1)))) v = y ∧ (nwy N h φ lane 0 (-1) v ((N (95 + (p * 3 + 1)))) (y - v).toNat).2 = x) ∧ ∀ q : Int, v < q → q < y → ¬ (fro N h φ lane ((N (95 + (p * 3 + 1)))) q = y ∧ (nwy N h φ lane 0 (-1) q ((N (95 + (p * 3 + 1)))) (y - q).toNat).2 = x))
theorem WROA_u {N h : Int → Int} {φ : Int → Int → Int → Int} {p lane y x v v2 : Int} (a : WROA N h φ p lane y x v) (b : WROA N h φ p lane y x v2) : v = v2 := by
  rcases a with ⟨a1, a2⟩ | ⟨a0, a1, a2, a3⟩
  · rcases b with ⟨b1, b2⟩ | ⟨b0, b1, b2, b3⟩
    · omega
    · rcases a2 with a2 | a2
      · exact absurd b0 a2
      · exact absurd b2 (a2 v2 b1.1 b1.2)
  · rcases b with ⟨b1, b2⟩ | ⟨b0, b1, b2, b3⟩
    · rcases b2 with b2 | b2
      · exact absurd a0 b2
      · exact absurd a2 (b2 v a1.1 a1.2)
    · rcases Int.lt_trichotomy v v2 with h | h | h
      · exact absurd b2 (a3 v2 h b1.2)
      · exact h
      · exact absurd a2 (b3 v h a1.2)
noncomputable def wrv (N h : Int → Int) (φ : Int → Int → Int → Int) (p lane y x : Int) : Int := @dite Int (∃ v, WROA N h φ p lane y x v) (Classical.propDecidable _) (fun h9 => Classical.choose h9) (fun _ => 0)
theorem wrv_s {N h : Int → Int} {φ : Int → Int → Int → Int} {p lane y x v : Int} (h9 : WROA N h φ p lane y x v) : wrv N h φ p lane y x = v := by
  unfold wrv
  rw [dif_pos ⟨v, h9⟩]
  exact WROA_u (Classical.choose_spec (⟨v, h9⟩ : ∃ v, WROA N h φ p lane y x v)) h9
theorem WROA_b {N h : Int → Int} {φ : Int → Int → Int → Int} {p lane y x v : Int} (h9 : WROA N h φ p lane y x v) (h0 : y ≤ 299) : -1 ≤ v ∧ v ≤ 299 := by
  rcases h9 with ⟨a1, -⟩ | ⟨-, a1, -⟩ <;> exact ⟨by omega, by omega⟩
section WR65
variable {X : Int → Int} {LX d bc bs n : Nat} {K : gm_K} {R : gm_R} {M : gm_M} {Q : gm_Q} {N h : Int → Int} {sp : Int → Int → Int} {FI : gm_M → Prop} {φ : Int → Int → Int → Int} {l lane row year y p w x k c v a b t : Int}
theorem fo_30d (hd : 15 ≤ d) (hE : E0 n K R) (hT : TI N h sp M) (hN : NR N) (hfw : FLW X LX n K R N h sp FI φ) (hI : FI M) (g2 : M 206 2 = lane) (g3 : M 206 3 = 0) (g4 : M 206 4 = -1) (g5 : M 206 5 = row) (g6 : M 206 6 = 0) (g7 : M 206 7 = y) (y9 : 0 ≤ y ∧ y ≤ 299) (b2 : 0 ≤ lane ∧ lane < N 0) (b5 : 0 ≤ row ∧ row ≤ 300) (hl : -1 ≤ x ∧ x ≤ 299) (hq1 : ¬ fro N h φ lane row y = -1 → fro N h φ lane row y ≤ x → ∀ M2, fr [(206, some 5), (206, some 6), (206, some 7), (206, some 8), (200, some 6), (204, none), (205, none)] M M2 → FI M2 → M2 206 6 = (nwy N h φ lane 0 (-1) y row (fro N h φ lane row y - y).toNat).2 → Q (.inl (some (gm_vi (fro N h φ lane row y)))) n K R M2) (hq0 : (fro N h φ lane row y = -1 ∨ x < fro N h φ lane row y) → ∀ M2, fr [(206, some 5), (206, some 6), (206, some 7), (206, some 8), (200, some 6), (204, none), (205, none)] M M2 → FI M2 → Q (.inl (some (gm_vi (-1)))) n K R M2) : gm_Wp X LX d bc bs 30 0 (gm_ent 30 [gm_vr 206, gm_vi x]) [] n K R M Q := by
  have fb := fro_b (N := N) (h := h) (φ := φ) (lane := lane) (row := row) y9.1
  refine wy_c30_206 (lane := lane) (rock := 0) (wo := -1) (r0 := row) (y0 := y) (lim := x) hd hE hT hN hfw hI g2 g3 g4 g5 g6 g7 y9.1 b2 ⟨by decide, by decide⟩ ⟨by decide, by decide⟩ b5 y9.2 hl.2 hl.1 (fun j M2 hf hI2 g1 g8 g9 g10 g11 => ?_) (fun M2 hf hI2 g1 => ?_)
  · have e : y + (j : Int) = fro N h φ lane row y := FRO_u (Or.inr ⟨j, by omega, rfl, g8, g9⟩) fro_s
    have ej : j = (fro N h φ lane row y - y).toNat := by omega
    rw [e]
    exact hq1 (by omega) (by omega) M2 hf hI2 (by rw [← ej]; exact g11)
  · refine hq0 ?_ M2 hf hI2
    rcases fro_s (N := N) (h := h) (φ := φ) (lane := lane) (row := row) (y := y) with ⟨a, b⟩ | ⟨j, a, b, c, e⟩
    · exact Or.inl a
    · refine Or.inr ?_
      by_cases hj : y + (j : Int) ≤ x
      · have := g1 j hj
        omega
      · omega
theorem ou_325d (hd : 16 ≤ d) (hE : E0 n K R) (hT : TR N h M) (hN : NR N) (hfw : FLR X LX n K R N h FI φ) (hI : FI M) (y9 : 0 ≤ y ∧ y ≤ 299) (b2 : 0 ≤ lane ∧ lane < N 0) (b5 : 0 ≤ row ∧ row ≤ 300) (hq : ∀ M2, fr [(226, some 29), (226, some 30), (226, some 26), (226, some 17), (226, some 18), (226, some 19), (226, some 20), (226, some 21), (226, some 22), (226, some 23), (235, none), (233, none), (236, none), (237, none)] M M2 → FI M2 → (∀ q, y ≤ q → q < 300 → M2 237 q = (nwy N h φ lane 0 (-1) y row (q - y).toNat).2) → Q (.inl (some (gm_vi (fro N h φ lane row y)))) n K R M2) : gm_Wp X LX d bc bs 325 0 (gm_ent 325 [gm_vr 226, gm_vi lane, gm_vi row, gm_vi y]) [] n K R M Q := by
  obtain ⟨⟨⟨a0, b0⟩, ⟨a1, b1⟩, ⟨a10, b10⟩, ⟨a11, b11⟩, ⟨a12, b12⟩, a9, b9⟩, ⟨⟨a2, b2⟩, ⟨a5, b5⟩, ⟨a3, b3⟩, ⟨a4, b4⟩, ⟨a6, b6⟩, ⟨a14, b14⟩, ⟨a7, b7⟩, a13, b13⟩, rF, rP, rL⟩ := id hN
  have rk9 : 0 ≤ (0 : Int) ∧ (0 : Int) ≤ 1 := ⟨by decide, by decide⟩
  have hwo9 : gm_ir (-1) := ⟨by decide, by decide⟩
  refine gm_sz (gm_p_load (pc := 0) (i := .aload_n 0) (sr := 2) (j := 0) (by decide +kernel) rfl rfl rfl) ?_
  refine gm_sz (gm_p_load (pc := 1) (i := .iload_n 1) (sr := 0) (j := 1) (by decide +kernel) rfl rfl rfl) ?_
  refine gm_sz (gm_p_load (pc := 2) (i := .iload_n 2) (sr := 0) (j := 2) (by decide +kernel) rfl rfl rfl) ?_
  refine gm_sz (gm_p_load (pc := 3) (i := .iload_n 3) (sr := 0) (j := 3) (by decide +kernel) rfl rfl rfl) ?_
  refine gm_sz (gm_p_const (pc := 4) (i := .iconst 0) (v := gm_vi 0) (by decide +kernel) (by decide +kernel)) ?_
  refine gm_sz (gm_p_const (pc := 5) (i := .iconst (-1)) (v := gm_vi (-1)) (by decide +kernel) (by decide +kernel)) ?_
  refine gm_c_virt (k := 226) (ci := 11) (mj := 306) (ix := 377) (pc := 6) (as := [gm_vi lane, gm_vi row, gm_vi y, gm_vi 0, gm_vi (-1)]) (st := []) (d' := d - 1) (bc' := 0) (bs' := 0) (by decide +kernel) (by decide +kernel) (by decide +kernel) (by decide +kernel) (e0k hE (k := 226) (c := 11) (by decide +kernel)).1 (e0k hE (k := 226) (c := 11) (by decide +kernel)).2 (by decide) (by decide +kernel) (show 5 = gm_na 306 by decide +kernel) (fw_c5 fw_si fw_si fw_si fw_si fw_si) (show 6 ≤ gm_ml 306 by decide +kernel) (Nat.le_of_ble_eq_true rfl) (by omega) (Nat.zero_le _) (Nat.zero_le _) ?_
  refine re_c306 (lane := lane) (r0 := row) (y0 := y) (rk := 0) (wo := (-1)) (by omega) hE hT hN hfw ⟨by omega, by omega⟩ rk9 hwo9 ⟨by omega, by omega⟩ ⟨by omega, by omega⟩ hI (fun M6 hf6 hI6 hr6 => ?_)
  show gm_Wp X LX d _ _ 325 9 _ [] n K _ _ Q
  have hr6 : rrun N h φ lane 0 (-1) y row M6 := hr6
  refine gm_sz (gm_p_load (pc := 9) (i := .aload_n 0) (sr := 2) (j := 0) (by decide +kernel) rfl rfl rfl) ?_
  refine gm_sz (fw_gi (pc := 10) (ix := 368) (ci := 11) (j := 29) (x := M6 226 29) (by decide +kernel) (e0k hE (k := 226) (c := 11) (by decide +kernel)) (by decide +kernel) (by decide +kernel) rfl) ?_
  have hd9 : ∀ q, y ≤ q → q < 300 → M6 237 q = (nwy N h φ lane 0 (-1) y row (q - y).toNat).2 := fun q q0 q1 => by
    have h9 := (hr6.2.1 (q - y).toNat (by omega)).2
    rw [show y + ((q - y).toNat : Int) = q by omega] at h9
    exact h9
  rw [rrun_f hr6]
  exact gm_r_int (pc := 13) (by decide +kernel) (Or.inl (by decide +kernel)) (hq _ (fr_t fr_0 hf6 (by decide)) hI6 hd9)
theorem wr_c (hd : 22 ≤ d) (hE : E0 n K R) (hT : TI N h sp M) (hN : NR N) (hfw : FLW X LX n K R N h sp FI φ) (hI : FI M) (hp : 0 ≤ p ∧ p < N 3) (hl : 0 ≤ lane ∧ lane < N 0) (hy : (0 ≤ y ∧ y ≤ 299) ∧ (0 ≤ x ∧ x ≤ 99)) (hpl : (N (95 + (p * 3 + 0))) = lane) (hq : ∀ v, WROA N h φ p lane y x v → ∀ M2, fr [(206, some 2), (206, some 3), (206, some 4), (206, some 5), (206, some 6), (206, some 7), (206, some 8), (200, some 6), (204, none), (205, none)] M M2 → FI M2 → Q (.inl (some (gm_vi v))) n K R M2) : ∀ (u : Nat) (k : Int) (M1 : gm_M), k = -1 + (u : Int) → k < y → (∀ q : Int, k < q → q < y → ¬ (fro N h φ lane ((N (95 + (p * 3 + 1)))) q = y ∧ (nwy N h φ lane 0 (-1) q ((N (95 + (p * 3 + 1)))) (y - q).toNat).2 = x)) → fr [(206, some 2), (206, some 3), (206, some 4), (206, some 5), (206, some 6), (206, some 7), (206, some 8), (200, some 6), (204, none), (205, none)] M M1 → FI M1 → gm_Wp X LX d bc bs 188 23 [some (gm_vr 1), some (gm_vi p), some (gm_vi lane), some (gm_vi y), some (gm_vi x), some (gm_vi k)] [] n K R M1 Q := by
  obtain ⟨⟨⟨a0, b0⟩, ⟨a1, b1⟩, ⟨a10, b10⟩, ⟨a11, b11⟩, ⟨a12, b12⟩, a9, b9⟩, ⟨⟨a2, b2⟩, ⟨a5, b5⟩, ⟨a3, b3⟩, ⟨a4, b4⟩, ⟨a6, b6⟩, ⟨a14, b14⟩, ⟨a7, b7⟩, a13, b13⟩, rF, rP, rL⟩ := id hN
  have rp := rP p hp.1 hp.2
  intro u
  induction u with
  | zero =>
    intro k M1 hk hk2 hp9 hf hI1
    refine gm_sz (gm_p_load (pc := 23) (i := .iload 5) (sr := 0) (j := 5) (by decide +kernel) rfl rfl rfl) ?_
    refine fw_ift (cc := .lt) (pc := 25) (off := 46) (by decide +kernel) (by decide) ⟨by omega, by omega⟩ (show k < 0 by omega) ?_
    refine gm_sz (gm_p_const (pc := 71) (i := .iconst (-1)) (v := gm_vi (-1)) (by decide +kernel) (by decide +kernel)) ?_
    exact gm_r_int (pc := 72) (by decide +kernel) (Or.inl (by decide +kernel)) (hq _ (Or.inl ⟨rfl, Or.inr (fun q q0 q1 => hp9 q (by omega) q1)⟩) _ (fr_t fr_0 hf (by decide)) hI1)
  | succ u ih =>
    intro k M1 hk hk2 hp9 hf hI1
    refine gm_sz (gm_p_load (pc := 23) (i := .iload 5) (sr := 0) (j := 5) (by decide +kernel) rfl rfl rfl) ?_
    refine fw_iff (cc := .lt) (pc := 25) (off := 46) (by decide +kernel) (by decide) ⟨by omega, by omega⟩ (show ¬ k < 0 by omega) ?_
    refine gm_sz (gm_p_load (pc := 28) (i := .aload_n 0) (sr := 2) (j := 0) (by decide +kernel) rfl rfl rfl) ?_
    refine gm_sz (fw_gr (pc := 29) (ix := 58) (ci := 0) (j := 9) (r := 206) (by decide +kernel) (e0k hE (k := 1) (c := 0) (by decide +kernel)) (by decide +kernel) (by decide +kernel) (e0r hE (k := 1) (j := 9) (r := 206) (by decide +kernel))) ?_
    refine gm_sz (gm_p_load (pc := 32) (i := .iload_n 1) (sr := 0) (j := 1) (by decide +kernel) rfl rfl rfl) ?_
    refine gm_sz (gm_p_load (pc := 33) (i := .iload 5) (sr := 0) (j := 5) (by decide +kernel) rfl rfl rfl) ?_
    refine gm_c_virt (k := 206) (ci := 5) (mj := 170) (ix := 298) (pc := 35) (as := [gm_vi p, gm_vi k]) (st := []) (d' := d - 1) (bc' := 0) (bs' := 0) (by decide +kernel) (by decide +kernel) (by decide +kernel) (by decide +kernel) (e0k hE (k := 206) (c := 5) (by decide +kernel)).1 (e0k hE (k := 206) (c := 5) (by decide +kernel)).2 (by decide) (by decide +kernel) (show 2 = gm_na 170 by decide +kernel) (fw_c2 fw_si fw_si) (show 3 ≤ gm_ml 170 by decide +kernel) (Nat.le_of_ble_eq_true rfl) (by omega) (Nat.zero_le _) (Nat.zero_le _) ?_
    refine sh_170 (p := p) (y := k) (by omega) hE (ti_fr (W := [(206, some 2), (206, some 3), (206, some 4), (206, some 5), (206, some 6), (206, some 7), (206, some 8), (200, some 6), (204, none), (205, none)]) hT (fr_t fr_0 hf (by decide)) (by decide) (by decide +kernel)) hN ⟨by omega, by omega⟩ (fun M170 e170 => ?_)
    show gm_Wp X LX d _ _ 188 38 _ [] n K _ _ Q
    subst e170
    refine gm_sz (gm_p_load (pc := 38) (i := .aload_n 0) (sr := 2) (j := 0) (by decide +kernel) rfl rfl rfl) ?_
    refine gm_sz (fw_gr (pc := 39) (ix := 58) (ci := 0) (j := 9) (r := 206) (by decide +kernel) (e0k hE (k := 1) (c := 0) (by decide +kernel)) (by decide +kernel) (by decide +kernel) (e0r hE (k := 1) (j := 9) (r := 206) (by decide +kernel))) ?_
    refine gm_sz (gm_p_load (pc := 42) (i := .iload_n 3) (sr := 0) (j := 3) (by decide +kernel) rfl rfl rfl) ?_
    refine gm_c_virt (k := 206) (ci := 5) (mj := 30) (ix := 295) (pc := 43) (as := [gm_vi y]) (st := []) (d' := d - 1) (bc' := 0) (bs' := 0) (by decide +kernel) (by decide +kernel) (by decide +kernel) (by decide +kernel) (e0k hE (k := 206) (c := 5) (by decide +kernel)).1 (e0k hE (k := 206) (c := 5) (by decide +kernel)).2 (by decide) (by decide +kernel) (show 1 = gm_na 30 by decide +kernel) (fw_c1 fw_si) (show 2 ≤ gm_ml 30 by decide +kernel) (Nat.le_of_ble_eq_true rfl) (by omega) (Nat.zero_le _) (Nat.zero_le _) ?_
    refine fo_30d (lane := ((N (95 + (p * 3 + 0))))) (row := ((N (95 + (p * 3 + 1))))) (y := k) (x := y) (by omega) hE (ti_fr (W := [(206, some 2), (206, some 3), (206, some 4), (206, some 5), (206, some 6), (206, some 7), (206, some 8), (200, some 6), (204, none), (205, none)]) hT (fr_p (fr_p (fr_p (fr_p (fr_p (fr_p (fr_p (fr_t fr_0 hf (by decide)) (Or.inr (by decide))) (Or.inr (by decide))) (Or.inr (by decide))) (Or.inr (by decide))) (Or.inr (by decide))) (Or.inr (by decide))) (Or.inr (by decide))) (by decide) (by decide +kernel)) hN hfw (hfw.2.1 [(206, some 2), (206, some 5), (206, some 7), (206, some 3), (206, some 4), (206, some 6), (206, some 8)] _ _ (by decide) (fr_p (fr_p (fr_p (fr_p (fr_p (fr_p (fr_p fr_0 (Or.inr (by decide))) (Or.inr (by decide))) (Or.inr (by decide))) (Or.inr (by decide))) (Or.inr (by decide))) (Or.inr (by decide))) (Or.inr (by decide))) hI1) ((uM_ne (by omega)).trans ((uM_ne (by omega)).trans ((uM_ne (by omega)).trans ((uM_ne (by omega)).trans ((uM_ne (by omega)).trans ((uM_ne (by omega)).trans uM_at)))))) ((uM_ne (by omega)).trans ((uM_ne (by omega)).trans ((uM_ne (by omega)).trans uM_at))) ((uM_ne (by omega)).trans ((uM_ne (by omega)).trans uM_at)) ((uM_ne (by omega)).trans ((uM_ne (by omega)).trans ((uM_ne (by omega)).trans ((uM_ne (by omega)).trans ((uM_ne (by omega)).trans uM_at))))) ((uM_ne (by omega)).trans uM_at) ((uM_ne (by omega)).trans ((uM_ne (by omega)).trans ((uM_ne (by omega)).trans ((uM_ne (by omega)).trans uM_at)))) ⟨by omega, by omega⟩ ⟨by omega, by omega⟩ ⟨by omega, by omega⟩ ⟨by omega, by omega⟩ (fun w1 w2 M30 hf30 hI30 g66 => ?_) (fun w1 M30 hf30 hI30 => ?_)
    · show gm_Wp X LX d _ _ 188 46 _ [gm_vi (fro N h φ ((N (95 + (p * 3 + 0)))) ((N (95 + (p * 3 + 1)))) k)] n K _ _ Q
      have w1 : ¬ fro N h φ ((N (95 + (p * 3 + 0)))) ((N (95 + (p * 3 + 1)))) k = -1 := w1
      have w2 : fro N h φ ((N (95 + (p * 3 + 0)))) ((N (95 + (p * 3 + 1)))) k ≤ y := w2
      have fb := fro_b (N := N) (h := h) (φ := φ) (lane := ((N (95 + (p * 3 + 0))))) (row := ((N (95 + (p * 3 + 1))))) (y := k) (by omega)
      have db9 := nwy_b (lane := ((N (95 + (p * 3 + 0))))) (rock := 0) (wo := -1) (y0 := k) (r0 := ((N (95 + (p * 3 + 1))))) hN hfw.1 (fun y a b => (hT.2.2.1 y a b).2.1) (by omega) ⟨by omega, by omega⟩ (fro N h φ ((N (95 + (p * 3 + 0)))) ((N (95 + (p * 3 + 1)))) k - k).toNat (by omega)
      refine gm_sz (gm_p_load (pc := 46) (i := .iload_n 3) (sr := 0) (j := 3) (by decide +kernel) rfl rfl rfl) ?_
      refine fw_ic (cc := .ne) (pc := 47) (off := 18) (by decide +kernel) (by decide) ⟨by omega, by omega⟩ ⟨by omega, by omega⟩ (fun h47 => ?_) (fun h47 => ?_)
      · have h47 : ¬ (fro N h φ ((N (95 + (p * 3 + 0)))) ((N (95 + (p * 3 + 1)))) k) = y := h47
        refine gm_sz (gm_p_iinc (pc := 65) (j := 5) (z := (-1)) (by decide +kernel) rfl) ?_
        refine gm_sz (gm_p_goto (pc := 68) (off := (-45)) (by decide +kernel) (by decide)) ?_
        have e99 : (y - k).toNat = (fro N h φ ((N (95 + (p * 3 + 0)))) ((N (95 + (p * 3 + 1)))) k - k).toNat ∨ ¬ fro N h φ ((N (95 + (p * 3 + 0)))) ((N (95 + (p * 3 + 1)))) k = y := by
          by_cases h99 : fro N h φ ((N (95 + (p * 3 + 0)))) ((N (95 + (p * 3 + 1)))) k = y
          · exact Or.inl (by rw [h99])
          · exact Or.inr h99
        have hn9 : ¬ (fro N h φ lane ((N (95 + (p * 3 + 1)))) k = y ∧ (nwy N h φ lane 0 (-1) k ((N (95 + (p * 3 + 1)))) (y - k).toNat).2 = x) := by
          first | (rintro ⟨z1, z2⟩; omega) | (rintro ⟨z1, z2⟩; rw [← z1] at z2; omega) | (rw [← hpl]; rintro ⟨z1, z2⟩; omega) | (rw [← hpl]; rintro ⟨z1, z2⟩; rw [← z1] at z2; omega)
        have hp2 : ∀ q : Int, k - 1 < q → q < y → ¬ (fro N h φ lane ((N (95 + (p * 3 + 1)))) q = y ∧ (nwy N h φ lane 0 (-1) q ((N (95 + (p * 3 + 1)))) (y - q).toNat).2 = x) := fun q q0 q1 => by
          by_cases e : q = k
          · subst e; exact hn9
          · exact hp9 q (by omega) q1
        have h9 := ih (k - 1) _ (by omega) (by omega) hp2 (fr_t (fr_p (fr_p (fr_p (fr_p (fr_p (fr_p (fr_p (fr_t fr_0 hf (by decide)) (Or.inr (by decide))) (Or.inr (by decide))) (Or.inr (by decide))) (Or.inr (by decide))) (Or.inr (by decide))) (Or.inr (by decide))) (Or.inr (by decide))) hf30 (by decide)) hI30
        rw [show k - 1 = k - 1 by omega] at h9
        exact h9
      · have h47 : (fro N h φ ((N (95 + (p * 3 + 0)))) ((N (95 + (p * 3 + 1)))) k) = y := Classical.not_not.mp h47
        refine gm_sz (gm_p_load (pc := 50) (i := .aload_n 0) (sr := 2) (j := 0) (by decide +kernel) rfl rfl rfl) ?_
        refine gm_sz (fw_gr (pc := 51) (ix := 58) (ci := 0) (j := 9) (r := 206) (by decide +kernel) (e0k hE (k := 1) (c := 0) (by decide +kernel)) (by decide +kernel) (by decide +kernel) (e0r hE (k := 1) (j := 9) (r := 206) (by decide +kernel))) ?_
        refine gm_sz (fw_gi (pc := 54) (ix := 209) (ci := 5) (j := 6) (x := (nwy N h φ ((N (95 + (p * 3 + 0)))) 0 (-1) k ((N (95 + (p * 3 + 1)))) (fro N h φ ((N (95 + (p * 3 + 0)))) ((N (95 + (p * 3 + 1)))) k - k).toNat).2) (by decide +kernel) (e0k hE (k := 206) (c := 5) (by decide +kernel)) (by decide +kernel) (by decide +kernel) g66) ?_
        refine gm_sz (gm_p_load (pc := 57) (i := .iload 4) (sr := 0) (j := 4) (by decide +kernel) rfl rfl rfl) ?_
        refine fw_ic (cc := .ne) (pc := 59) (off := 6) (by decide +kernel) (by decide) ⟨by omega, by omega⟩ ⟨by omega, by omega⟩ (fun h59 => ?_) (fun h59 => ?_)
        · have h59 : ¬ ((nwy N h φ ((N (95 + (p * 3 + 0)))) 0 (-1) k ((N (95 + (p * 3 + 1)))) (fro N h φ ((N (95 + (p * 3 + 0)))) ((N (95 + (p * 3 + 1)))) k - k).toNat).2) = x := h59
          refine gm_sz (gm_p_iinc (pc := 65) (j := 5) (z := (-1)) (by decide +kernel) rfl) ?_
          refine gm_sz (gm_p_goto (pc := 68) (off := (-45)) (by decide +kernel) (by decide)) ?_
          have e99 : (y - k).toNat = (fro N h φ ((N (95 + (p * 3 + 0)))) ((N (95 + (p * 3 + 1)))) k - k).toNat ∨ ¬ fro N h φ ((N (95 + (p * 3 + 0)))) ((N (95 + (p * 3 + 1)))) k = y := by
            by_cases h99 : fro N h φ ((N (95 + (p * 3 + 0)))) ((N (95 + (p * 3 + 1)))) k = y
            · exact Or.inl (by rw [h99])
            · exact Or.inr h99
          have hn9 : ¬ (fro N h φ lane ((N (95 + (p * 3 + 1)))) k = y ∧ (nwy N h φ lane 0 (-1) k ((N (95 + (p * 3 + 1)))) (y - k).toNat).2 = x) := by
            first | (rintro ⟨z1, z2⟩; omega) | (rintro ⟨z1, z2⟩; rw [← z1] at z2; omega) | (rw [← hpl]; rintro ⟨z1, z2⟩; omega) | (rw [← hpl]; rintro ⟨z1, z2⟩; rw [← z1] at z2; omega)
          have hp2 : ∀ q : Int, k - 1 < q → q < y → ¬ (fro N h φ lane ((N (95 + (p * 3 + 1)))) q = y ∧ (nwy N h φ lane 0 (-1) q ((N (95 + (p * 3 + 1)))) (y - q).toNat).2 = x) := fun q q0 q1 => by
            by_cases e : q = k
            · subst e; exact hn9
            · exact hp9 q (by omega) q1
          have h9 := ih (k - 1) _ (by omega) (by omega) hp2 (fr_t (fr_p (fr_p (fr_p (fr_p (fr_p (fr_p (fr_p (fr_t fr_0 hf (by decide)) (Or.inr (by decide))) (Or.inr (by decide))) (Or.inr (by decide))) (Or.inr (by decide))) (Or.inr (by decide))) (Or.inr (by decide))) (Or.inr (by decide))) hf30 (by decide)) hI30
          rw [show k - 1 = k - 1 by omega] at h9
          exact h9
        · have h59 : ((nwy N h φ ((N (95 + (p * 3 + 0)))) 0 (-1) k ((N (95 + (p * 3 + 1)))) (fro N h φ ((N (95 + (p * 3 + 0)))) ((N (95 + (p * 3 + 1)))) k - k).toNat).2) = x := Classical.not_not.mp h59
          refine gm_sz (gm_p_load (pc := 62) (i := .iload 5) (sr := 0) (j := 5) (by decide +kernel) rfl rfl rfl) ?_
          have hg9 : (fro N h φ lane ((N (95 + (p * 3 + 1)))) k = y ∧ (nwy N h φ lane 0 (-1) k ((N (95 + (p * 3 + 1)))) (y - k).toNat).2 = x) := by
            first | exact ⟨by omega, by omega⟩ | (rw [← hpl]; refine ⟨by omega, ?_⟩; first | omega | (rename_i h98; rw [show y = fro N h φ ((N (95 + (p * 3 + 0)))) ((N (95 + (p * 3 + 1)))) k by omega]; omega))
          exact gm_r_int (pc := 64) (by decide +kernel) (Or.inl (by decide +kernel)) (hq _ (Or.inr ⟨hpl, ⟨by omega, by omega⟩, hg9, hp9⟩) _ (fr_t (fr_p (fr_p (fr_p (fr_p (fr_p (fr_p (fr_p (fr_t fr_0 hf (by decide)) (Or.inr (by decide))) (Or.inr (by decide))) (Or.inr (by decide))) (Or.inr (by decide))) (Or.inr (by decide))) (Or.inr (by decide))) (Or.inr (by decide))) hf30 (by decide)) hI30)
    · show gm_Wp X LX d _ _ 188 46 _ [gm_vi (-1)] n K _ _ Q
      have w1 : fro N h φ ((N (95 + (p * 3 + 0)))) ((N (95 + (p * 3 + 1)))) k = -1 ∨ y < fro N h φ ((N (95 + (p * 3 + 0)))) ((N (95 + (p * 3 + 1)))) k := w1
      have fb := fro_b (N := N) (h := h) (φ := φ) (lane := ((N (95 + (p * 3 + 0))))) (row := ((N (95 + (p * 3 + 1))))) (y := k) (by omega)
      refine gm_sz (gm_p_load (pc := 46) (i := .iload_n 3) (sr := 0) (j := 3) (by decide +kernel) rfl rfl rfl) ?_
      refine fw_ic (cc := .ne) (pc := 47) (off := 18) (by decide +kernel) (by decide) ⟨by decide, by decide⟩ ⟨by omega, by omega⟩ (fun h47 => ?_) (fun h47 => ?_)
      · have h47 : ¬ (-1) = y := h47
        refine gm_sz (gm_p_iinc (pc := 65) (j := 5) (z := (-1)) (by decide +kernel) rfl) ?_
        refine gm_sz (gm_p_goto (pc := 68) (off := (-45)) (by decide +kernel) (by decide)) ?_
        have e99 : (y - k).toNat = (fro N h φ ((N (95 + (p * 3 + 0)))) ((N (95 + (p * 3 + 1)))) k - k).toNat ∨ ¬ fro N h φ ((N (95 + (p * 3 + 0)))) ((N (95 + (p * 3 + 1)))) k = y := by
          by_cases h99 : fro N h φ ((N (95 + (p * 3 + 0)))) ((N (95 + (p * 3 + 1)))) k = y
          · exact Or.inl (by rw [h99])
          · exact Or.inr h99
        have hn9 : ¬ (fro N h φ lane ((N (95 + (p * 3 + 1)))) k = y ∧ (nwy N h φ lane 0 (-1) k ((N (95 + (p * 3 + 1)))) (y - k).toNat).2 = x) := by
          first | (rintro ⟨z1, z2⟩; omega) | (rintro ⟨z1, z2⟩; rw [← z1] at z2; omega) | (rw [← hpl]; rintro ⟨z1, z2⟩; omega) | (rw [← hpl]; rintro ⟨z1, z2⟩; rw [← z1] at z2; omega)
        have hp2 : ∀ q : Int, k - 1 < q → q < y → ¬ (fro N h φ lane ((N (95 + (p * 3 + 1)))) q = y ∧ (nwy N h φ lane 0 (-1) q ((N (95 + (p * 3 + 1)))) (y - q).toNat).2 = x) := fun q q0 q1 => by
          by_cases e : q = k
          · subst e; exact hn9
          · exact hp9 q (by omega) q1
        have h9 := ih (k - 1) _ (by omega) (by omega) hp2 (fr_t (fr_p (fr_p (fr_p (fr_p (fr_p (fr_p (fr_p (fr_t fr_0 hf (by decide)) (Or.inr (by decide))) (Or.inr (by decide))) (Or.inr (by decide))) (Or.inr (by decide))) (Or.inr (by decide))) (Or.inr (by decide))) (Or.inr (by decide))) hf30 (by decide)) hI30
        rw [show k - 1 = k - 1 by omega] at h9
        exact h9
      · have h47 : (-1) = y := Classical.not_not.mp h47
        refine gm_sz (gm_p_load (pc := 50) (i := .aload_n 0) (sr := 2) (j := 0) (by decide +kernel) rfl rfl rfl) ?_
        refine gm_sz (fw_gr (pc := 51) (ix := 58) (ci := 0) (j := 9) (r := 206) (by decide +kernel) (e0k hE (k := 1) (c := 0) (by decide +kernel)) (by decide +kernel) (by decide +kernel) (e0r hE (k := 1) (j := 9) (r := 206) (by decide +kernel))) ?_
        refine gm_sz (fw_gi (pc := 54) (ix := 209) (ci := 5) (j := 6) (x := M30 206 6) (by decide +kernel) (e0k hE (k := 206) (c := 5) (by decide +kernel)) (by decide +kernel) (by decide +kernel) rfl) ?_
        refine gm_sz (gm_p_load (pc := 57) (i := .iload 4) (sr := 0) (j := 4) (by decide +kernel) rfl rfl rfl) ?_
        refine fw_ic (cc := .ne) (pc := 59) (off := 6) (by decide +kernel) (by decide) ⟨by omega, by omega⟩ ⟨by omega, by omega⟩ (fun h59 => ?_) (fun h59 => ?_)
        · have h59 : ¬ (M30 206 6) = x := h59
          refine gm_sz (gm_p_iinc (pc := 65) (j := 5) (z := (-1)) (by decide +kernel) rfl) ?_
          refine gm_sz (gm_p_goto (pc := 68) (off := (-45)) (by decide +kernel) (by decide)) ?_
          have e99 : (y - k).toNat = (fro N h φ ((N (95 + (p * 3 + 0)))) ((N (95 + (p * 3 + 1)))) k - k).toNat ∨ ¬ fro N h φ ((N (95 + (p * 3 + 0)))) ((N (95 + (p * 3 + 1)))) k = y := by
            by_cases h99 : fro N h φ ((N (95 + (p * 3 + 0)))) ((N (95 + (p * 3 + 1)))) k = y
            · exact Or.inl (by rw [h99])
            · exact Or.inr h99
          have hn9 : ¬ (fro N h φ lane ((N (95 + (p * 3 + 1)))) k = y ∧ (nwy N h φ lane 0 (-1) k ((N (95 + (p * 3 + 1)))) (y - k).toNat).2 = x) := by
            first | (rintro ⟨z1, z2⟩; omega) | (rintro ⟨z1, z2⟩; rw [← z1] at z2; omega) | (rw [← hpl]; rintro ⟨z1, z2⟩; omega) | (rw [← hpl]; rintro ⟨z1, z2⟩; rw [← z1] at z2; omega)
          have hp2 : ∀ q : Int, k - 1 < q → q < y → ¬ (fro N h φ lane ((N (95 + (p * 3 + 1)))) q = y ∧ (nwy N h φ lane 0 (-1) q ((N (95 + (p * 3 + 1)))) (y - q).toNat).2 = x) := fun q q0 q1 => by
            by_cases e : q = k
            · subst e; exact hn9
            · exact hp9 q (by omega) q1
          have h9 := ih (k - 1) _ (by omega) (by omega) hp2 (fr_t (fr_p (fr_p (fr_p (fr_p (fr_p (fr_p (fr_p (fr_t fr_0 hf (by decide)) (Or.inr (by decide))) (Or.inr (by decide))) (Or.inr (by decide))) (Or.inr (by decide))) (Or.inr (by decide))) (Or.inr (by decide))) (Or.inr (by decide))) hf30 (by decide)) hI30
          rw [show k - 1 = k - 1 by omega] at h9
          exact h9
        · have h59 : (M30 206 6) = x := Classical.not_not.mp h59
          refine gm_sz (gm_p_load (pc := 62) (i := .iload 5) (sr := 0) (j := 5) (by decide +kernel) rfl rfl rfl) ?_
          have hg9 : (fro N h φ lane ((N (95 + (p * 3 + 1)))) k = y ∧ (nwy N h φ lane 0 (-1) k ((N (95 + (p * 3 + 1)))) (y - k).toNat).2 = x) := by
            first | exact ⟨by omega, by omega⟩ | (rw [← hpl]; refine ⟨by omega, ?_⟩; first | omega | (rename_i h98; rw [show y = fro N h φ ((N (95 + (p * 3 + 0)))) ((N (95 + (p * 3 + 1)))) k by omega]; omega))
          exact gm_r_int (pc := 64) (by decide +kernel) (Or.inl (by decide +kernel)) (hq _ (Or.inr ⟨hpl, ⟨by omega, by omega⟩, hg9, hp9⟩) _ (fr_t (fr_p (fr_p (fr_p (fr_p (fr_p (fr_p (fr_p (fr_t fr_0 hf (by decide)) (Or.inr (by decide))) (Or.inr (by decide))) (Or.inr (by decide))) (Or.inr (by decide))) (Or.inr (by decide))) (Or.inr (by decide))) (Or.inr (by decide))) hf30 (by decide)) hI30)
theorem wr_r (hd : 22 ≤ d) (hE : E0 n K R) (hT : TR N h M) (hN : NR N) (hfw : FLR X LX n K R N h FI φ) (hI : FI M) (hp : 0 ≤ p ∧ p < N 3) (hl : 0 ≤ lane ∧ lane < N 0) (hy : (0 ≤ y ∧ y ≤ 299) ∧ (0 ≤ x ∧ x ≤ 99)) (hpl : (N (95 + (p * 3 + 0))) = lane) (hq : ∀ v, WROA N h φ p lane y x v → ∀ M2, fr [(226, some 29), (226, some 30), (226, some 26), (226, some 17), (226, some 18), (226, some 19), (226, some 20), (226, some 21), (226, some 22), (226, some 23), (235, none), (233, none), (236, none), (237, none)] M M2 → FI M2 → Q (.inl (some (gm_vi v))) n K R M2) : ∀ (u : Nat) (k : Int) (M1 : gm_M), k = -1 + (u : Int) → k < y → (∀ q : Int, k < q → q < y → ¬ (fro N h φ lane ((N (95 + (p * 3 + 1)))) q = y ∧ (nwy N h φ lane 0 (-1) q ((N (95 + (p * 3 + 1)))) (y - q).toNat).2 = x)) → fr [(226, some 29), (226, some 30), (226, some 26), (226, some 17), (226, some 18), (226, some 19), (226, some 20), (226, some 21), (226, some 22), (226, some 23), (235, none), (233, none), (236, none), (237, none)] M M1 → FI M1 → gm_Wp X LX d bc bs 339 5 [some (gm_vr 226), some (gm_vi p), some (gm_vi lane), some (gm_vi y), some (gm_vi x), some (gm_vi k)] [] n K R M1 Q := by
  obtain ⟨⟨⟨a0, b0⟩, ⟨a1, b1⟩, ⟨a10, b10⟩, ⟨a11, b11⟩, ⟨a12, b12⟩, a9, b9⟩, ⟨⟨a2, b2⟩, ⟨a5, b5⟩, ⟨a3, b3⟩, ⟨a4, b4⟩, ⟨a6, b6⟩, ⟨a14, b14⟩, ⟨a7, b7⟩, a13, b13⟩, rF, rP, rL⟩ := id hN
  have rp := rP p hp.1 hp.2
  intro u
  induction u with
  | zero =>
    intro k M1 hk hk2 hp9 hf hI1
    refine gm_sz (gm_p_load (pc := 5) (i := .iload 5) (sr := 0) (j := 5) (by decide +kernel) rfl rfl rfl) ?_
    refine fw_ift (cc := .lt) (pc := 7) (off := 50) (by decide +kernel) (by decide) ⟨by omega, by omega⟩ (show k < 0 by omega) ?_
    refine gm_sz (gm_p_const (pc := 57) (i := .iconst (-1)) (v := gm_vi (-1)) (by decide +kernel) (by decide +kernel)) ?_
    exact gm_r_int (pc := 58) (by decide +kernel) (Or.inl (by decide +kernel)) (hq _ (Or.inl ⟨rfl, Or.inr (fun q q0 q1 => hp9 q (by omega) q1)⟩) _ (fr_t fr_0 hf (by decide)) hI1)
  | succ u ih =>
    intro k M1 hk hk2 hp9 hf hI1
    refine gm_sz (gm_p_load (pc := 5) (i := .iload 5) (sr := 0) (j := 5) (by decide +kernel) rfl rfl rfl) ?_
    refine fw_iff (cc := .lt) (pc := 7) (off := 50) (by decide +kernel) (by decide) ⟨by omega, by omega⟩ (show ¬ k < 0 by omega) ?_
    refine gm_sz (gm_p_load (pc := 10) (i := .aload_n 0) (sr := 2) (j := 0) (by decide +kernel) rfl rfl rfl) ?_
    refine gm_sz (gm_p_load (pc := 11) (i := .iload_n 1) (sr := 0) (j := 1) (by decide +kernel) rfl rfl rfl) ?_
    refine gm_sz (gm_p_const (pc := 12) (i := .iconst 0) (v := gm_vi 0) (by decide +kernel) (by decide +kernel)) ?_
    refine gm_c_virt (k := 226) (ci := 11) (mj := 299) (ix := 396) (pc := 13) (as := [gm_vi p, gm_vi 0]) (st := []) (d' := d - 1) (bc' := 0) (bs' := 0) (by decide +kernel) (by decide +kernel) (by decide +kernel) (by decide +kernel) (e0k hE (k := 226) (c := 11) (by decide +kernel)).1 (e0k hE (k := 226) (c := 11) (by decide +kernel)).2 (by decide) (by decide +kernel) (show 2 = gm_na 299 by decide +kernel) (fw_c2 fw_si fw_si) (show 3 ≤ gm_ml 299 by decide +kernel) (Nat.le_of_ble_eq_true rfl) (by omega) (Nat.zero_le _) (Nat.zero_le _) ?_
    refine re_of hE (tr_fr (W := [(226, some 29), (226, some 30), (226, some 26), (226, some 17), (226, some 18), (226, some 19), (226, some 20), (226, some 21), (226, some 22), (226, some 23), (235, none), (233, none), (236, none), (237, none)]) hT (fr_t fr_0 hf (by decide)) (by decide)) hN ⟨by omega, by omega⟩ ⟨by omega, by omega⟩ ?_
    show gm_Wp X LX d _ _ 339 16 _ [gm_vi (N (95 + (p * 3 + 0)))] n K _ _ Q
    refine gm_sz (gm_p_load (pc := 16) (i := .iload_n 2) (sr := 0) (j := 2) (by decide +kernel) rfl rfl rfl) ?_
    refine fw_ic (cc := .ne) (pc := 17) (off := 40) (by decide +kernel) (by decide) ⟨by omega, by omega⟩ ⟨by omega, by omega⟩ (fun h17 => ?_) (fun h17 => ?_)
    · have h17 : ¬ (N (95 + (p * 3 + 0))) = lane := h17
      refine gm_sz (gm_p_const (pc := 57) (i := .iconst (-1)) (v := gm_vi (-1)) (by decide +kernel) (by decide +kernel)) ?_
      exfalso
      omega
    · have h17 : (N (95 + (p * 3 + 0))) = lane := Classical.not_not.mp h17
      refine gm_sz (gm_p_load (pc := 20) (i := .aload_n 0) (sr := 2) (j := 0) (by decide +kernel) rfl rfl rfl) ?_
      refine gm_sz (gm_p_load (pc := 21) (i := .iload_n 2) (sr := 0) (j := 2) (by decide +kernel) rfl rfl rfl) ?_
      refine gm_sz (gm_p_load (pc := 22) (i := .aload_n 0) (sr := 2) (j := 0) (by decide +kernel) rfl rfl rfl) ?_
      refine gm_sz (gm_p_load (pc := 23) (i := .iload_n 1) (sr := 0) (j := 1) (by decide +kernel) rfl rfl rfl) ?_
      refine gm_sz (gm_p_const (pc := 24) (i := .iconst 1) (v := gm_vi 1) (by decide +kernel) (by decide +kernel)) ?_
      refine gm_c_virt (k := 226) (ci := 11) (mj := 299) (ix := 396) (pc := 25) (as := [gm_vi p, gm_vi 1]) (st := [gm_vi lane, gm_vr 226]) (d' := d - 1) (bc' := 0) (bs' := 0) (by decide +kernel) (by decide +kernel) (by decide +kernel) (by decide +kernel) (e0k hE (k := 226) (c := 11) (by decide +kernel)).1 (e0k hE (k := 226) (c := 11) (by decide +kernel)).2 (by decide) (by decide +kernel) (show 2 = gm_na 299 by decide +kernel) (fw_c2 fw_si fw_si) (show 3 ≤ gm_ml 299 by decide +kernel) (Nat.le_of_ble_eq_true rfl) (by omega) (Nat.zero_le _) (Nat.zero_le _) ?_
      refine re_of hE (tr_fr (W := [(226, some 29), (226, some 30), (226, some 26), (226, some 17), (226, some 18), (226, some 19), (226, some 20), (226, some 21), (226, some 22), (226, some 23), (235, none), (233, none), (236, none), (237, none)]) hT (fr_t fr_0 hf (by decide)) (by decide)) hN ⟨by omega, by omega⟩ ⟨by omega, by omega⟩ ?_
      show gm_Wp X LX d _ _ 339 28 _ [gm_vi (N (95 + (p * 3 + 1))), gm_vi lane, gm_vr 226] n K _ _ Q
      refine gm_sz (gm_p_load (pc := 28) (i := .iload 5) (sr := 0) (j := 5) (by decide +kernel) rfl rfl rfl) ?_
      refine gm_c_virt (k := 226) (ci := 11) (mj := 325) (ix := 425) (pc := 30) (as := [gm_vi lane, gm_vi (N (95 + (p * 3 + 1))), gm_vi k]) (st := []) (d' := d - 1) (bc' := 0) (bs' := 0) (by decide +kernel) (by decide +kernel) (by decide +kernel) (by decide +kernel) (e0k hE (k := 226) (c := 11) (by decide +kernel)).1 (e0k hE (k := 226) (c := 11) (by decide +kernel)).2 (by decide) (by decide +kernel) (show 3 = gm_na 325 by decide +kernel) (fw_c3 fw_si fw_si fw_si) (show 4 ≤ gm_ml 325 by decide +kernel) (Nat.le_of_ble_eq_true rfl) (by omega) (Nat.zero_le _) (Nat.zero_le _) ?_
      refine ou_325d (lane := lane) (row := (N (95 + (p * 3 + 1)))) (y := k) (by omega) hE (tr_fr (W := [(226, some 29), (226, some 30), (226, some 26), (226, some 17), (226, some 18), (226, some 19), (226, some 20), (226, some 21), (226, some 22), (226, some 23), (235, none), (233, none), (236, none), (237, none)]) hT (fr_t fr_0 hf (by decide)) (by decide)) hN hfw hI1 ⟨by omega, by omega⟩ ⟨by omega, by omega⟩ ⟨by omega, by omega⟩ (fun M25 hf25 hI25 hd25 => ?_)
      show gm_Wp X LX d _ _ 339 33 _ [gm_vi (fro N h φ lane (N (95 + (p * 3 + 1))) k)] n K _ _ Q
      have fb := fro_b (N := N) (h := h) (φ := φ) (lane := lane) (row := (N (95 + (p * 3 + 1)))) (y := k) (by omega)
      have db9 := nwy_b (lane := lane) (rock := 0) (wo := -1) (y0 := k) (r0 := (N (95 + (p * 3 + 1)))) hN hfw.1 (fun y a b => (hT.2 y a b).2) (by omega) ⟨by omega, by omega⟩ (y - k).toNat (by omega)
      refine gm_sz (gm_p_load (pc := 33) (i := .iload_n 3) (sr := 0) (j := 3) (by decide +kernel) rfl rfl rfl) ?_
      refine fw_ic (cc := .ne) (pc := 34) (off := 17) (by decide +kernel) (by decide) ⟨by omega, by omega⟩ ⟨by omega, by omega⟩ (fun h34 => ?_) (fun h34 => ?_)
      · have h34 : ¬ (fro N h φ lane (N (95 + (p * 3 + 1))) k) = y := h34
        refine gm_sz (gm_p_iinc (pc := 51) (j := 5) (z := (-1)) (by decide +kernel) rfl) ?_
        refine gm_sz (gm_p_goto (pc := 54) (off := (-49)) (by decide +kernel) (by decide)) ?_
        have e99 : (y - k).toNat = (fro N h φ ((N (95 + (p * 3 + 0)))) ((N (95 + (p * 3 + 1)))) k - k).toNat ∨ ¬ fro N h φ ((N (95 + (p * 3 + 0)))) ((N (95 + (p * 3 + 1)))) k = y := by
          by_cases h99 : fro N h φ ((N (95 + (p * 3 + 0)))) ((N (95 + (p * 3 + 1)))) k = y
          · exact Or.inl (by rw [h99])
          · exact Or.inr h99
        have hn9 : ¬ (fro N h φ lane ((N (95 + (p * 3 + 1)))) k = y ∧ (nwy N h φ lane 0 (-1) k ((N (95 + (p * 3 + 1)))) (y - k).toNat).2 = x) := by
          first | (rintro ⟨z1, z2⟩; omega) | (rintro ⟨z1, z2⟩; rw [← z1] at z2; omega) | (rw [← hpl]; rintro ⟨z1, z2⟩; omega) | (rw [← hpl]; rintro ⟨z1, z2⟩; rw [← z1] at z2; omega)
        have hp2 : ∀ q : Int, k - 1 < q → q < y → ¬ (fro N h φ lane ((N (95 + (p * 3 + 1)))) q = y ∧ (nwy N h φ lane 0 (-1) q ((N (95 + (p * 3 + 1)))) (y - q).toNat).2 = x) := fun q q0 q1 => by
          by_cases e : q = k
          · subst e; exact hn9
          · exact hp9 q (by omega) q1
        have h9 := ih (k - 1) _ (by omega) (by omega) hp2 (fr_t (fr_t fr_0 hf (by decide)) hf25 (by decide)) hI25
        rw [show k - 1 = k - 1 by omega] at h9
        exact h9
      · have h34 : (fro N h φ lane (N (95 + (p * 3 + 1))) k) = y := Classical.not_not.mp h34
        refine gm_sz (gm_p_load (pc := 37) (i := .aload_n 0) (sr := 2) (j := 0) (by decide +kernel) rfl rfl rfl) ?_
        refine gm_sz (fw_gr (pc := 38) (ix := 48) (ci := 11) (j := 28) (r := 237) (by decide +kernel) (e0k hE (k := 226) (c := 11) (by decide +kernel)) (by decide +kernel) (by decide +kernel) (e0r hE (k := 226) (j := 28) (r := 237) (by decide +kernel))) ?_
        refine gm_sz (gm_p_load (pc := 41) (i := .iload_n 3) (sr := 0) (j := 3) (by decide +kernel) rfl rfl rfl) ?_
        refine gm_sz (fw_ia (pc := 42) (k := 237) (len := 300) (e0 := y) (x := (nwy N h φ lane 0 (-1) k (N (95 + (p * 3 + 1))) (y - k).toNat).2) (by decide +kernel) (e0a hE (k := 237) (q := (0, 300)) (by decide +kernel)).1 (e0a hE (k := 237) (q := (0, 300)) (by decide +kernel)).2 (by decide) ⟨by omega, by omega⟩ (hd25 y (by omega) (by omega))) ?_
        refine gm_sz (gm_p_load (pc := 43) (i := .iload 4) (sr := 0) (j := 4) (by decide +kernel) rfl rfl rfl) ?_
        refine fw_ic (cc := .ne) (pc := 45) (off := 6) (by decide +kernel) (by decide) ⟨by omega, by omega⟩ ⟨by omega, by omega⟩ (fun h45 => ?_) (fun h45 => ?_)
        · have h45 : ¬ ((nwy N h φ lane 0 (-1) k (N (95 + (p * 3 + 1))) (y - k).toNat).2) = x := h45
          refine gm_sz (gm_p_iinc (pc := 51) (j := 5) (z := (-1)) (by decide +kernel) rfl) ?_
          refine gm_sz (gm_p_goto (pc := 54) (off := (-49)) (by decide +kernel) (by decide)) ?_
          have e99 : (y - k).toNat = (fro N h φ ((N (95 + (p * 3 + 0)))) ((N (95 + (p * 3 + 1)))) k - k).toNat ∨ ¬ fro N h φ ((N (95 + (p * 3 + 0)))) ((N (95 + (p * 3 + 1)))) k = y := by
            by_cases h99 : fro N h φ ((N (95 + (p * 3 + 0)))) ((N (95 + (p * 3 + 1)))) k = y
            · exact Or.inl (by rw [h99])
            · exact Or.inr h99
          have hn9 : ¬ (fro N h φ lane ((N (95 + (p * 3 + 1)))) k = y ∧ (nwy N h φ lane 0 (-1) k ((N (95 + (p * 3 + 1)))) (y - k).toNat).2 = x) := by
            first | (rintro ⟨z1, z2⟩; omega) | (rintro ⟨z1, z2⟩; rw [← z1] at z2; omega) | (rw [← hpl]; rintro ⟨z1, z2⟩; omega) | (rw [← hpl]; rintro ⟨z1, z2⟩; rw [← z1] at z2; omega)
          have hp2 : ∀ q : Int, k - 1 < q → q < y → ¬ (fro N h φ lane ((N (95 + (p * 3 + 1)))) q = y ∧ (nwy N h φ lane 0 (-1) q ((N (95 + (p * 3 + 1)))) (y - q).toNat).2 = x) := fun q q0 q1 => by
            by_cases e : q = k
            · subst e; exact hn9
            · exact hp9 q (by omega) q1
          have h9 := ih (k - 1) _ (by omega) (by omega) hp2 (fr_t (fr_t fr_0 hf (by decide)) hf25 (by decide)) hI25
          rw [show k - 1 = k - 1 by omega] at h9
          exact h9
        · have h45 : ((nwy N h φ lane 0 (-1) k (N (95 + (p * 3 + 1))) (y - k).toNat).2) = x := Classical.not_not.mp h45
          refine gm_sz (gm_p_load (pc := 48) (i := .iload 5) (sr := 0) (j := 5) (by decide +kernel) rfl rfl rfl) ?_
          have hg9 : (fro N h φ lane ((N (95 + (p * 3 + 1)))) k = y ∧ (nwy N h φ lane 0 (-1) k ((N (95 + (p * 3 + 1)))) (y - k).toNat).2 = x) := by
            first | exact ⟨by omega, by omega⟩ | (rw [← hpl]; refine ⟨by omega, ?_⟩; first | omega | (rename_i h98; rw [show y = fro N h φ ((N (95 + (p * 3 + 0)))) ((N (95 + (p * 3 + 1)))) k by omega]; omega))
          exact gm_r_int (pc := 50) (by decide +kernel) (Or.inl (by decide +kernel)) (hq _ (Or.inr ⟨hpl, ⟨by omega, by omega⟩, hg9, hp9⟩) _ (fr_t (fr_t fr_0 hf (by decide)) hf25 (by decide)) hI25)
theorem wr_188 (hd : 22 ≤ d) (hE : E0 n K R) (hT : TI N h sp M) (hN : NR N) (hfw : FLW X LX n K R N h sp FI φ) (hI : FI M) (hp : 0 ≤ p ∧ p < N 3) (hl : 0 ≤ lane ∧ lane < N 0) (hy : (0 ≤ y ∧ y ≤ 299) ∧ (0 ≤ x ∧ x ≤ 99)) (hq : ∀ v, WROA N h φ p lane y x v → ∀ M2, fr [(206, some 2), (206, some 3), (206, some 4), (206, some 5), (206, some 6), (206, some 7), (206, some 8), (200, some 6), (204, none), (205, none)] M M2 → FI M2 → Q (.inl (some (gm_vi v))) n K R M2) : gm_Wp X LX d bc bs 188 0 (gm_ent 188 [gm_vr 1, gm_vi p, gm_vi lane, gm_vi y, gm_vi x]) [] n K R M Q := by
  obtain ⟨⟨⟨a0, b0⟩, ⟨a1, b1⟩, ⟨a10, b10⟩, ⟨a11, b11⟩, ⟨a12, b12⟩, a9, b9⟩, ⟨⟨a2, b2⟩, ⟨a5, b5⟩, ⟨a3, b3⟩, ⟨a4, b4⟩, ⟨a6, b6⟩, ⟨a14, b14⟩, ⟨a7, b7⟩, a13, b13⟩, rF, rP, rL⟩ := id hN
  have rp := rP p hp.1 hp.2
  refine gm_sz (gm_p_load (pc := 0) (i := .aload_n 0) (sr := 2) (j := 0) (by decide +kernel) rfl rfl rfl) ?_
  refine gm_sz (fw_gr (pc := 1) (ix := 23) (ci := 0) (j := 3) (r := 3) (by decide +kernel) (e0k hE (k := 1) (c := 0) (by decide +kernel)) (by decide +kernel) (by decide +kernel) (e0r hE (k := 1) (j := 3) (r := 3) (by decide +kernel))) ?_
  refine gm_sz (fw_gr (pc := 4) (ix := 183) (ci := 1) (j := 11) (r := 8) (by decide +kernel) (e0k hE (k := 3) (c := 1) (by decide +kernel)) (by decide +kernel) (by decide +kernel) (e0r hE (k := 3) (j := 11) (r := 8) (by decide +kernel))) ?_
  refine gm_sz (gm_p_load (pc := 7) (i := .iload_n 1) (sr := 0) (j := 1) (by decide +kernel) rfl rfl rfl) ?_
  refine gm_sz (gm_p_const (pc := 8) (i := .iconst 0) (v := gm_vi 0) (by decide +kernel) (by decide +kernel)) ?_
  refine gm_c_virt (k := 8) (ci := 2) (mj := 10) (ix := 186) (pc := 9) (as := [gm_vi p, gm_vi 0]) (st := []) (d' := d - 1) (bc' := 0) (bs' := 0) (by decide +kernel) (by decide +kernel) (by decide +kernel) (by decide +kernel) (e0k hE (k := 8) (c := 2) (by decide +kernel)).1 (e0k hE (k := 8) (c := 2) (by decide +kernel)).2 (by decide) (by decide +kernel) (show 2 = gm_na 10 by decide +kernel) (fw_c2 fw_si fw_si) (show 3 ≤ gm_ml 10 by decide +kernel) (Nat.le_of_ble_eq_true rfl) (by omega) (Nat.zero_le _) (Nat.zero_le _) ?_
  refine rw_get (s := N 3) (w := 3) (x := N (95 + (p * 3 + 0))) (e0k hE (k := 8) (c := 2) (by decide +kernel)) (e0a hE (k := 9) (q := (0, 24)) (by decide +kernel)) (e0r hE (k := 8) (j := 2) (r := 9) (by decide +kernel)) (by decide) (ti_peo hT) (hT.1 (8, 1, 3) (by decide)) ⟨by omega, by omega⟩ ⟨by omega, by omega⟩ ⟨by omega, by omega⟩ ⟨by omega, by omega⟩ (ti_aP hT (by omega) (by omega)) ?_
  show gm_Wp X LX d _ _ 188 12 _ [gm_vi (N (95 + (p * 3 + 0)))] n K _ _ Q
  refine gm_sz (gm_p_load (pc := 12) (i := .iload_n 2) (sr := 0) (j := 2) (by decide +kernel) rfl rfl rfl) ?_
  refine fw_ic (cc := .eq) (pc := 13) (off := 5) (by decide +kernel) (by decide) ⟨by omega, by omega⟩ ⟨by omega, by omega⟩ (fun h13 => ?_) (fun h13 => ?_)
  · have h13 : (N (95 + (p * 3 + 0))) = lane := h13
    refine gm_sz (gm_p_load (pc := 18) (i := .iload_n 3) (sr := 0) (j := 3) (by decide +kernel) rfl rfl rfl) ?_
    refine gm_sz (gm_p_const (pc := 19) (i := .iconst 1) (v := gm_vi 1) (by decide +kernel) (by decide +kernel)) ?_
    refine gm_sz (gm_p_bin (pc := 20) (i := .isub) (f := fun x y => x - y) (by decide +kernel) rfl) ?_
    refine gm_sz (gm_p_stor (pc := 21) (i := .istore 5) (sr := 0) (j := 5) (by decide +kernel) rfl (show 6 ≤ _ from Nat.le_of_ble_eq_true rfl) rfl) ?_
    exact wr_c hd hE hT hN hfw hI hp hl hy (by omega) hq y.toNat (y - 1) _ (by omega) (by omega) (fun q q0 q1 => by omega) fr_0 hI
  · have h13 : ¬ (N (95 + (p * 3 + 0))) = lane := h13
    refine gm_sz (gm_p_const (pc := 16) (i := .iconst (-1)) (v := gm_vi (-1)) (by decide +kernel) (by decide +kernel)) ?_
    exact gm_r_int (pc := 17) (by decide +kernel) (Or.inl (by decide +kernel)) (hq _ (Or.inl ⟨rfl, Or.inl (by omega)⟩) _ fr_0 hI)
theorem wr_339 (hd : 22 ≤ d) (hE : E0 n K R) (hT : TR N h M) (hN : NR N) (hfw : FLR X LX n K R N h FI φ) (hI : FI M) (hp : 0 ≤ p ∧ p < N 3) (hl : 0 ≤ lane ∧ lane < N 0) (hy : (0 ≤ y ∧ y ≤ 299) ∧ (0 ≤ x ∧ x ≤ 99)) (hq : ∀ v, WROA N h φ p lane y x v → ∀ M2, fr [(226, some 29), (226, some 30), (226, some 26), (226, some 17), (226, some 18), (226, some 19), (226, some 20), (226, some 21), (226, some 22), (226, some 23), (235, none), (233, none), (236, none), (237, none)] M M2 → FI M2 → Q (.inl (some (gm_vi v))) n K R M2) : gm_Wp X LX d bc bs 339 0 (gm_ent 339 [gm_vr 226, gm_vi p, gm_vi lane, gm_vi y, gm_vi x]) [] n K R M Q := by
  obtain ⟨⟨⟨a0, b0⟩, ⟨a1, b1⟩, ⟨a10, b10⟩, ⟨a11, b11⟩, ⟨a12, b12⟩, a9, b9⟩, ⟨⟨a2, b2⟩, ⟨a5, b5⟩, ⟨a3, b3⟩, ⟨a4, b4⟩, ⟨a6, b6⟩, ⟨a14, b14⟩, ⟨a7, b7⟩, a13, b13⟩, rF, rP, rL⟩ := id hN
  have rp := rP p hp.1 hp.2
  by_cases hpl : (N (95 + (p * 3 + 0))) = lane
  · refine gm_sz (gm_p_load (pc := 0) (i := .iload_n 3) (sr := 0) (j := 3) (by decide +kernel) rfl rfl rfl) ?_
    refine gm_sz (gm_p_const (pc := 1) (i := .iconst 1) (v := gm_vi 1) (by decide +kernel) (by decide +kernel)) ?_
    refine gm_sz (gm_p_bin (pc := 2) (i := .isub) (f := fun x y => x - y) (by decide +kernel) rfl) ?_
    refine gm_sz (gm_p_stor (pc := 3) (i := .istore 5) (sr := 0) (j := 5) (by decide +kernel) rfl (show 6 ≤ _ from Nat.le_of_ble_eq_true rfl) rfl) ?_
    exact wr_r hd hE hT hN hfw hI hp hl hy hpl hq y.toNat (y - 1) _ (by omega) (by omega) (fun q q0 q1 => by omega) fr_0 hI
  · refine gm_sz (gm_p_load (pc := 0) (i := .iload_n 3) (sr := 0) (j := 3) (by decide +kernel) rfl rfl rfl) ?_
    refine gm_sz (gm_p_const (pc := 1) (i := .iconst 1) (v := gm_vi 1) (by decide +kernel) (by decide +kernel)) ?_
    refine gm_sz (gm_p_bin (pc := 2) (i := .isub) (f := fun x y => x - y) (by decide +kernel) rfl) ?_
    refine gm_sz (gm_p_stor (pc := 3) (i := .istore 5) (sr := 0) (j := 5) (by decide +kernel) rfl (show 6 ≤ _ from Nat.le_of_ble_eq_true rfl) rfl) ?_
    refine gm_sz (gm_p_load (pc := 5) (i := .iload 5) (sr := 0) (j := 5) (by decide +kernel) rfl rfl rfl) ?_
    refine fw_if (cc := .lt) (pc := 7) (off := 50) (by decide +kernel) (by decide) ⟨by omega, by omega⟩ (fun h7 => ?_) (fun h7 => ?_)
    · have h7 : (y - 1) < 0 := h7
      refine gm_sz (gm_p_const (pc := 57) (i := .iconst (-1)) (v := gm_vi (-1)) (by decide +kernel) (by decide +kernel)) ?_
      exact gm_r_int (pc := 58) (by decide +kernel) (Or.inl (by decide +kernel)) (hq _ (Or.inl ⟨rfl, Or.inl hpl⟩) _ fr_0 hI)
    · have h7 : ¬ (y - 1) < 0 := h7
      refine gm_sz (gm_p_load (pc := 10) (i := .aload_n 0) (sr := 2) (j := 0) (by decide +kernel) rfl rfl rfl) ?_
      refine gm_sz (gm_p_load (pc := 11) (i := .iload_n 1) (sr := 0) (j := 1) (by decide +kernel) rfl rfl rfl) ?_
      refine gm_sz (gm_p_const (pc := 12) (i := .iconst 0) (v := gm_vi 0) (by decide +kernel) (by decide +kernel)) ?_
      refine gm_c_virt (k := 226) (ci := 11) (mj := 299) (ix := 396) (pc := 13) (as := [gm_vi p, gm_vi 0]) (st := []) (d' := d - 1) (bc' := 0) (bs' := 0) (by decide +kernel) (by decide +kernel) (by decide +kernel) (by decide +kernel) (e0k hE (k := 226) (c := 11) (by decide +kernel)).1 (e0k hE (k := 226) (c := 11) (by decide +kernel)).2 (by decide) (by decide +kernel) (show 2 = gm_na 299 by decide +kernel) (fw_c2 fw_si fw_si) (show 3 ≤ gm_ml 299 by decide +kernel) (Nat.le_of_ble_eq_true rfl) (by omega) (Nat.zero_le _) (Nat.zero_le _) ?_
      refine re_of hE hT hN ⟨by omega, by omega⟩ ⟨by omega, by omega⟩ ?_
      show gm_Wp X LX d _ _ 339 16 _ [gm_vi (N (95 + (p * 3 + 0)))] n K _ _ Q
      refine gm_sz (gm_p_load (pc := 16) (i := .iload_n 2) (sr := 0) (j := 2) (by decide +kernel) rfl rfl rfl) ?_
      refine fw_ic (cc := .ne) (pc := 17) (off := 40) (by decide +kernel) (by decide) ⟨by omega, by omega⟩ ⟨by omega, by omega⟩ (fun h17 => ?_) (fun h17 => ?_)
      · have h17 : ¬ (N (95 + (p * 3 + 0))) = lane := h17
        refine gm_sz (gm_p_const (pc := 57) (i := .iconst (-1)) (v := gm_vi (-1)) (by decide +kernel) (by decide +kernel)) ?_
        exact gm_r_int (pc := 58) (by decide +kernel) (Or.inl (by decide +kernel)) (hq _ (Or.inl ⟨rfl, Or.inl hpl⟩) _ fr_0 hI)
      · have h17 : (N (95 + (p * 3 + 0))) = lane := Classical.not_not.mp h17
        exfalso
        omega
theorem wr_188w (hd : 22 ≤ d) (hE : E0 n K R) (hT : TI N h sp M) (hN : NR N) (hfw : FLW X LX n K R N h sp FI φ) (hI : FI M) (hp : 0 ≤ p ∧ p < N 3) (hl : 0 ≤ lane ∧ lane < N 0) (hy : (0 ≤ y ∧ y ≤ 299) ∧ (0 ≤ x ∧ x ≤ 99)) (hq : WROA N h φ p lane y x (wrv N h φ p lane y x) → ∀ M2, fr [(206, some 2), (206, some 3), (206, some 4), (206, some 5), (206, some 6), (206, some 7), (206, some 8), (200, some 6), (204, none), (205, none)] M M2 → FI M2 → Q (.inl (some (gm_vi (wrv N h φ p lane y x)))) n K R M2) : gm_Wp X LX d bc bs 188 0 (gm_ent 188 [gm_vr 1, gm_vi p, gm_vi lane, gm_vi y, gm_vi x]) [] n K R M Q := by
  refine wr_188 hd hE hT hN hfw hI hp hl hy (fun v hv M2 h1 h2 => ?_)
  have e := wrv_s hv
  rw [← e] at hv ⊢
  exact hq hv M2 h1 h2
theorem wr_339w (hd : 22 ≤ d) (hE : E0 n K R) (hT : TR N h M) (hN : NR N) (hfw : FLR X LX n K R N h FI φ) (hI : FI M) (hp : 0 ≤ p ∧ p < N 3) (hl : 0 ≤ lane ∧ lane < N 0) (hy : (0 ≤ y ∧ y ≤ 299) ∧ (0 ≤ x ∧ x ≤ 99)) (hq : WROA N h φ p lane y x (wrv N h φ p lane y x) → ∀ M2, fr [(226, some 29), (226, some 30), (226, some 26), (226, some 17), (226, some 18), (226, some 19), (226, some 20), (226, some 21), (226, some 22), (226, some 23), (235, none), (233, none), (236, none), (237, none)] M M2 → FI M2 → Q (.inl (some (gm_vi (wrv N h φ p lane y x)))) n K R M2) : gm_Wp X LX d bc bs 339 0 (gm_ent 339 [gm_vr 226, gm_vi p, gm_vi lane, gm_vi y, gm_vi x]) [] n K R M Q := by
  refine wr_339 hd hE hT hN hfw hI hp hl hy (fun v hv M2 h1 h2 => ?_)
  have e := wrv_s hv
  rw [← e] at hv ⊢
  exact hq hv M2 h1 h2
theorem cl_wrote (hd : 24 ≤ d) (hbc : 4 ≤ bc) (hbs : 24 ≤ bs) (hE : E0 n K R) (hT : TI N h sp M) (hN : NR N) (hfw : FLW X LX n K R N h sp FI φ) (hI : FI M) (hi : gm_ir p) (hi2 : gm_ir lane) (hi3 : gm_ir y) (hi4 : gm_ir x) (kv : (0 ≤ p ∧ p < N 3) ∧ (0 ≤ lane ∧ lane < N 0) → (0 ≤ y ∧ y ≤ 299) ∧ (0 ≤ x ∧ x ≤ 99) → ∀ M2, Q (.inl (some (gm_vi (wrv N h φ p lane y x)))) n K R M2) (k3 : ¬ ((0 ≤ p ∧ p < N 3) ∧ (0 ≤ lane ∧ lane < N 0)) → Q (.inr 3) n K R M) (k0 : (0 ≤ p ∧ p < N 3) ∧ (0 ≤ lane ∧ lane < N 0) → ¬ ((0 ≤ y ∧ y ≤ 299) ∧ (0 ≤ x ∧ x ≤ 99)) → Q (.inr 0) n K R M) : gm_Wp X LX d bc bs 190 0 (gm_ent 190 [gm_vr 1, gm_vi p, gm_vi lane, gm_vi y, gm_vi x]) [] n K R M Q := by
  obtain ⟨⟨⟨a0, b0⟩, ⟨a1, b1⟩, ⟨a10, b10⟩, ⟨a11, b11⟩, ⟨a12, b12⟩, a9, b9⟩, ⟨⟨a2, b2⟩, ⟨a5, b5⟩, ⟨a3, b3⟩, ⟨a4, b4⟩, ⟨a6, b6⟩, ⟨a14, b14⟩, ⟨a7, b7⟩, a13, b13⟩, rF, rP, rL⟩ := id hN
  refine gm_sz (gm_p_load (pc := 0) (i := .aload_n 0) (sr := 2) (j := 0) (by decide +kernel) rfl rfl rfl) ?_
  refine gm_sz (gm_p_load (pc := 1) (i := .iload_n 1) (sr := 0) (j := 1) (by decide +kernel) rfl rfl rfl) ?_
  refine gm_c_virt (k := 1) (ci := 0) (mj := 139) (ix := 180) (pc := 2) (as := [gm_vi p]) (st := []) (d' := d - 1) (bc' := 1) (bs' := 6) (by decide +kernel) (by decide +kernel) (by decide +kernel) (by decide +kernel) (e0k hE (k := 1) (c := 0) (by decide +kernel)).1 (e0k hE (k := 1) (c := 0) (by decide +kernel)).2 (by decide) (by decide +kernel) (show 1 = gm_na 139 by decide +kernel) (fw_c1 fw_si) (show 2 ≤ gm_ml 139 by decide +kernel) (Nat.le_of_ble_eq_true rfl) (by omega) (by omega) (by omega) ?_
  refine nd_139 (i := p) (by omega) (by omega) (by omega) hE hT hN hi (fun c2 => ?_) (fun c2 => ?_)
  · show gm_Wp X LX d _ _ 190 5 _ [] n K _ _ Q
    have c2 : 0 ≤ p ∧ p < N 3 := c2
    refine gm_sz (gm_p_load (pc := 5) (i := .aload_n 0) (sr := 2) (j := 0) (by decide +kernel) rfl rfl rfl) ?_
    refine gm_sz (gm_p_load (pc := 6) (i := .iload_n 2) (sr := 0) (j := 2) (by decide +kernel) rfl rfl rfl) ?_
    refine gm_c_virt (k := 1) (ci := 0) (mj := 132) (ix := 166) (pc := 7) (as := [gm_vi lane]) (st := []) (d' := d - 1) (bc' := 1) (bs' := 6) (by decide +kernel) (by decide +kernel) (by decide +kernel) (by decide +kernel) (e0k hE (k := 1) (c := 0) (by decide +kernel)).1 (e0k hE (k := 1) (c := 0) (by decide +kernel)).2 (by decide) (by decide +kernel) (show 1 = gm_na 132 by decide +kernel) (fw_c1 fw_si) (show 2 ≤ gm_ml 132 by decide +kernel) (Nat.le_of_ble_eq_true rfl) (by omega) (by omega) (by omega) ?_
    refine nd_132 (i := lane) (by omega) (by omega) (by omega) hE hT hN hi2 (fun c7 => ?_) (fun c7 => ?_)
    · show gm_Wp X LX d _ _ 190 10 _ [] n K _ _ Q
      have c7 : 0 ≤ lane ∧ lane < N 0 := c7
      refine gm_sz (gm_p_load (pc := 10) (i := .aload_n 0) (sr := 2) (j := 0) (by decide +kernel) rfl rfl rfl) ?_
      refine gm_sz (gm_p_load (pc := 11) (i := .iload_n 3) (sr := 0) (j := 3) (by decide +kernel) rfl rfl rfl) ?_
      refine gm_sz (gm_p_load (pc := 12) (i := .iload 4) (sr := 0) (j := 4) (by decide +kernel) rfl rfl rfl) ?_
      refine gm_c_virt (k := 1) (ci := 0) (mj := 187) (ix := 335) (pc := 14) (as := [gm_vi y, gm_vi x]) (st := []) (d' := d - 1) (bc' := 2) (bs' := 12) (by decide +kernel) (by decide +kernel) (by decide +kernel) (by decide +kernel) (e0k hE (k := 1) (c := 0) (by decide +kernel)).1 (e0k hE (k := 1) (c := 0) (by decide +kernel)).2 (by decide) (by decide +kernel) (show 2 = gm_na 187 by decide +kernel) (fw_c2 fw_si fw_si) (show 3 ≤ gm_ml 187 by decide +kernel) (Nat.le_of_ble_eq_true rfl) (by omega) (by omega) (by omega) ?_
      refine nd_187 (x := y) (y := x) (by omega) (by omega) (by omega) (by omega) (by omega) hE hi3 hi4 (fun c14 => ?_) (fun c14 => ?_)
      · show gm_Wp X LX d _ _ 190 17 _ [] n K _ _ Q
        have c14 : (0 ≤ y ∧ y ≤ 299) ∧ (0 ≤ x ∧ x ≤ 99) := c14
        refine gm_sz (gm_p_load (pc := 17) (i := .aload_n 0) (sr := 2) (j := 0) (by decide +kernel) rfl rfl rfl) ?_
        refine gm_sz (gm_p_load (pc := 18) (i := .iload_n 1) (sr := 0) (j := 1) (by decide +kernel) rfl rfl rfl) ?_
        refine gm_sz (gm_p_load (pc := 19) (i := .iload_n 2) (sr := 0) (j := 2) (by decide +kernel) rfl rfl rfl) ?_
        refine gm_sz (gm_p_load (pc := 20) (i := .iload_n 3) (sr := 0) (j := 3) (by decide +kernel) rfl rfl rfl) ?_
        refine gm_sz (gm_p_load (pc := 21) (i := .iload 4) (sr := 0) (j := 4) (by decide +kernel) rfl rfl rfl) ?_
        refine gm_c_virt (k := 1) (ci := 0) (mj := 188) (ix := 338) (pc := 23) (as := [gm_vi p, gm_vi lane, gm_vi y, gm_vi x]) (st := []) (d' := d - 1) (bc' := 0) (bs' := 0) (by decide +kernel) (by decide +kernel) (by decide +kernel) (by decide +kernel) (e0k hE (k := 1) (c := 0) (by decide +kernel)).1 (e0k hE (k := 1) (c := 0) (by decide +kernel)).2 (by decide) (by decide +kernel) (show 4 = gm_na 188 by decide +kernel) (fw_c4 fw_si fw_si fw_si fw_si) (show 5 ≤ gm_ml 188 by decide +kernel) (Nat.le_of_ble_eq_true rfl) (by omega) (Nat.zero_le _) (Nat.zero_le _) ?_
        refine wr_188w (p := p) (lane := lane) (y := y) (x := x) (by omega) hE hT hN hfw hI ⟨by omega, by omega⟩ ⟨by omega, by omega⟩ ⟨⟨by omega, by omega⟩, by omega, by omega⟩ (fun hw88 M48 hf48 hI48 => ?_)
        show gm_Wp X LX d _ _ 190 26 _ [gm_vi (wrv N h φ p lane y x)] n K _ _ Q
        have wb9 := WROA_b hw88 (by omega)
        exact gm_r_int (pc := 26) (by decide +kernel) (Or.inl (by decide +kernel)) (kv ⟨⟨by omega, by omega⟩, by omega, by omega⟩ ⟨⟨by omega, by omega⟩, by omega, by omega⟩ _)
      · show Q (.inr 0) n K _ _
        have c14 : ¬ ((0 ≤ y ∧ y ≤ 299) ∧ (0 ≤ x ∧ x ≤ 99)) := c14
        exact (k0 ⟨⟨by omega, by omega⟩, by omega, by omega⟩ (by omega))
    · show Q (.inr 3) n K _ _
      have c7 : ¬ (0 ≤ lane ∧ lane < N 0) := c7
      exact (k3 (by omega))
  · show Q (.inr 3) n K _ _
    have c2 : ¬ (0 ≤ p ∧ p < N 3) := c2
    exact (k3 (by omega))
theorem re_wrote (hd : 24 ≤ d) (hE : E0 n K R) (hT : TR N h M) (hN : NR N) (hfw : FLR X LX n K R N h FI φ) (hI : FI M) (hi : gm_ir p) (hi2 : gm_ir lane) (hi3 : gm_ir y) (hi4 : gm_ir x) (kv : (0 ≤ p ∧ p < N 3) ∧ (0 ≤ lane ∧ lane < N 0) → (0 ≤ y ∧ y ≤ 299) ∧ (0 ≤ x ∧ x ≤ 99) → ∀ M2, M2 226 0 = 0 → Q (.inl (some (gm_vi (wrv N h φ p lane y x)))) n K R M2) (k1 : ¬ ((0 ≤ p ∧ p < N 3) ∧ (0 ≤ lane ∧ lane < N 0)) → ∀ M2, M2 226 0 = 1 → Q (.inl (some (gm_vi 0))) n K R M2) (k2 : (0 ≤ p ∧ p < N 3) ∧ (0 ≤ lane ∧ lane < N 0) → ¬ ((0 ≤ y ∧ y ≤ 299) ∧ (0 ≤ x ∧ x ≤ 99)) → ∀ M2, M2 226 0 = 2 → Q (.inl (some (gm_vi 0))) n K R M2) : gm_Wp X LX d bc bs 340 0 (gm_ent 340 [gm_vr 226, gm_vi p, gm_vi lane, gm_vi y, gm_vi x]) [] n K R M Q := by
  obtain ⟨⟨⟨a0, b0⟩, ⟨a1, b1⟩, ⟨a10, b10⟩, ⟨a11, b11⟩, ⟨a12, b12⟩, a9, b9⟩, ⟨⟨a2, b2⟩, ⟨a5, b5⟩, ⟨a3, b3⟩, ⟨a4, b4⟩, ⟨a6, b6⟩, ⟨a14, b14⟩, ⟨a7, b7⟩, a13, b13⟩, rF, rP, rL⟩ := id hN
  refine gm_sz (gm_p_load (pc := 0) (i := .aload_n 0) (sr := 2) (j := 0) (by decide +kernel) rfl rfl rfl) ?_
  refine gm_sz (gm_p_const (pc := 1) (i := .iconst 0) (v := gm_vi 0) (by decide +kernel) (by decide +kernel)) ?_
  refine gm_sz (fw_pi (pc := 2) (ix := 3) (ci := 11) (j := 0) (M' := gm_uM M 226 0 0) (by decide +kernel) (e0k hE (k := 226) (c := 11) (by decide +kernel)) (by decide +kernel) (by decide +kernel) (by decide +kernel) rfl) ?_
  refine gm_sz (gm_p_load (pc := 5) (i := .aload_n 0) (sr := 2) (j := 0) (by decide +kernel) rfl rfl rfl) ?_
  refine gm_sz (gm_p_load (pc := 6) (i := .aload_n 0) (sr := 2) (j := 0) (by decide +kernel) rfl rfl rfl) ?_
  refine gm_sz (gm_p_load (pc := 7) (i := .iload_n 1) (sr := 0) (j := 1) (by decide +kernel) rfl rfl rfl) ?_
  refine gm_c_virt (k := 226) (ci := 11) (mj := 298) (ix := 393) (pc := 8) (as := [gm_vi p]) (st := [gm_vr 226]) (d' := d - 1) (bc' := 0) (bs' := 0) (by decide +kernel) (by decide +kernel) (by decide +kernel) (by decide +kernel) (e0k hE (k := 226) (c := 11) (by decide +kernel)).1 (e0k hE (k := 226) (c := 11) (by decide +kernel)).2 (by decide) (by decide +kernel) (show 1 = gm_na 298 by decide +kernel) (fw_c1 fw_si) (show 2 ≤ gm_ml 298 by decide +kernel) (Nat.le_of_ble_eq_true rfl) (by omega) (Nat.zero_le _) (Nat.zero_le _) ?_
  refine no_298 (i := p) (by omega) hE (tr_fr (W := [(226, some 0)]) hT (fr_p fr_0 (Or.inr (by decide))) (by decide)) hN hi (fun n8 => ?_) (fun n8 => ?_)
  · show gm_Wp X LX d _ _ 340 11 _ [gm_vi 1, gm_vr 226] n K _ _ Q
    have n8 : ¬ (0 ≤ p ∧ p < N 3) := n8
    refine fw_iftd (cc := .ne) (pc := 11) (off := 11) (by decide +kernel) (by decide) ⟨by decide, by decide⟩ (by decide) ?_
    refine gm_sz (gm_p_const (pc := 22) (i := .iconst 1) (v := gm_vi 1) (by decide +kernel) (by decide +kernel)) ?_
    refine gm_sz (gm_p_goto (pc := 23) (off := 4) (by decide +kernel) (by decide)) ?_
    refine gm_sz (gm_p_const (pc := 27) (i := .iconst 1) (v := gm_vi 1) (by decide +kernel) (by decide +kernel)) ?_
    refine gm_c_virt (k := 226) (ci := 11) (mj := 282) (ix := 300) (pc := 28) (as := [gm_vi 1, gm_vi 1]) (st := []) (d' := d - 1) (bc' := 0) (bs' := 0) (by decide +kernel) (by decide +kernel) (by decide +kernel) (by decide +kernel) (e0k hE (k := 226) (c := 11) (by decide +kernel)).1 (e0k hE (k := 226) (c := 11) (by decide +kernel)).2 (by decide) (by decide +kernel) (show 2 = gm_na 282 by decide +kernel) (fw_c2 fw_si fw_si) (show 3 ≤ gm_ml 282 by decide +kernel) (Nat.le_of_ble_eq_true rfl) (by omega) (Nat.zero_le _) (Nat.zero_le _) ?_
    refine tf_1 hE ?_
    show gm_Wp X LX d _ _ 340 31 _ [gm_vi 1] n K _ _ Q
    refine fw_iftd (cc := .ne) (pc := 31) (off := 34) (by decide +kernel) (by decide) ⟨by decide, by decide⟩ (by decide) ?_
    refine gm_sz (gm_p_const (pc := 65) (i := .iconst 0) (v := gm_vi 0) (by decide +kernel) (by decide +kernel)) ?_
    exact gm_r_int (pc := 66) (by decide +kernel) (Or.inl (by decide +kernel)) (k1 (by omega) _ uM_at)
  · show gm_Wp X LX d _ _ 340 11 _ [gm_vi 0, gm_vr 226] n K _ _ Q
    have n8 : 0 ≤ p ∧ p < N 3 := n8
    refine fw_iffd (cc := .ne) (pc := 11) (off := 11) (by decide +kernel) (by decide) ⟨by decide, by decide⟩ (by decide) ?_
    refine gm_sz (gm_p_load (pc := 14) (i := .aload_n 0) (sr := 2) (j := 0) (by decide +kernel) rfl rfl rfl) ?_
    refine gm_sz (gm_p_load (pc := 15) (i := .iload_n 2) (sr := 0) (j := 2) (by decide +kernel) rfl rfl rfl) ?_
    refine gm_c_virt (k := 226) (ci := 11) (mj := 288) (ix := 356) (pc := 16) (as := [gm_vi lane]) (st := [gm_vr 226]) (d' := d - 1) (bc' := 0) (bs' := 0) (by decide +kernel) (by decide +kernel) (by decide +kernel) (by decide +kernel) (e0k hE (k := 226) (c := 11) (by decide +kernel)).1 (e0k hE (k := 226) (c := 11) (by decide +kernel)).2 (by decide) (by decide +kernel) (show 1 = gm_na 288 by decide +kernel) (fw_c1 fw_si) (show 2 ≤ gm_ml 288 by decide +kernel) (Nat.le_of_ble_eq_true rfl) (by omega) (Nat.zero_le _) (Nat.zero_le _) ?_
    refine no_288 (i := lane) (by omega) hE (tr_fr (W := [(226, some 0)]) hT (fr_p fr_0 (Or.inr (by decide))) (by decide)) hN hi2 (fun n16 => ?_) (fun n16 => ?_)
    · show gm_Wp X LX d _ _ 340 19 _ [gm_vi 1, gm_vr 226] n K _ _ Q
      have n16 : ¬ (0 ≤ lane ∧ lane < N 0) := n16
      refine fw_iffd (cc := .eq) (pc := 19) (off := 7) (by decide +kernel) (by decide) ⟨by decide, by decide⟩ (by decide) ?_
      refine gm_sz (gm_p_const (pc := 22) (i := .iconst 1) (v := gm_vi 1) (by decide +kernel) (by decide +kernel)) ?_
      refine gm_sz (gm_p_goto (pc := 23) (off := 4) (by decide +kernel) (by decide)) ?_
      refine gm_sz (gm_p_const (pc := 27) (i := .iconst 1) (v := gm_vi 1) (by decide +kernel) (by decide +kernel)) ?_
      refine gm_c_virt (k := 226) (ci := 11) (mj := 282) (ix := 300) (pc := 28) (as := [gm_vi 1, gm_vi 1]) (st := []) (d' := d - 1) (bc' := 0) (bs' := 0) (by decide +kernel) (by decide +kernel) (by decide +kernel) (by decide +kernel) (e0k hE (k := 226) (c := 11) (by decide +kernel)).1 (e0k hE (k := 226) (c := 11) (by decide +kernel)).2 (by decide) (by decide +kernel) (show 2 = gm_na 282 by decide +kernel) (fw_c2 fw_si fw_si) (show 3 ≤ gm_ml 282 by decide +kernel) (Nat.le_of_ble_eq_true rfl) (by omega) (Nat.zero_le _) (Nat.zero_le _) ?_
      refine tf_1 hE ?_
      show gm_Wp X LX d _ _ 340 31 _ [gm_vi 1] n K _ _ Q
      refine fw_iftd (cc := .ne) (pc := 31) (off := 34) (by decide +kernel) (by decide) ⟨by decide, by decide⟩ (by decide) ?_
      refine gm_sz (gm_p_const (pc := 65) (i := .iconst 0) (v := gm_vi 0) (by decide +kernel) (by decide +kernel)) ?_
      exact gm_r_int (pc := 66) (by decide +kernel) (Or.inl (by decide +kernel)) (k1 (by omega) _ uM_at)
    · show gm_Wp X LX d _ _ 340 19 _ [gm_vi 0, gm_vr 226] n K _ _ Q
      have n16 : 0 ≤ lane ∧ lane < N 0 := n16
      refine fw_iftd (cc := .eq) (pc := 19) (off := 7) (by decide +kernel) (by decide) ⟨by decide, by decide⟩ (by decide) ?_
      refine gm_sz (gm_p_const (pc := 26) (i := .iconst 0) (v := gm_vi 0) (by decide +kernel) (by decide +kernel)) ?_
      refine gm_sz (gm_p_const (pc := 27) (i := .iconst 1) (v := gm_vi 1) (by decide +kernel) (by decide +kernel)) ?_
      refine gm_c_virt (k := 226) (ci := 11) (mj := 282) (ix := 300) (pc := 28) (as := [gm_vi 0, gm_vi 1]) (st := []) (d' := d - 1) (bc' := 0) (bs' := 0) (by decide +kernel) (by decide +kernel) (by decide +kernel) (by decide +kernel) (e0k hE (k := 226) (c := 11) (by decide +kernel)).1 (e0k hE (k := 226) (c := 11) (by decide +kernel)).2 (by decide) (by decide +kernel) (show 2 = gm_na 282 by decide +kernel) (fw_c2 fw_si fw_si) (show 3 ≤ gm_ml 282 by decide +kernel) (Nat.le_of_ble_eq_true rfl) (by omega) (Nat.zero_le _) (Nat.zero_le _) ?_
      refine tf_0 hE ?_
      show gm_Wp X LX d _ _ 340 31 _ [gm_vi 0] n K _ _ Q
      refine fw_iffd (cc := .ne) (pc := 31) (off := 34) (by decide +kernel) (by decide) ⟨by decide, by decide⟩ (by decide) ?_
      refine gm_sz (gm_p_load (pc := 34) (i := .aload_n 0) (sr := 2) (j := 0) (by decide +kernel) rfl rfl rfl) ?_
      refine gm_sz (gm_p_load (pc := 35) (i := .iload_n 3) (sr := 0) (j := 3) (by decide +kernel) rfl rfl rfl) ?_
      refine gm_c_stat (mj := 285) (ix := 353) (pc := 36) (as := [gm_vi y]) (st := [gm_vr 226]) (d' := d - 1) (bc' := 0) (bs' := 0) (by decide +kernel) (by decide +kernel) (by decide +kernel) (by decide +kernel) (show 1 = gm_na 285 by decide +kernel) (fw_c1 fw_si) (show 1 ≤ gm_ml 285 by decide +kernel) (Nat.le_of_ble_eq_true rfl) (by omega) (Nat.zero_le _) (Nat.zero_le _) ?_
      refine no_285 (i := y) (by omega) hi3 (fun n36 => ?_) (fun n36 => ?_)
      · show gm_Wp X LX d _ _ 340 39 _ [gm_vi 1, gm_vr 226] n K _ _ Q
        have n36 : ¬ (0 ≤ y ∧ y ≤ 299) := n36
        refine fw_iftd (cc := .ne) (pc := 39) (off := 14) (by decide +kernel) (by decide) ⟨by decide, by decide⟩ (by decide) ?_
        refine gm_sz (gm_p_const (pc := 53) (i := .iconst 1) (v := gm_vi 1) (by decide +kernel) (by decide +kernel)) ?_
        refine gm_sz (gm_p_goto (pc := 54) (off := 4) (by decide +kernel) (by decide)) ?_
        refine gm_sz (gm_p_const (pc := 58) (i := .iconst 2) (v := gm_vi 2) (by decide +kernel) (by decide +kernel)) ?_
        refine gm_c_virt (k := 226) (ci := 11) (mj := 282) (ix := 300) (pc := 59) (as := [gm_vi 1, gm_vi 2]) (st := []) (d' := d - 1) (bc' := 0) (bs' := 0) (by decide +kernel) (by decide +kernel) (by decide +kernel) (by decide +kernel) (e0k hE (k := 226) (c := 11) (by decide +kernel)).1 (e0k hE (k := 226) (c := 11) (by decide +kernel)).2 (by decide) (by decide +kernel) (show 2 = gm_na 282 by decide +kernel) (fw_c2 fw_si fw_si) (show 3 ≤ gm_ml 282 by decide +kernel) (Nat.le_of_ble_eq_true rfl) (by omega) (Nat.zero_le _) (Nat.zero_le _) ?_
        refine tf_1 hE ?_
        show gm_Wp X LX d _ _ 340 62 _ [gm_vi 1] n K _ _ Q
        refine fw_iffd (cc := .eq) (pc := 62) (off := 5) (by decide +kernel) (by decide) ⟨by decide, by decide⟩ (by decide) ?_
        refine gm_sz (gm_p_const (pc := 65) (i := .iconst 0) (v := gm_vi 0) (by decide +kernel) (by decide +kernel)) ?_
        exact gm_r_int (pc := 66) (by decide +kernel) (Or.inl (by decide +kernel)) (k2 ⟨⟨by omega, by omega⟩, by omega, by omega⟩ (by omega) _ uM_at)
      · show gm_Wp X LX d _ _ 340 39 _ [gm_vi 0, gm_vr 226] n K _ _ Q
        have n36 : 0 ≤ y ∧ y ≤ 299 := n36
        refine fw_iffd (cc := .ne) (pc := 39) (off := 14) (by decide +kernel) (by decide) ⟨by decide, by decide⟩ (by decide) ?_
        refine gm_sz (gm_p_load (pc := 42) (i := .iload 4) (sr := 0) (j := 4) (by decide +kernel) rfl rfl rfl) ?_
        refine gm_sz (gm_p_const (pc := 44) (i := .iconst 0) (v := gm_vi 0) (by decide +kernel) (by decide +kernel)) ?_
        refine gm_sz (gm_p_const (pc := 45) (i := .bipush 99) (v := gm_vi 99) (by decide +kernel) (by decide +kernel)) ?_
        refine gm_c_stat (mj := 286) (ix := 90) (pc := 47) (as := [gm_vi x, gm_vi 0, gm_vi 99]) (st := [gm_vr 226]) (d' := d - 1) (bc' := 0) (bs' := 0) (by decide +kernel) (by decide +kernel) (by decide +kernel) (by decide +kernel) (show 3 = gm_na 286 by decide +kernel) (fw_c3 fw_si fw_si fw_si) (show 3 ≤ gm_ml 286 by decide +kernel) (Nat.le_of_ble_eq_true rfl) (by omega) (Nat.zero_le _) (Nat.zero_le _) ?_
        refine in_286 (x := x) (y := 0) (z := 99) hi4 ⟨by decide, by decide⟩ ⟨by decide, by decide⟩ (fun k47a k47 => ?_) (fun k47 => ?_)
        · show gm_Wp X LX d _ _ 340 50 _ [gm_vi 1, gm_vr 226] n K _ _ Q
          have k47a : 0 ≤ x := k47a
          have k47 : x ≤ 99 := k47
          refine fw_iftd (cc := .ne) (pc := 50) (off := 7) (by decide +kernel) (by decide) ⟨by decide, by decide⟩ (by decide) ?_
          refine gm_sz (gm_p_const (pc := 57) (i := .iconst 0) (v := gm_vi 0) (by decide +kernel) (by decide +kernel)) ?_
          refine gm_sz (gm_p_const (pc := 58) (i := .iconst 2) (v := gm_vi 2) (by decide +kernel) (by decide +kernel)) ?_
          refine gm_c_virt (k := 226) (ci := 11) (mj := 282) (ix := 300) (pc := 59) (as := [gm_vi 0, gm_vi 2]) (st := []) (d' := d - 1) (bc' := 0) (bs' := 0) (by decide +kernel) (by decide +kernel) (by decide +kernel) (by decide +kernel) (e0k hE (k := 226) (c := 11) (by decide +kernel)).1 (e0k hE (k := 226) (c := 11) (by decide +kernel)).2 (by decide) (by decide +kernel) (show 2 = gm_na 282 by decide +kernel) (fw_c2 fw_si fw_si) (show 3 ≤ gm_ml 282 by decide +kernel) (Nat.le_of_ble_eq_true rfl) (by omega) (Nat.zero_le _) (Nat.zero_le _) ?_
          refine tf_0 hE ?_
          show gm_Wp X LX d _ _ 340 62 _ [gm_vi 0] n K _ _ Q
          refine fw_iftd (cc := .eq) (pc := 62) (off := 5) (by decide +kernel) (by decide) ⟨by decide, by decide⟩ (by decide) ?_
          refine gm_sz (gm_p_load (pc := 67) (i := .aload_n 0) (sr := 2) (j := 0) (by decide +kernel) rfl rfl rfl) ?_
          refine gm_sz (gm_p_load (pc := 68) (i := .iload_n 1) (sr := 0) (j := 1) (by decide +kernel) rfl rfl rfl) ?_
          refine gm_sz (gm_p_load (pc := 69) (i := .iload_n 2) (sr := 0) (j := 2) (by decide +kernel) rfl rfl rfl) ?_
          refine gm_sz (gm_p_load (pc := 70) (i := .iload_n 3) (sr := 0) (j := 3) (by decide +kernel) rfl rfl rfl) ?_
          refine gm_sz (gm_p_load (pc := 71) (i := .iload 4) (sr := 0) (j := 4) (by decide +kernel) rfl rfl rfl) ?_
          refine gm_c_virt (k := 226) (ci := 11) (mj := 339) (ix := 444) (pc := 73) (as := [gm_vi p, gm_vi lane, gm_vi y, gm_vi x]) (st := []) (d' := d - 1) (bc' := 0) (bs' := 0) (by decide +kernel) (by decide +kernel) (by decide +kernel) (by decide +kernel) (e0k hE (k := 226) (c := 11) (by decide +kernel)).1 (e0k hE (k := 226) (c := 11) (by decide +kernel)).2 (by decide) (by decide +kernel) (show 4 = gm_na 339 by decide +kernel) (fw_c4 fw_si fw_si fw_si fw_si) (show 5 ≤ gm_ml 339 by decide +kernel) (Nat.le_of_ble_eq_true rfl) (by omega) (Nat.zero_le _) (Nat.zero_le _) ?_
          refine wr_339w (p := p) (lane := lane) (y := y) (x := x) (by omega) hE (tr_fr (W := [(226, some 0)]) hT (fr_p fr_0 (Or.inr (by decide))) (by decide)) hN hfw (hfw.2.1 [(226, some 0)] _ _ (by decide) (fr_p fr_0 (Or.inr (by decide))) hI) ⟨by omega, by omega⟩ ⟨by omega, by omega⟩ ⟨⟨by omega, by omega⟩, by omega, by omega⟩ (fun hw88 M48 hf48 hI48 => ?_)
          show gm_Wp X LX d _ _ 340 76 _ [gm_vi (wrv N h φ p lane y x)] n K _ _ Q
          have wb9 := WROA_b hw88 (by omega)
          exact gm_r_int (pc := 76) (by decide +kernel) (Or.inl (by decide +kernel)) (kv ⟨⟨by omega, by omega⟩, by omega, by omega⟩ ⟨⟨by omega, by omega⟩, by omega, by omega⟩ _ ((fr_j hf48 (by decide)).trans uM_at))
        · show gm_Wp X LX d _ _ 340 50 _ [gm_vi 0, gm_vr 226] n K _ _ Q
          have k47 : ¬ (0 ≤ x ∧ x ≤ 99) := k47
          refine fw_iffd (cc := .ne) (pc := 50) (off := 7) (by decide +kernel) (by decide) ⟨by decide, by decide⟩ (by decide) ?_
          refine gm_sz (gm_p_const (pc := 53) (i := .iconst 1) (v := gm_vi 1) (by decide +kernel) (by decide +kernel)) ?_
          refine gm_sz (gm_p_goto (pc := 54) (off := 4) (by decide +kernel) (by decide)) ?_
          refine gm_sz (gm_p_const (pc := 58) (i := .iconst 2) (v := gm_vi 2) (by decide +kernel) (by decide +kernel)) ?_
          refine gm_c_virt (k := 226) (ci := 11) (mj := 282) (ix := 300) (pc := 59) (as := [gm_vi 1, gm_vi 2]) (st := []) (d' := d - 1) (bc' := 0) (bs' := 0) (by decide +kernel) (by decide +kernel) (by decide +kernel) (by decide +kernel) (e0k hE (k := 226) (c := 11) (by decide +kernel)).1 (e0k hE (k := 226) (c := 11) (by decide +kernel)).2 (by decide) (by decide +kernel) (show 2 = gm_na 282 by decide +kernel) (fw_c2 fw_si fw_si) (show 3 ≤ gm_ml 282 by decide +kernel) (Nat.le_of_ble_eq_true rfl) (by omega) (Nat.zero_le _) (Nat.zero_le _) ?_
          refine tf_1 hE ?_
          show gm_Wp X LX d _ _ 340 62 _ [gm_vi 1] n K _ _ Q
          refine fw_iffd (cc := .eq) (pc := 62) (off := 5) (by decide +kernel) (by decide) ⟨by decide, by decide⟩ (by decide) ?_
          refine gm_sz (gm_p_const (pc := 65) (i := .iconst 0) (v := gm_vi 0) (by decide +kernel) (by decide +kernel)) ?_
          exact gm_r_int (pc := 66) (by decide +kernel) (Or.inl (by decide +kernel)) (k2 ⟨⟨by omega, by omega⟩, by omega, by omega⟩ (by omega) _ uM_at)
theorem ws_c (hd : 24 ≤ d) (hE : E0 n K R) (hT : TI N h sp M) (hN : NR N) (hfw : FLW X LX n K R N h sp FI φ) (hI : FI M) (hl : 0 ≤ lane ∧ lane < N 0) (hy : (0 ≤ y ∧ y ≤ 299) ∧ (0 ≤ x ∧ x ≤ 99)) (hq : ∀ M2, Q (.inl (some (gm_vi (bts (fun p => ¬ wrv N h φ p lane y x = -1) (N 3).toNat)))) n K R M2) : ∀ (u k : Nat) (M1 : gm_M), (k : Int) + (u : Int) = N 3 → fr [(206, some 2), (206, some 3), (206, some 4), (206, some 5), (206, some 6), (206, some 7), (206, some 8), (200, some 6), (204, none), (205, none)] M M1 → FI M1 → gm_Wp X LX d bc bs 186 17 [some (gm_vr 1), some (gm_vi lane), some (gm_vi y), some (gm_vi x), some (gm_vi (bts (fun p => ¬ wrv N h φ p lane y x = -1) k)), some (gm_vi (k : Int))] [] n K R M1 Q := by
  obtain ⟨⟨⟨a0, b0⟩, ⟨a1, b1⟩, ⟨a10, b10⟩, ⟨a11, b11⟩, ⟨a12, b12⟩, a9, b9⟩, ⟨⟨a2, b2⟩, ⟨a5, b5⟩, ⟨a3, b3⟩, ⟨a4, b4⟩, ⟨a6, b6⟩, ⟨a14, b14⟩, ⟨a7, b7⟩, a13, b13⟩, rF, rP, rL⟩ := id hN
  intro u
  induction u with
  | zero =>
    intro k M1 hk hf hI1
    have ek : k = (N 3).toNat := by omega
    have hb9 := bts_ir (p := (fun p => ¬ wrv N h φ p lane y x = -1)) k
    refine gm_sz (gm_p_load (pc := 17) (i := .iload 5) (sr := 0) (j := 5) (by decide +kernel) rfl rfl rfl) ?_
    refine gm_sz (gm_p_load (pc := 19) (i := .aload_n 0) (sr := 2) (j := 0) (by decide +kernel) rfl rfl rfl) ?_
    refine gm_sz (fw_gr (pc := 20) (ix := 23) (ci := 0) (j := 3) (r := 3) (by decide +kernel) (e0k hE (k := 1) (c := 0) (by decide +kernel)) (by decide +kernel) (by decide +kernel) (e0r hE (k := 1) (j := 3) (r := 3) (by decide +kernel))) ?_
    refine gm_sz (fw_gr (pc := 23) (ix := 183) (ci := 1) (j := 11) (r := 8) (by decide +kernel) (e0k hE (k := 3) (c := 1) (by decide +kernel)) (by decide +kernel) (by decide +kernel) (e0r hE (k := 3) (j := 11) (r := 8) (by decide +kernel))) ?_
    refine gm_c_virt (k := 8) (ci := 2) (mj := 9) (ix := 277) (pc := 26) (as := []) (st := [gm_vi (k : Int)]) (d' := d - 1) (bc' := 0) (bs' := 0) (by decide +kernel) (by decide +kernel) (by decide +kernel) (by decide +kernel) (e0k hE (k := 8) (c := 2) (by decide +kernel)).1 (e0k hE (k := 8) (c := 2) (by decide +kernel)).2 (by decide) (by decide +kernel) (show 0 = gm_na 9 by decide +kernel) fw_c0 (show 1 ≤ gm_ml 9 by decide +kernel) (Nat.le_of_ble_eq_true rfl) (by omega) (Nat.zero_le _) (Nat.zero_le _) ?_
    refine rw_size (s := N 3) (e0k hE (k := 8) (c := 2) (by decide +kernel)) ((fr_c hf (by decide)).trans (ti_peo hT)) ?_
    show gm_Wp X LX d _ _ 186 29 _ [gm_vi (N 3), gm_vi (k : Int)] n K _ _ Q
    refine fw_ict (cc := .ge) (pc := 29) (off := 31) (by decide +kernel) (by decide) ⟨by omega, by omega⟩ ⟨by omega, by omega⟩ (show (N 3) ≤ (k : Int) by omega) ?_
    refine gm_sz (gm_p_load (pc := 60) (i := .iload 4) (sr := 0) (j := 4) (by decide +kernel) rfl rfl rfl) ?_
    have h9 : Q (.inl (some (gm_vi (bts (fun p => ¬ wrv N h φ p lane y x = -1) k)))) n K R M1 := by rw [ek]; exact hq _
    exact gm_r_int (pc := 62) (by decide +kernel) (Or.inl (by decide +kernel)) h9
  | succ u ih =>
    intro k M1 hk hf hI1
    have hb9 := bts_ir (p := (fun p => ¬ wrv N h φ p lane y x = -1)) k
    refine gm_sz (gm_p_load (pc := 17) (i := .iload 5) (sr := 0) (j := 5) (by decide +kernel) rfl rfl rfl) ?_
    refine gm_sz (gm_p_load (pc := 19) (i := .aload_n 0) (sr := 2) (j := 0) (by decide +kernel) rfl rfl rfl) ?_
    refine gm_sz (fw_gr (pc := 20) (ix := 23) (ci := 0) (j := 3) (r := 3) (by decide +kernel) (e0k hE (k := 1) (c := 0) (by decide +kernel)) (by decide +kernel) (by decide +kernel) (e0r hE (k := 1) (j := 3) (r := 3) (by decide +kernel))) ?_
    refine gm_sz (fw_gr (pc := 23) (ix := 183) (ci := 1) (j := 11) (r := 8) (by decide +kernel) (e0k hE (k := 3) (c := 1) (by decide +kernel)) (by decide +kernel) (by decide +kernel) (e0r hE (k := 3) (j := 11) (r := 8) (by decide +kernel))) ?_
    refine gm_c_virt (k := 8) (ci := 2) (mj := 9) (ix := 277) (pc := 26) (as := []) (st := [gm_vi (k : Int)]) (d' := d - 1) (bc' := 0) (bs' := 0) (by decide +kernel) (by decide +kernel) (by decide +kernel) (by decide +kernel) (e0k hE (k := 8) (c := 2) (by decide +kernel)).1 (e0k hE (k := 8) (c := 2) (by decide +kernel)).2 (by decide) (by decide +kernel) (show 0 = gm_na 9 by decide +kernel) fw_c0 (show 1 ≤ gm_ml 9 by decide +kernel) (Nat.le_of_ble_eq_true rfl) (by omega) (Nat.zero_le _) (Nat.zero_le _) ?_
    refine rw_size (s := N 3) (e0k hE (k := 8) (c := 2) (by decide +kernel)) ((fr_c hf (by decide)).trans (ti_peo hT)) ?_
    show gm_Wp X LX d _ _ 186 29 _ [gm_vi (N 3), gm_vi (k : Int)] n K _ _ Q
    refine fw_icf (cc := .ge) (pc := 29) (off := 31) (by decide +kernel) (by decide) ⟨by omega, by omega⟩ ⟨by omega, by omega⟩ (show ¬ (N 3) ≤ (k : Int) by omega) ?_
    refine gm_sz (gm_p_load (pc := 32) (i := .aload_n 0) (sr := 2) (j := 0) (by decide +kernel) rfl rfl rfl) ?_
    refine gm_sz (gm_p_load (pc := 33) (i := .iload 5) (sr := 0) (j := 5) (by decide +kernel) rfl rfl rfl) ?_
    refine gm_sz (gm_p_load (pc := 35) (i := .iload_n 1) (sr := 0) (j := 1) (by decide +kernel) rfl rfl rfl) ?_
    refine gm_sz (gm_p_load (pc := 36) (i := .iload_n 2) (sr := 0) (j := 2) (by decide +kernel) rfl rfl rfl) ?_
    refine gm_sz (gm_p_load (pc := 37) (i := .iload_n 3) (sr := 0) (j := 3) (by decide +kernel) rfl rfl rfl) ?_
    refine gm_c_virt (k := 1) (ci := 0) (mj := 188) (ix := 338) (pc := 38) (as := [gm_vi (k : Int), gm_vi lane, gm_vi y, gm_vi x]) (st := []) (d' := d - 1) (bc' := 0) (bs' := 0) (by decide +kernel) (by decide +kernel) (by decide +kernel) (by decide +kernel) (e0k hE (k := 1) (c := 0) (by decide +kernel)).1 (e0k hE (k := 1) (c := 0) (by decide +kernel)).2 (by decide) (by decide +kernel) (show 4 = gm_na 188 by decide +kernel) (fw_c4 fw_si fw_si fw_si fw_si) (show 5 ≤ gm_ml 188 by decide +kernel) (Nat.le_of_ble_eq_true rfl) (by omega) (Nat.zero_le _) (Nat.zero_le _) ?_
    refine wr_188w (p := (k : Int)) (lane := lane) (y := y) (x := x) (by omega) hE (ti_fr (W := [(206, some 2), (206, some 3), (206, some 4), (206, some 5), (206, some 6), (206, some 7), (206, some 8), (200, some 6), (204, none), (205, none)]) hT (fr_t fr_0 hf (by decide)) (by decide) (by decide +kernel)) hN hfw hI1 ⟨by omega, by omega⟩ ⟨by omega, by omega⟩ ⟨⟨by omega, by omega⟩, by omega, by omega⟩ (fun hw88 M48 hf48 hI48 => ?_)
    show gm_Wp X LX d _ _ 186 41 _ [gm_vi (wrv N h φ (k : Int) lane y x)] n K _ _ Q
    have wb9 := WROA_b hw88 (by omega)
    refine gm_sz (gm_p_const (pc := 41) (i := .iconst (-1)) (v := gm_vi (-1)) (by decide +kernel) (by decide +kernel)) ?_
    refine fw_ic (cc := .eq) (pc := 42) (off := 12) (by decide +kernel) (by decide) ⟨by omega, by omega⟩ ⟨by decide, by decide⟩ (fun h42 => ?_) (fun h42 => ?_)
    · have h42 : (wrv N h φ (k : Int) lane y x) = (-1) := h42
      refine gm_sz (gm_p_iinc (pc := 54) (j := 5) (z := 1) (by decide +kernel) rfl) ?_
      refine gm_sz (gm_p_goto (pc := 57) (off := (-40)) (by decide +kernel) (by decide)) ?_
      have e8 : ((k + 1 : Nat) : Int) = (k : Int) + 1 := by omega
      have e9 : bts (fun p => ¬ wrv N h φ p lane y x = -1) (k + 1) = bts (fun p => ¬ wrv N h φ p lane y x = -1) k := bts_f (p := (fun p => ¬ wrv N h φ p lane y x = -1)) (show ¬ (¬ wrv N h φ (k : Int) lane y x = -1) from by omega)
      have h9 := ih (k + 1) _ (by omega) (fr_t (fr_t fr_0 hf (by decide)) hf48 (by decide)) hI48
      rw [e9, e8] at h9
      exact h9
    · have h42 : ¬ (wrv N h φ (k : Int) lane y x) = (-1) := h42
      refine gm_sz (gm_p_load (pc := 45) (i := .iload 4) (sr := 0) (j := 4) (by decide +kernel) rfl rfl rfl) ?_
      refine gm_sz (gm_p_const (pc := 47) (i := .iconst 1) (v := gm_vi 1) (by decide +kernel) (by decide +kernel)) ?_
      refine gm_sz (gm_p_load (pc := 48) (i := .iload 5) (sr := 0) (j := 5) (by decide +kernel) rfl rfl rfl) ?_
      refine gm_sz (gm_p_bin (pc := 50) (i := .ishl) (f := gm_shl) (by decide +kernel) rfl) ?_
      refine gm_sz (gm_p_bin (pc := 51) (i := .ior) (f := gm_or) (by decide +kernel) rfl) ?_
      refine gm_sz (gm_p_stor (pc := 52) (i := .istore 4) (sr := 0) (j := 4) (by decide +kernel) rfl (show 5 ≤ _ from Nat.le_of_ble_eq_true rfl) rfl) ?_
      refine gm_sz (gm_p_iinc (pc := 54) (j := 5) (z := 1) (by decide +kernel) rfl) ?_
      refine gm_sz (gm_p_goto (pc := 57) (off := (-40)) (by decide +kernel) (by decide)) ?_
      have e8 : ((k + 1 : Nat) : Int) = (k : Int) + 1 := by omega
      have e9 : bts (fun p => ¬ wrv N h φ p lane y x = -1) (k + 1) = gm_or (bts (fun p => ¬ wrv N h φ p lane y x = -1) k) (gm_shl 1 (k : Int)) := bts_t (p := (fun p => ¬ wrv N h φ p lane y x = -1)) (show ¬ wrv N h φ (k : Int) lane y x = -1 from by omega)
      have h9 := ih (k + 1) _ (by omega) (fr_t (fr_t fr_0 hf (by decide)) hf48 (by decide)) hI48
      rw [e9, e8] at h9
      exact h9
theorem re_peo65 (hE : E0 n K R) (hT : TR N h M) (hN : NR N) (hq : Q (.inl (some (gm_vi (N 3)))) n K R M) : gm_Wp X LX d bc bs 253 0 (gm_ent 253 [gm_vr 226]) [] n K R M Q := by
  obtain ⟨⟨⟨a0, b0⟩, ⟨a1, b1⟩, ⟨a10, b10⟩, ⟨a11, b11⟩, ⟨a12, b12⟩, a9, b9⟩, ⟨⟨a2, b2⟩, ⟨a5, b5⟩, ⟨a3, b3⟩, ⟨a4, b4⟩, ⟨a6, b6⟩, ⟨a14, b14⟩, ⟨a7, b7⟩, a13, b13⟩, rF, rP, rL⟩ := id hN
  refine gm_sz (gm_p_load (pc := 0) (i := .aload_n 0) (sr := 2) (j := 0) (by decide +kernel) rfl rfl rfl) ?_
  refine gm_sz (fw_gr (pc := 1) (ix := 13) (ci := 11) (j := 1) (r := 227) (by decide +kernel) (e0k hE (k := 226) (c := 11) (by decide +kernel)) (by decide +kernel) (by decide +kernel) (e0r hE (k := 226) (j := 1) (r := 227) (by decide +kernel))) ?_
  refine gm_sz (gm_p_const (pc := 4) (i := .iconst 3) (v := gm_vi 3) (by decide +kernel) (by decide +kernel)) ?_
  refine gm_sz (fw_ia (pc := 5) (k := 227) (len := 2093) (e0 := 3) (x := N 3) (by decide +kernel) (e0a hE (k := 227) (q := (0, 2093)) (by decide +kernel)).1 (e0a hE (k := 227) (q := (0, 2093)) (by decide +kernel)).2 (by decide) ⟨by omega, by omega⟩ (tr_w hT (by decide) (by decide) (by decide))) ?_
  exact gm_r_int (pc := 6) (by decide +kernel) (Or.inl (by decide +kernel)) hq
theorem ws_r (hd : 24 ≤ d) (hE : E0 n K R) (hT : TR N h M) (hN : NR N) (hfw : FLR X LX n K R N h FI φ) (hI : FI M) (hl : 0 ≤ lane ∧ lane < N 0) (hy : (0 ≤ y ∧ y ≤ 299) ∧ (0 ≤ x ∧ x ≤ 99)) (h0 : M 226 0 = 0) (hq : ∀ M2, M2 226 0 = 0 → Q (.inl (some (gm_vi (bts (fun p => ¬ wrv N h φ p lane y x = -1) (N 3).toNat)))) n K R M2) : ∀ (u k : Nat) (M1 : gm_M), (k : Int) + (u : Int) = N 3 → fr [(226, some 29), (226, some 30), (226, some 26), (226, some 17), (226, some 18), (226, some 19), (226, some 20), (226, some 21), (226, some 22), (226, some 23), (235, none), (233, none), (236, none), (237, none)] M M1 → FI M1 → gm_Wp X LX d bc bs 338 56 [some (gm_vr 226), some (gm_vi lane), some (gm_vi y), some (gm_vi x), some (gm_vi (bts (fun p => ¬ wrv N h φ p lane y x = -1) k)), some (gm_vi (k : Int))] [] n K R M1 Q := by
  obtain ⟨⟨⟨a0, b0⟩, ⟨a1, b1⟩, ⟨a10, b10⟩, ⟨a11, b11⟩, ⟨a12, b12⟩, a9, b9⟩, ⟨⟨a2, b2⟩, ⟨a5, b5⟩, ⟨a3, b3⟩, ⟨a4, b4⟩, ⟨a6, b6⟩, ⟨a14, b14⟩, ⟨a7, b7⟩, a13, b13⟩, rF, rP, rL⟩ := id hN
  intro u
  induction u with
  | zero =>
    intro k M1 hk hf hI1
    have ek : k = (N 3).toNat := by omega
    have hb9 := bts_ir (p := (fun p => ¬ wrv N h φ p lane y x = -1)) k
    refine gm_sz (gm_p_load (pc := 56) (i := .iload 5) (sr := 0) (j := 5) (by decide +kernel) rfl rfl rfl) ?_
    refine gm_sz (gm_p_load (pc := 58) (i := .aload_n 0) (sr := 2) (j := 0) (by decide +kernel) rfl rfl rfl) ?_
    refine gm_c_virt (k := 226) (ci := 11) (mj := 253) (ix := 97) (pc := 59) (as := []) (st := [gm_vi (k : Int)]) (d' := d - 1) (bc' := 0) (bs' := 0) (by decide +kernel) (by decide +kernel) (by decide +kernel) (by decide +kernel) (e0k hE (k := 226) (c := 11) (by decide +kernel)).1 (e0k hE (k := 226) (c := 11) (by decide +kernel)).2 (by decide) (by decide +kernel) (show 0 = gm_na 253 by decide +kernel) fw_c0 (show 1 ≤ gm_ml 253 by decide +kernel) (Nat.le_of_ble_eq_true rfl) (by omega) (Nat.zero_le _) (Nat.zero_le _) ?_
    refine re_peo65 hE (tr_fr (W := [(226, some 29), (226, some 30), (226, some 26), (226, some 17), (226, some 18), (226, some 19), (226, some 20), (226, some 21), (226, some 22), (226, some 23), (235, none), (233, none), (236, none), (237, none)]) hT (fr_t fr_0 hf (by decide)) (by decide)) hN ?_
    show gm_Wp X LX d _ _ 338 62 _ [gm_vi (N 3), gm_vi (k : Int)] n K _ _ Q
    refine fw_ict (cc := .ge) (pc := 62) (off := 34) (by decide +kernel) (by decide) ⟨by omega, by omega⟩ ⟨by omega, by omega⟩ (show (N 3) ≤ (k : Int) by omega) ?_
    refine gm_sz (gm_p_load (pc := 96) (i := .iload 4) (sr := 0) (j := 4) (by decide +kernel) rfl rfl rfl) ?_
    have h9 : Q (.inl (some (gm_vi (bts (fun p => ¬ wrv N h φ p lane y x = -1) k)))) n K R M1 := by rw [ek]; exact hq _ ((fr_j hf (by decide)).trans h0)
    exact gm_r_int (pc := 98) (by decide +kernel) (Or.inl (by decide +kernel)) h9
  | succ u ih =>
    intro k M1 hk hf hI1
    have hb9 := bts_ir (p := (fun p => ¬ wrv N h φ p lane y x = -1)) k
    refine gm_sz (gm_p_load (pc := 56) (i := .iload 5) (sr := 0) (j := 5) (by decide +kernel) rfl rfl rfl) ?_
    refine gm_sz (gm_p_load (pc := 58) (i := .aload_n 0) (sr := 2) (j := 0) (by decide +kernel) rfl rfl rfl) ?_
    refine gm_c_virt (k := 226) (ci := 11) (mj := 253) (ix := 97) (pc := 59) (as := []) (st := [gm_vi (k : Int)]) (d' := d - 1) (bc' := 0) (bs' := 0) (by decide +kernel) (by decide +kernel) (by decide +kernel) (by decide +kernel) (e0k hE (k := 226) (c := 11) (by decide +kernel)).1 (e0k hE (k := 226) (c := 11) (by decide +kernel)).2 (by decide) (by decide +kernel) (show 0 = gm_na 253 by decide +kernel) fw_c0 (show 1 ≤ gm_ml 253 by decide +kernel) (Nat.le_of_ble_eq_true rfl) (by omega) (Nat.zero_le _) (Nat.zero_le _) ?_
    refine re_peo65 hE (tr_fr (W := [(226, some 29), (226, some 30), (226, some 26), (226, some 17), (226, some 18), (226, some 19), (226, some 20), (226, some 21), (226, some 22), (226, some 23), (235, none), (233, none), (236, none), (237, none)]) hT (fr_t fr_0 hf (by decide)) (by decide)) hN ?_
    show gm_Wp X LX d _ _ 338 62 _ [gm_vi (N 3), gm_vi (k : Int)] n K _ _ Q
    refine fw_icf (cc := .ge) (pc := 62) (off := 34) (by decide +kernel) (by decide) ⟨by omega, by omega⟩ ⟨by omega, by omega⟩ (show ¬ (N 3) ≤ (k : Int) by omega) ?_
    refine gm_sz (gm_p_load (pc := 65) (i := .iload 4) (sr := 0) (j := 4) (by decide +kernel) rfl rfl rfl) ?_
    refine gm_sz (gm_p_load (pc := 67) (i := .aload_n 0) (sr := 2) (j := 0) (by decide +kernel) rfl rfl rfl) ?_
    refine gm_sz (gm_p_load (pc := 68) (i := .iload 5) (sr := 0) (j := 5) (by decide +kernel) rfl rfl rfl) ?_
    refine gm_sz (gm_p_load (pc := 70) (i := .iload_n 1) (sr := 0) (j := 1) (by decide +kernel) rfl rfl rfl) ?_
    refine gm_sz (gm_p_load (pc := 71) (i := .iload_n 2) (sr := 0) (j := 2) (by decide +kernel) rfl rfl rfl) ?_
    refine gm_sz (gm_p_load (pc := 72) (i := .iload_n 3) (sr := 0) (j := 3) (by decide +kernel) rfl rfl rfl) ?_
    refine gm_c_virt (k := 226) (ci := 11) (mj := 339) (ix := 444) (pc := 73) (as := [gm_vi (k : Int), gm_vi lane, gm_vi y, gm_vi x]) (st := [gm_vi (bts (fun p => ¬ wrv N h φ p lane y x = -1) k)]) (d' := d - 1) (bc' := 0) (bs' := 0) (by decide +kernel) (by decide +kernel) (by decide +kernel) (by decide +kernel) (e0k hE (k := 226) (c := 11) (by decide +kernel)).1 (e0k hE (k := 226) (c := 11) (by decide +kernel)).2 (by decide) (by decide +kernel) (show 4 = gm_na 339 by decide +kernel) (fw_c4 fw_si fw_si fw_si fw_si) (show 5 ≤ gm_ml 339 by decide +kernel) (Nat.le_of_ble_eq_true rfl) (by omega) (Nat.zero_le _) (Nat.zero_le _) ?_
    refine wr_339w (p := (k : Int)) (lane := lane) (y := y) (x := x) (by omega) hE (tr_fr (W := [(226, some 29), (226, some 30), (226, some 26), (226, some 17), (226, some 18), (226, some 19), (226, some 20), (226, some 21), (226, some 22), (226, some 23), (235, none), (233, none), (236, none), (237, none)]) hT (fr_t fr_0 hf (by decide)) (by decide)) hN hfw hI1 ⟨by omega, by omega⟩ ⟨by omega, by omega⟩ ⟨⟨by omega, by omega⟩, by omega, by omega⟩ (fun hw88 M48 hf48 hI48 => ?_)
    show gm_Wp X LX d _ _ 338 76 _ [gm_vi (wrv N h φ (k : Int) lane y x), gm_vi (bts (fun p => ¬ wrv N h φ p lane y x = -1) k)] n K _ _ Q
    have wb9 := WROA_b hw88 (by omega)
    refine fw_if (cc := .lt) (pc := 76) (off := 10) (by decide +kernel) (by decide) ⟨by omega, by omega⟩ (fun h76 => ?_) (fun h76 => ?_)
    · have h76 : (wrv N h φ (k : Int) lane y x) < 0 := h76
      refine gm_sz (gm_p_const (pc := 86) (i := .iconst 0) (v := gm_vi 0) (by decide +kernel) (by decide +kernel)) ?_
      refine gm_sz (gm_p_bin (pc := 87) (i := .ior) (f := gm_or) (by decide +kernel) rfl) ?_
      refine gm_sz (gm_p_stor (pc := 88) (i := .istore 4) (sr := 0) (j := 4) (by decide +kernel) rfl (show 5 ≤ _ from Nat.le_of_ble_eq_true rfl) rfl) ?_
      refine gm_sz (gm_p_iinc (pc := 90) (j := 5) (z := 1) (by decide +kernel) rfl) ?_
      refine gm_sz (gm_p_goto (pc := 93) (off := (-37)) (by decide +kernel) (by decide)) ?_
      rw [or_z hb9]
      have e8 : ((k + 1 : Nat) : Int) = (k : Int) + 1 := by omega
      have e9 : bts (fun p => ¬ wrv N h φ p lane y x = -1) (k + 1) = bts (fun p => ¬ wrv N h φ p lane y x = -1) k := bts_f (p := (fun p => ¬ wrv N h φ p lane y x = -1)) (show ¬ (¬ wrv N h φ (k : Int) lane y x = -1) from by omega)
      have h9 := ih (k + 1) _ (by omega) (fr_t (fr_t fr_0 hf (by decide)) hf48 (by decide)) hI48
      rw [e9, e8] at h9
      exact h9
    · have h76 : ¬ (wrv N h φ (k : Int) lane y x) < 0 := h76
      refine gm_sz (gm_p_const (pc := 79) (i := .iconst 1) (v := gm_vi 1) (by decide +kernel) (by decide +kernel)) ?_
      refine gm_sz (gm_p_load (pc := 80) (i := .iload 5) (sr := 0) (j := 5) (by decide +kernel) rfl rfl rfl) ?_
      refine gm_sz (gm_p_bin (pc := 82) (i := .ishl) (f := gm_shl) (by decide +kernel) rfl) ?_
      refine gm_sz (gm_p_goto (pc := 83) (off := 4) (by decide +kernel) (by decide)) ?_
      refine gm_sz (gm_p_bin (pc := 87) (i := .ior) (f := gm_or) (by decide +kernel) rfl) ?_
      refine gm_sz (gm_p_stor (pc := 88) (i := .istore 4) (sr := 0) (j := 4) (by decide +kernel) rfl (show 5 ≤ _ from Nat.le_of_ble_eq_true rfl) rfl) ?_
      refine gm_sz (gm_p_iinc (pc := 90) (j := 5) (z := 1) (by decide +kernel) rfl) ?_
      refine gm_sz (gm_p_goto (pc := 93) (off := (-37)) (by decide +kernel) (by decide)) ?_
      have e8 : ((k + 1 : Nat) : Int) = (k : Int) + 1 := by omega
      have e9 : bts (fun p => ¬ wrv N h φ p lane y x = -1) (k + 1) = gm_or (bts (fun p => ¬ wrv N h φ p lane y x = -1) k) (gm_shl 1 (k : Int)) := bts_t (p := (fun p => ¬ wrv N h φ p lane y x = -1)) (show ¬ wrv N h φ (k : Int) lane y x = -1 from by omega)
      have h9 := ih (k + 1) _ (by omega) (fr_t (fr_t fr_0 hf (by decide)) hf48 (by decide)) hI48
      rw [e9, e8] at h9
      exact h9
theorem cl_writers (hd : 24 ≤ d) (hbc : 4 ≤ bc) (hbs : 24 ≤ bs) (hE : E0 n K R) (hT : TI N h sp M) (hN : NR N) (hfw : FLW X LX n K R N h sp FI φ) (hI : FI M) (hi2 : gm_ir lane) (hi3 : gm_ir y) (hi4 : gm_ir x) (kv : 0 ≤ lane ∧ lane < N 0 → (0 ≤ y ∧ y ≤ 299) ∧ (0 ≤ x ∧ x ≤ 99) → ∀ M2, Q (.inl (some (gm_vi (bts (fun p => ¬ wrv N h φ p lane y x = -1) (N 3).toNat)))) n K R M2) (k3 : ¬ (0 ≤ lane ∧ lane < N 0) → Q (.inr 3) n K R M) (k0 : 0 ≤ lane ∧ lane < N 0 → ¬ ((0 ≤ y ∧ y ≤ 299) ∧ (0 ≤ x ∧ x ≤ 99)) → Q (.inr 0) n K R M) : gm_Wp X LX d bc bs 186 0 (gm_ent 186 [gm_vr 1, gm_vi lane, gm_vi y, gm_vi x]) [] n K R M Q := by
  obtain ⟨⟨⟨a0, b0⟩, ⟨a1, b1⟩, ⟨a10, b10⟩, ⟨a11, b11⟩, ⟨a12, b12⟩, a9, b9⟩, ⟨⟨a2, b2⟩, ⟨a5, b5⟩, ⟨a3, b3⟩, ⟨a4, b4⟩, ⟨a6, b6⟩, ⟨a14, b14⟩, ⟨a7, b7⟩, a13, b13⟩, rF, rP, rL⟩ := id hN
  refine gm_sz (gm_p_load (pc := 0) (i := .aload_n 0) (sr := 2) (j := 0) (by decide +kernel) rfl rfl rfl) ?_
  refine gm_sz (gm_p_load (pc := 1) (i := .iload_n 1) (sr := 0) (j := 1) (by decide +kernel) rfl rfl rfl) ?_
  refine gm_c_virt (k := 1) (ci := 0) (mj := 132) (ix := 166) (pc := 2) (as := [gm_vi lane]) (st := []) (d' := d - 1) (bc' := 1) (bs' := 6) (by decide +kernel) (by decide +kernel) (by decide +kernel) (by decide +kernel) (e0k hE (k := 1) (c := 0) (by decide +kernel)).1 (e0k hE (k := 1) (c := 0) (by decide +kernel)).2 (by decide) (by decide +kernel) (show 1 = gm_na 132 by decide +kernel) (fw_c1 fw_si) (show 2 ≤ gm_ml 132 by decide +kernel) (Nat.le_of_ble_eq_true rfl) (by omega) (by omega) (by omega) ?_
  refine nd_132 (i := lane) (by omega) (by omega) (by omega) hE hT hN hi2 (fun c2 => ?_) (fun c2 => ?_)
  · show gm_Wp X LX d _ _ 186 5 _ [] n K _ _ Q
    have c2 : 0 ≤ lane ∧ lane < N 0 := c2
    refine gm_sz (gm_p_load (pc := 5) (i := .aload_n 0) (sr := 2) (j := 0) (by decide +kernel) rfl rfl rfl) ?_
    refine gm_sz (gm_p_load (pc := 6) (i := .iload_n 2) (sr := 0) (j := 2) (by decide +kernel) rfl rfl rfl) ?_
    refine gm_sz (gm_p_load (pc := 7) (i := .iload_n 3) (sr := 0) (j := 3) (by decide +kernel) rfl rfl rfl) ?_
    refine gm_c_virt (k := 1) (ci := 0) (mj := 187) (ix := 335) (pc := 8) (as := [gm_vi y, gm_vi x]) (st := []) (d' := d - 1) (bc' := 2) (bs' := 12) (by decide +kernel) (by decide +kernel) (by decide +kernel) (by decide +kernel) (e0k hE (k := 1) (c := 0) (by decide +kernel)).1 (e0k hE (k := 1) (c := 0) (by decide +kernel)).2 (by decide) (by decide +kernel) (show 2 = gm_na 187 by decide +kernel) (fw_c2 fw_si fw_si) (show 3 ≤ gm_ml 187 by decide +kernel) (Nat.le_of_ble_eq_true rfl) (by omega) (by omega) (by omega) ?_
    refine nd_187 (x := y) (y := x) (by omega) (by omega) (by omega) (by omega) (by omega) hE hi3 hi4 (fun c8 => ?_) (fun c8 => ?_)
    · show gm_Wp X LX d _ _ 186 11 _ [] n K _ _ Q
      have c8 : (0 ≤ y ∧ y ≤ 299) ∧ (0 ≤ x ∧ x ≤ 99) := c8
      refine gm_sz (gm_p_const (pc := 11) (i := .iconst 0) (v := gm_vi 0) (by decide +kernel) (by decide +kernel)) ?_
      refine gm_sz (gm_p_stor (pc := 12) (i := .istore 4) (sr := 0) (j := 4) (by decide +kernel) rfl (show 5 ≤ _ from Nat.le_of_ble_eq_true rfl) rfl) ?_
      refine gm_sz (gm_p_const (pc := 14) (i := .iconst 0) (v := gm_vi 0) (by decide +kernel) (by decide +kernel)) ?_
      refine gm_sz (gm_p_stor (pc := 15) (i := .istore 5) (sr := 0) (j := 5) (by decide +kernel) rfl (show 6 ≤ _ from Nat.le_of_ble_eq_true rfl) rfl) ?_
      exact ws_c hd hE hT hN hfw hI ⟨by omega, by omega⟩ ⟨⟨by omega, by omega⟩, by omega, by omega⟩ (kv ⟨by omega, by omega⟩ ⟨⟨by omega, by omega⟩, by omega, by omega⟩) (N 3).toNat 0 _ (by omega) fr_0 hI
    · show Q (.inr 0) n K _ _
      have c8 : ¬ ((0 ≤ y ∧ y ≤ 299) ∧ (0 ≤ x ∧ x ≤ 99)) := c8
      exact (k0 ⟨by omega, by omega⟩ (by omega))
  · show Q (.inr 3) n K _ _
    have c2 : ¬ (0 ≤ lane ∧ lane < N 0) := c2
    exact (k3 (by omega))
theorem re_writers (hd : 24 ≤ d) (hE : E0 n K R) (hT : TR N h M) (hN : NR N) (hfw : FLR X LX n K R N h FI φ) (hI : FI M) (hi2 : gm_ir lane) (hi3 : gm_ir y) (hi4 : gm_ir x) (kv : 0 ≤ lane ∧ lane < N 0 → (0 ≤ y ∧ y ≤ 299) ∧ (0 ≤ x ∧ x ≤ 99) → ∀ M2, M2 226 0 = 0 → Q (.inl (some (gm_vi (bts (fun p => ¬ wrv N h φ p lane y x = -1) (N 3).toNat)))) n K R M2) (k1 : ¬ (0 ≤ lane ∧ lane < N 0) → ∀ M2, M2 226 0 = 1 → Q (.inl (some (gm_vi 0))) n K R M2) (k2 : 0 ≤ lane ∧ lane < N 0 → ¬ ((0 ≤ y ∧ y ≤ 299) ∧ (0 ≤ x ∧ x ≤ 99)) → ∀ M2, M2 226 0 = 2 → Q (.inl (some (gm_vi 0))) n K R M2) : gm_Wp X LX d bc bs 338 0 (gm_ent 338 [gm_vr 226, gm_vi lane, gm_vi y, gm_vi x]) [] n K R M Q := by
  obtain ⟨⟨⟨a0, b0⟩, ⟨a1, b1⟩, ⟨a10, b10⟩, ⟨a11, b11⟩, ⟨a12, b12⟩, a9, b9⟩, ⟨⟨a2, b2⟩, ⟨a5, b5⟩, ⟨a3, b3⟩, ⟨a4, b4⟩, ⟨a6, b6⟩, ⟨a14, b14⟩, ⟨a7, b7⟩, a13, b13⟩, rF, rP, rL⟩ := id hN
  refine gm_sz (gm_p_load (pc := 0) (i := .aload_n 0) (sr := 2) (j := 0) (by decide +kernel) rfl rfl rfl) ?_
  refine gm_sz (gm_p_const (pc := 1) (i := .iconst 0) (v := gm_vi 0) (by decide +kernel) (by decide +kernel)) ?_
  refine gm_sz (fw_pi (pc := 2) (ix := 3) (ci := 11) (j := 0) (M' := gm_uM M 226 0 0) (by decide +kernel) (e0k hE (k := 226) (c := 11) (by decide +kernel)) (by decide +kernel) (by decide +kernel) (by decide +kernel) rfl) ?_
  refine gm_sz (gm_p_load (pc := 5) (i := .aload_n 0) (sr := 2) (j := 0) (by decide +kernel) rfl rfl rfl) ?_
  refine gm_sz (gm_p_load (pc := 6) (i := .aload_n 0) (sr := 2) (j := 0) (by decide +kernel) rfl rfl rfl) ?_
  refine gm_sz (gm_p_load (pc := 7) (i := .iload_n 1) (sr := 0) (j := 1) (by decide +kernel) rfl rfl rfl) ?_
  refine gm_c_virt (k := 226) (ci := 11) (mj := 288) (ix := 356) (pc := 8) (as := [gm_vi lane]) (st := [gm_vr 226]) (d' := d - 1) (bc' := 0) (bs' := 0) (by decide +kernel) (by decide +kernel) (by decide +kernel) (by decide +kernel) (e0k hE (k := 226) (c := 11) (by decide +kernel)).1 (e0k hE (k := 226) (c := 11) (by decide +kernel)).2 (by decide) (by decide +kernel) (show 1 = gm_na 288 by decide +kernel) (fw_c1 fw_si) (show 2 ≤ gm_ml 288 by decide +kernel) (Nat.le_of_ble_eq_true rfl) (by omega) (Nat.zero_le _) (Nat.zero_le _) ?_
  refine no_288 (i := lane) (by omega) hE (tr_fr (W := [(226, some 0)]) hT (fr_p fr_0 (Or.inr (by decide))) (by decide)) hN hi2 (fun n8 => ?_) (fun n8 => ?_)
  · show gm_Wp X LX d _ _ 338 11 _ [gm_vi 1, gm_vr 226] n K _ _ Q
    have n8 : ¬ (0 ≤ lane ∧ lane < N 0) := n8
    refine gm_sz (gm_p_const (pc := 11) (i := .iconst 1) (v := gm_vi 1) (by decide +kernel) (by decide +kernel)) ?_
    refine gm_c_virt (k := 226) (ci := 11) (mj := 282) (ix := 300) (pc := 12) (as := [gm_vi 1, gm_vi 1]) (st := []) (d' := d - 1) (bc' := 0) (bs' := 0) (by decide +kernel) (by decide +kernel) (by decide +kernel) (by decide +kernel) (e0k hE (k := 226) (c := 11) (by decide +kernel)).1 (e0k hE (k := 226) (c := 11) (by decide +kernel)).2 (by decide) (by decide +kernel) (show 2 = gm_na 282 by decide +kernel) (fw_c2 fw_si fw_si) (show 3 ≤ gm_ml 282 by decide +kernel) (Nat.le_of_ble_eq_true rfl) (by omega) (Nat.zero_le _) (Nat.zero_le _) ?_
    refine tf_1 hE ?_
    show gm_Wp X LX d _ _ 338 15 _ [gm_vi 1] n K _ _ Q
    refine fw_iftd (cc := .ne) (pc := 15) (off := 33) (by decide +kernel) (by decide) ⟨by decide, by decide⟩ (by decide) ?_
    refine gm_sz (gm_p_const (pc := 48) (i := .iconst 0) (v := gm_vi 0) (by decide +kernel) (by decide +kernel)) ?_
    exact gm_r_int (pc := 49) (by decide +kernel) (Or.inl (by decide +kernel)) (k1 (by omega) _ uM_at)
  · show gm_Wp X LX d _ _ 338 11 _ [gm_vi 0, gm_vr 226] n K _ _ Q
    have n8 : 0 ≤ lane ∧ lane < N 0 := n8
    refine gm_sz (gm_p_const (pc := 11) (i := .iconst 1) (v := gm_vi 1) (by decide +kernel) (by decide +kernel)) ?_
    refine gm_c_virt (k := 226) (ci := 11) (mj := 282) (ix := 300) (pc := 12) (as := [gm_vi 0, gm_vi 1]) (st := []) (d' := d - 1) (bc' := 0) (bs' := 0) (by decide +kernel) (by decide +kernel) (by decide +kernel) (by decide +kernel) (e0k hE (k := 226) (c := 11) (by decide +kernel)).1 (e0k hE (k := 226) (c := 11) (by decide +kernel)).2 (by decide) (by decide +kernel) (show 2 = gm_na 282 by decide +kernel) (fw_c2 fw_si fw_si) (show 3 ≤ gm_ml 282 by decide +kernel) (Nat.le_of_ble_eq_true rfl) (by omega) (Nat.zero_le _) (Nat.zero_le _) ?_
    refine tf_0 hE ?_
    show gm_Wp X LX d _ _ 338 15 _ [gm_vi 0] n K _ _ Q
    refine fw_iffd (cc := .ne) (pc := 15) (off := 33) (by decide +kernel) (by decide) ⟨by decide, by decide⟩ (by decide) ?_
    refine gm_sz (gm_p_load (pc := 18) (i := .aload_n 0) (sr := 2) (j := 0) (by decide +kernel) rfl rfl rfl) ?_
    refine gm_sz (gm_p_load (pc := 19) (i := .iload_n 2) (sr := 0) (j := 2) (by decide +kernel) rfl rfl rfl) ?_
    refine gm_c_stat (mj := 285) (ix := 353) (pc := 20) (as := [gm_vi y]) (st := [gm_vr 226]) (d' := d - 1) (bc' := 0) (bs' := 0) (by decide +kernel) (by decide +kernel) (by decide +kernel) (by decide +kernel) (show 1 = gm_na 285 by decide +kernel) (fw_c1 fw_si) (show 1 ≤ gm_ml 285 by decide +kernel) (Nat.le_of_ble_eq_true rfl) (by omega) (Nat.zero_le _) (Nat.zero_le _) ?_
    refine no_285 (i := y) (by omega) hi3 (fun n20 => ?_) (fun n20 => ?_)
    · show gm_Wp X LX d _ _ 338 23 _ [gm_vi 1, gm_vr 226] n K _ _ Q
      have n20 : ¬ (0 ≤ y ∧ y ≤ 299) := n20
      refine fw_iftd (cc := .ne) (pc := 23) (off := 13) (by decide +kernel) (by decide) ⟨by decide, by decide⟩ (by decide) ?_
      refine gm_sz (gm_p_const (pc := 36) (i := .iconst 1) (v := gm_vi 1) (by decide +kernel) (by decide +kernel)) ?_
      refine gm_sz (gm_p_goto (pc := 37) (off := 4) (by decide +kernel) (by decide)) ?_
      refine gm_sz (gm_p_const (pc := 41) (i := .iconst 2) (v := gm_vi 2) (by decide +kernel) (by decide +kernel)) ?_
      refine gm_c_virt (k := 226) (ci := 11) (mj := 282) (ix := 300) (pc := 42) (as := [gm_vi 1, gm_vi 2]) (st := []) (d' := d - 1) (bc' := 0) (bs' := 0) (by decide +kernel) (by decide +kernel) (by decide +kernel) (by decide +kernel) (e0k hE (k := 226) (c := 11) (by decide +kernel)).1 (e0k hE (k := 226) (c := 11) (by decide +kernel)).2 (by decide) (by decide +kernel) (show 2 = gm_na 282 by decide +kernel) (fw_c2 fw_si fw_si) (show 3 ≤ gm_ml 282 by decide +kernel) (Nat.le_of_ble_eq_true rfl) (by omega) (Nat.zero_le _) (Nat.zero_le _) ?_
      refine tf_1 hE ?_
      show gm_Wp X LX d _ _ 338 45 _ [gm_vi 1] n K _ _ Q
      refine fw_iffd (cc := .eq) (pc := 45) (off := 5) (by decide +kernel) (by decide) ⟨by decide, by decide⟩ (by decide) ?_
      refine gm_sz (gm_p_const (pc := 48) (i := .iconst 0) (v := gm_vi 0) (by decide +kernel) (by decide +kernel)) ?_
      exact gm_r_int (pc := 49) (by decide +kernel) (Or.inl (by decide +kernel)) (k2 ⟨by omega, by omega⟩ (by omega) _ uM_at)
    · show gm_Wp X LX d _ _ 338 23 _ [gm_vi 0, gm_vr 226] n K _ _ Q
      have n20 : 0 ≤ y ∧ y ≤ 299 := n20
      refine fw_iffd (cc := .ne) (pc := 23) (off := 13) (by decide +kernel) (by decide) ⟨by decide, by decide⟩ (by decide) ?_
      refine gm_sz (gm_p_load (pc := 26) (i := .iload_n 3) (sr := 0) (j := 3) (by decide +kernel) rfl rfl rfl) ?_
      refine gm_sz (gm_p_const (pc := 27) (i := .iconst 0) (v := gm_vi 0) (by decide +kernel) (by decide +kernel)) ?_
      refine gm_sz (gm_p_const (pc := 28) (i := .bipush 99) (v := gm_vi 99) (by decide +kernel) (by decide +kernel)) ?_
      refine gm_c_stat (mj := 286) (ix := 90) (pc := 30) (as := [gm_vi x, gm_vi 0, gm_vi 99]) (st := [gm_vr 226]) (d' := d - 1) (bc' := 0) (bs' := 0) (by decide +kernel) (by decide +kernel) (by decide +kernel) (by decide +kernel) (show 3 = gm_na 286 by decide +kernel) (fw_c3 fw_si fw_si fw_si) (show 3 ≤ gm_ml 286 by decide +kernel) (Nat.le_of_ble_eq_true rfl) (by omega) (Nat.zero_le _) (Nat.zero_le _) ?_
      refine in_286 (x := x) (y := 0) (z := 99) hi4 ⟨by decide, by decide⟩ ⟨by decide, by decide⟩ (fun k30a k30 => ?_) (fun k30 => ?_)
      · show gm_Wp X LX d _ _ 338 33 _ [gm_vi 1, gm_vr 226] n K _ _ Q
        have k30a : 0 ≤ x := k30a
        have k30 : x ≤ 99 := k30
        refine fw_iftd (cc := .ne) (pc := 33) (off := 7) (by decide +kernel) (by decide) ⟨by decide, by decide⟩ (by decide) ?_
        refine gm_sz (gm_p_const (pc := 40) (i := .iconst 0) (v := gm_vi 0) (by decide +kernel) (by decide +kernel)) ?_
        refine gm_sz (gm_p_const (pc := 41) (i := .iconst 2) (v := gm_vi 2) (by decide +kernel) (by decide +kernel)) ?_
        refine gm_c_virt (k := 226) (ci := 11) (mj := 282) (ix := 300) (pc := 42) (as := [gm_vi 0, gm_vi 2]) (st := []) (d' := d - 1) (bc' := 0) (bs' := 0) (by decide +kernel) (by decide +kernel) (by decide +kernel) (by decide +kernel) (e0k hE (k := 226) (c := 11) (by decide +kernel)).1 (e0k hE (k := 226) (c := 11) (by decide +kernel)).2 (by decide) (by decide +kernel) (show 2 = gm_na 282 by decide +kernel) (fw_c2 fw_si fw_si) (show 3 ≤ gm_ml 282 by decide +kernel) (Nat.le_of_ble_eq_true rfl) (by omega) (Nat.zero_le _) (Nat.zero_le _) ?_
        refine tf_0 hE ?_
        show gm_Wp X LX d _ _ 338 45 _ [gm_vi 0] n K _ _ Q
        refine fw_iftd (cc := .eq) (pc := 45) (off := 5) (by decide +kernel) (by decide) ⟨by decide, by decide⟩ (by decide) ?_
        refine gm_sz (gm_p_const (pc := 50) (i := .iconst 0) (v := gm_vi 0) (by decide +kernel) (by decide +kernel)) ?_
        refine gm_sz (gm_p_stor (pc := 51) (i := .istore 4) (sr := 0) (j := 4) (by decide +kernel) rfl (show 5 ≤ _ from Nat.le_of_ble_eq_true rfl) rfl) ?_
        refine gm_sz (gm_p_const (pc := 53) (i := .iconst 0) (v := gm_vi 0) (by decide +kernel) (by decide +kernel)) ?_
        refine gm_sz (gm_p_stor (pc := 54) (i := .istore 5) (sr := 0) (j := 5) (by decide +kernel) rfl (show 6 ≤ _ from Nat.le_of_ble_eq_true rfl) rfl) ?_
        exact ws_r hd hE (tr_fr (W := [(226, some 0)]) hT (fr_p fr_0 (Or.inr (by decide))) (by decide)) hN hfw (hfw.2.1 [(226, some 0)] _ _ (by decide) (fr_p fr_0 (Or.inr (by decide))) hI) ⟨by omega, by omega⟩ ⟨⟨by omega, by omega⟩, by omega, by omega⟩ uM_at (kv ⟨by omega, by omega⟩ ⟨⟨by omega, by omega⟩, by omega, by omega⟩) (N 3).toNat 0 _ (by omega) fr_0 (hfw.2.1 [(226, some 0)] _ _ (by decide) (fr_p fr_0 (Or.inr (by decide))) hI)
      · show gm_Wp X LX d _ _ 338 33 _ [gm_vi 0, gm_vr 226] n K _ _ Q
        have k30 : ¬ (0 ≤ x ∧ x ≤ 99) := k30
        refine fw_iffd (cc := .ne) (pc := 33) (off := 7) (by decide +kernel) (by decide) ⟨by decide, by decide⟩ (by decide) ?_
        refine gm_sz (gm_p_const (pc := 36) (i := .iconst 1) (v := gm_vi 1) (by decide +kernel) (by decide +kernel)) ?_
        refine gm_sz (gm_p_goto (pc := 37) (off := 4) (by decide +kernel) (by decide)) ?_
        refine gm_sz (gm_p_const (pc := 41) (i := .iconst 2) (v := gm_vi 2) (by decide +kernel) (by decide +kernel)) ?_
        refine gm_c_virt (k := 226) (ci := 11) (mj := 282) (ix := 300) (pc := 42) (as := [gm_vi 1, gm_vi 2]) (st := []) (d' := d - 1) (bc' := 0) (bs' := 0) (by decide +kernel) (by decide +kernel) (by decide +kernel) (by decide +kernel) (e0k hE (k := 226) (c := 11) (by decide +kernel)).1 (e0k hE (k := 226) (c := 11) (by decide +kernel)).2 (by decide) (by decide +kernel) (show 2 = gm_na 282 by decide +kernel) (fw_c2 fw_si fw_si) (show 3 ≤ gm_ml 282 by decide +kernel) (Nat.le_of_ble_eq_true rfl) (by omega) (Nat.zero_le _) (Nat.zero_le _) ?_
        refine tf_1 hE ?_
        show gm_Wp X LX d _ _ 338 45 _ [gm_vi 1] n K _ _ Q
        refine fw_iffd (cc := .eq) (pc := 45) (off := 5) (by decide +kernel) (by decide) ⟨by decide, by decide⟩ (by decide) ?_
        refine gm_sz (gm_p_const (pc := 48) (i := .iconst 0) (v := gm_vi 0) (by decide +kernel) (by decide +kernel)) ?_
        exact gm_r_int (pc := 49) (by decide +kernel) (Or.inl (by decide +kernel)) (k2 ⟨by omega, by omega⟩ (by omega) _ uM_at)
end WR65
section WR65B
variable {X : Int → Int} {LX d bc bs n g z g1 : Nat} {la : Nat → Nat} {K : gm_K} {R : gm_R} {M : gm_M} {N : Int → Int} {lw : Option (List lln)} {A : List (Int → Int)} {im : Option ((Int → Int) × Option (List lln))} {t w : Int} {f : Int → Int} {a b c e : Int} {NC : Nat} {C Ln G : Int → Int}
noncomputable def q_wrote (lw : Option (List lln)) (N : Int → Int) (a : Int) (b : Int) (c : Int) (e : Int) : Int × Int := tif (¬ ((0 ≤ a ∧ a < N 3) ∧ (0 ≤ b ∧ b < N 0))) (1, 0) (tif (¬ ((0 ≤ c ∧ c ≤ 299) ∧ (0 ≤ e ∧ e ≤ 99))) (2, 0) (0, wrv N (hts (N 13)) (aphi lw N (hts (N 13))) a b c e))
theorem iq_wrote : gm_ir (q_wrote lw N a b c e).1 := by
  unfold q_wrote
  exact tif_ir (show (-2147483648 : Int) ≤ 1 ∧ (1 : Int) < 2147483648 from by decide) (tif_ir (show (-2147483648 : Int) ≤ 2 ∧ (2 : Int) < 2147483648 from by decide) ((show (-2147483648 : Int) ≤ 0 ∧ (0 : Int) < 2147483648 from by decide)))
theorem cq_wrote (hd : 24 ≤ d) (hbc : 4 ≤ bc) (hbs : 24 ≤ bs) (hE : E0 n K R) (hn : 245 ≤ n) (hK : K 245 = (2, 1)) (hc : CC n K R NC C Ln G lw) (hL : LBX NC C Ln lw M) (hG : GJ N) (hV : CLV N lw A im t w f M) (ia : gm_ir a) (ib : gm_ir b) (ic : gm_ir c) (ie : gm_ir e) : gm_Wp X LX d bc bs 190 0 (gm_ent 190 [gm_vr 1, gm_vi a, gm_vi b, gm_vi c, gm_vi e]) [] n K R M (hQ [(3, 1), (0, 2)] (CF (q_wrote lw N a b c e).1 (oV (q_wrote lw N a b c e).1 (q_wrote lw N a b c e).2))) := by
  exact cl_wrote hd hbc hbs hE hV.1.1 hG.1.1 (flw_a hE hc hG.1.1 hG.1.2.1) (fic_of hL hV) ia ib ic ie (fun h h2 M2 => hQ_v hn hK (cf_v hK ((tif_f (fun hh => hh h)).trans (tif_f (fun hh => hh h2))) rfl)) (fun h => hQ_x hn hK (c := 1) (by decide) (cf_x hK (tif_t h) (by decide))) (fun h h2 => hQ_x hn hK (c := 2) (by decide) (cf_x hK ((tif_f (fun hh => hh h)).trans (tif_t h2)) (by decide)))
theorem rq_wrote (hd : 24 ≤ d) (hE : E0 n K R) (hT : jT fun j => M 227 (395 + j)) (hS6 : NSb 6 N) (hG : GJ N) (hV : RFV N lw A im t w f M) (ia : gm_ir a) (ib : gm_ir b) (ic : gm_ir c) (ie : gm_ir e) : gm_Wp X LX d bc bs 340 0 (gm_ent 340 [gm_vr 226, gm_vi a, gm_vi b, gm_vi c, gm_vi e]) [] n K R M (RF (q_wrote lw N a b c e).1 (q_wrote lw N a b c e).2) := by
  have k226 := k226 hE
  exact re_wrote hd hE hV.1.1 hG.1.1 (flr_a hE (lawg_of hV.1.2.1 hT) hgeo_r hG.1.1 hG.1.1 hS6) ⟨hV.2.1, fun _ _ => rfl⟩ ia ib ic ie (fun h h2 M2 h0 => rf_e k226 ((tif_f (fun hh => hh h)).trans (tif_f (fun hh => hh h2))) (fun _ => rfl) h0) (fun h M2 h0 => rf_e k226 (tif_t h) (fun e => absurd e (by decide)) h0) (fun h h2 M2 h0 => rf_e k226 ((tif_f (fun hh => hh h)).trans (tif_t h2)) (fun e => absurd e (by decide)) h0)
theorem fw_wrote (hb : bg g la K R M) (hR : REL la K M N lw A im t w f) (ia : gm_ir a) (ib : gm_ir b) (ic : gm_ir c) (ie : gm_ir e) : ∀ z g1, bs_ok la z g1 → ¬ z = 100003 → gm_Wp X LX 279 6 600 189 0 (gm_ent 189 (gm_vr 1 :: bc_as [a, b, c, e] true)) [] (245 + 4 * g1) (bs_K la K) (bs_R z g1) (bs_M la M) (CF (q_wrote lw N a b c e).1 (oV (q_wrote lw N a b c e).1 (q_wrote lw N a b c e).2)) := by
  intro z g1 hz hz3
  have hE := e0_w hb hz
  obtain ⟨NC, C, Ln, hcc, hlb⟩ := cc_w hb hz hz3 hR.2.1.1 hR.2.2.2.1.2.1
  exact hl_189 (d := 278) (k1_e hE) (cq_wrote (by decide) (by decide) (by decide) hE (k245 hE).1 (k245 hE).2 hcc hlb hR.1.1 (clv_w hb hR.2.2.1) ia ib ic ie)
theorem fm_wrote (hb : bg g la K R M) (hR : REL la K M N lw A im t w f) (ia : gm_ir a) (ib : gm_ir b) (ic : gm_ir c) (ie : gm_ir e) : gm_Wp X LX 279 6 600 340 0 (gm_ent 340 (gm_vr 226 :: [a, b, c, e].map gm_vi)) [] 245 (bs_K la K) (bs_R 100003 0) (bs_M la M) (RF (q_wrote lw N a b c e).1 (q_wrote lw N a b c e).2) := rq_wrote (by decide) (e0_w hb (Or.inr (Or.inl ⟨rfl, rfl⟩))) (gJ_w hb) (ns6 (bs_F0 (z := 100003) hb) (rfv_w (la := la) hR.2.2.2).1.1.1 hR.1.1.1.1) hR.1.1 (rfv_w hR.2.2.2) ia ib ic ie
noncomputable def q_writers (lw : Option (List lln)) (N : Int → Int) (a : Int) (b : Int) (c : Int) : Int × Int := tif (¬ (0 ≤ a ∧ a < N 0)) (1, 0) (tif (¬ ((0 ≤ b ∧ b ≤ 299) ∧ (0 ≤ c ∧ c ≤ 99))) (2, 0) (0, bts (fun p => ¬ wrv N (hts (N 13)) (aphi lw N (hts (N 13))) p a b c = -1) (N 3).toNat))
theorem iq_writers : gm_ir (q_writers lw N a b c).1 := by
  unfold q_writers
  exact tif_ir (show (-2147483648 : Int) ≤ 1 ∧ (1 : Int) < 2147483648 from by decide) (tif_ir (show (-2147483648 : Int) ≤ 2 ∧ (2 : Int) < 2147483648 from by decide) ((show (-2147483648 : Int) ≤ 0 ∧ (0 : Int) < 2147483648 from by decide)))
theorem cq_writers (hd : 24 ≤ d) (hbc : 4 ≤ bc) (hbs : 24 ≤ bs) (hE : E0 n K R) (hn : 245 ≤ n) (hK : K 245 = (2, 1)) (hc : CC n K R NC C Ln G lw) (hL : LBX NC C Ln lw M) (hG : GJ N) (hV : CLV N lw A im t w f M) (ia : gm_ir a) (ib : gm_ir b) (ic : gm_ir c) : gm_Wp X LX d bc bs 186 0 (gm_ent 186 [gm_vr 1, gm_vi a, gm_vi b, gm_vi c]) [] n K R M (hQ [(3, 1), (0, 2)] (CF (q_writers lw N a b c).1 (oV (q_writers lw N a b c).1 (q_writers lw N a b c).2))) := by
  exact cl_writers hd hbc hbs hE hV.1.1 hG.1.1 (flw_a hE hc hG.1.1 hG.1.2.1) (fic_of hL hV) ia ib ic (fun h h2 M2 => hQ_v hn hK (cf_v hK ((tif_f (fun hh => hh h)).trans (tif_f (fun hh => hh h2))) rfl)) (fun h => hQ_x hn hK (c := 1) (by decide) (cf_x hK (tif_t h) (by decide))) (fun h h2 => hQ_x hn hK (c := 2) (by decide) (cf_x hK ((tif_f (fun hh => hh h)).trans (tif_t h2)) (by decide)))
theorem rq_writers (hd : 24 ≤ d) (hE : E0 n K R) (hT : jT fun j => M 227 (395 + j)) (hS6 : NSb 6 N) (hG : GJ N) (hV : RFV N lw A im t w f M) (ia : gm_ir a) (ib : gm_ir b) (ic : gm_ir c) : gm_Wp X LX d bc bs 338 0 (gm_ent 338 [gm_vr 226, gm_vi a, gm_vi b, gm_vi c]) [] n K R M (RF (q_writers lw N a b c).1 (q_writers lw N a b c).2) := by
  have k226 := k226 hE
  exact re_writers hd hE hV.1.1 hG.1.1 (flr_a hE (lawg_of hV.1.2.1 hT) hgeo_r hG.1.1 hG.1.1 hS6) ⟨hV.2.1, fun _ _ => rfl⟩ ia ib ic (fun h h2 M2 h0 => rf_e k226 ((tif_f (fun hh => hh h)).trans (tif_f (fun hh => hh h2))) (fun _ => rfl) h0) (fun h M2 h0 => rf_e k226 (tif_t h) (fun e => absurd e (by decide)) h0) (fun h h2 M2 h0 => rf_e k226 ((tif_f (fun hh => hh h)).trans (tif_t h2)) (fun e => absurd e (by decide)) h0)
theorem fw_writers (hb : bg g la K R M) (hR : REL la K M N lw A im t w f) (ia : gm_ir a) (ib : gm_ir b) (ic : gm_ir c) : ∀ z g1, bs_ok la z g1 → ¬ z = 100003 → gm_Wp X LX 279 6 600 185 0 (gm_ent 185 (gm_vr 1 :: bc_as [a, b, c] true)) [] (245 + 4 * g1) (bs_K la K) (bs_R z g1) (bs_M la M) (CF (q_writers lw N a b c).1 (oV (q_writers lw N a b c).1 (q_writers lw N a b c).2)) := by
  intro z g1 hz hz3
  have hE := e0_w hb hz
  obtain ⟨NC, C, Ln, hcc, hlb⟩ := cc_w hb hz hz3 hR.2.1.1 hR.2.2.2.1.2.1
  exact hl_185 (d := 278) (k1_e hE) (cq_writers (by decide) (by decide) (by decide) hE (k245 hE).1 (k245 hE).2 hcc hlb hR.1.1 (clv_w hb hR.2.2.1) ia ib ic)
theorem fm_writers (hb : bg g la K R M) (hR : REL la K M N lw A im t w f) (ia : gm_ir a) (ib : gm_ir b) (ic : gm_ir c) : gm_Wp X LX 279 6 600 338 0 (gm_ent 338 (gm_vr 226 :: [a, b, c].map gm_vi)) [] 245 (bs_K la K) (bs_R 100003 0) (bs_M la M) (RF (q_writers lw N a b c).1 (q_writers lw N a b c).2) := rq_writers (by decide) (e0_w hb (Or.inr (Or.inl ⟨rfl, rfl⟩))) (gJ_w hb) (ns6 (bs_F0 (z := 100003) hb) (rfv_w (la := la) hR.2.2.2).1.1.1 hR.1.1.1.1) hR.1.1 (rfv_w hR.2.2.2) ia ib ic
end WR65B
