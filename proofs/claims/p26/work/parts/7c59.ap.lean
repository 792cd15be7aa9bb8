/-! 7c59.ap -/
section
/-! APART: what it answers. -/
theorem and_ir9 {x y : Int} : gm_ir (gm_and x y) := by
  unfold gm_and gm_ir
  generalize (Int32.ofInt x &&& Int32.ofInt y) = z
  have h := gm_w_toInt z.toInt
  rw [Int32.ofInt_toInt] at h
  rw [h]
  exact ⟨gm_w_lo _, gm_w_hi _⟩
/-- one of the poles tells them apart -/
noncomputable def apt (N : Int → Int) (a b c : Int) : Int := @ite Int (∃ i : Nat, (i : Int) < N 0 ∧ (gm_and (gm_shr c (i : Int)) 1 = 1 ∧ ¬ (N (287 + (a * 6 + (i : Int)))) = (N (287 + (b * 6 + (i : Int)))))) (Classical.propDecidable _) 1 0
theorem apt_1 {N : Int → Int} {a b c : Int} (i : Nat) (h : (i : Int) < N 0) (h2 : (gm_and (gm_shr c (i : Int)) 1 = 1 ∧ ¬ (N (287 + (a * 6 + (i : Int)))) = (N (287 + (b * 6 + (i : Int)))))) : apt N a b c = 1 := if_pos ⟨i, h, h2⟩
theorem apt_0 {N : Int → Int} {a b c : Int} (h : ∀ i : Nat, (i : Int) < N 0 → ¬ (gm_and (gm_shr c (i : Int)) 1 = 1 ∧ ¬ (N (287 + (a * 6 + (i : Int)))) = (N (287 + (b * 6 + (i : Int)))))) : apt N a b c = 0 := if_neg (fun ⟨i, h1, h2⟩ => h i h1 h2)
section AP59
variable {X : Int → Int} {LX d bc bs n : Nat} {K : gm_K} {R : gm_R} {M : gm_M} {Q : gm_Q} {N h : Int → Int} {sp : Int → Int → Int} {FI : gm_M → Prop} {φ : Int → Int → Int → Int} {l lane row year y p w x k c v a b t : Int}
theorem ta_l (hd : 4 ≤ d) (hE : E0 n K R) (hT : TI N h sp M) (hN : NR N) (ha : 0 ≤ a ∧ a < N 6) (hb : 0 ≤ b ∧ b < N 6) (hir : irN N) (hq : Q (.inl (some (gm_vi (apt N a b c)))) n K R M) : ∀ (u k : Nat), (k : Int) + (u : Int) = N 0 → (∀ i : Nat, i < k → ¬ (gm_and (gm_shr c (i : Int)) 1 = 1 ∧ ¬ (N (287 + (a * 6 + (i : Int)))) = (N (287 + (b * 6 + (i : Int)))))) → gm_Wp X LX d bc bs 51 3 [some (gm_vr 1), some (gm_vi a), some (gm_vi b), some (gm_vi c), some (gm_vi (k : Int))] [] n K R M Q := by
  obtain ⟨⟨⟨a0, b0⟩, ⟨a1, b1⟩, ⟨a10, b10⟩, ⟨a11, b11⟩, ⟨a12, b12⟩, a9, b9⟩, ⟨⟨a2, b2⟩, ⟨a5, b5⟩, ⟨a3, b3⟩, ⟨a4, b4⟩, ⟨a6, b6⟩, ⟨a14, b14⟩, ⟨a7, b7⟩, a13, b13⟩, rF, rP, rL⟩ := id hN
  intro u
  induction u with
  | zero =>
    intro k hk hx
    have e9 : apt N a b c = 0 := apt_0 (fun i i1 => hx i (by omega))
    rw [e9] at hq
    refine gm_sz (gm_p_load (pc := 3) (i := .iload 4) (sr := 0) (j := 4) (by decide +kernel) rfl rfl rfl) ?_
    refine gm_sz (gm_p_load (pc := 5) (i := .aload_n 0) (sr := 2) (j := 0) (by decide +kernel) rfl rfl rfl) ?_
    refine gm_sz (fw_gr (pc := 6) (ix := 23) (ci := 0) (j := 3) (r := 3) (by decide +kernel) (e0k hE (k := 1) (c := 0) (by decide +kernel)) (by decide +kernel) (by decide +kernel) (e0r hE (k := 1) (j := 3) (r := 3) (by decide +kernel))) ?_
    refine gm_sz (fw_gi (pc := 9) (ix := 351) (ci := 1) (j := 0) (x := N 0) (by decide +kernel) (e0k hE (k := 3) (c := 1) (by decide +kernel)) (by decide +kernel) (by decide +kernel) (ti_lan hT)) ?_
    refine fw_ict (cc := .ge) (pc := 12) (off := 50) (by decide +kernel) (by decide) ⟨by omega, by omega⟩ ⟨by omega, by omega⟩ (show (N 0) ≤ (k : Int) by omega) ?_
    refine gm_sz (gm_p_const (pc := 62) (i := .iconst 0) (v := gm_vi 0) (by decide +kernel) (by decide +kernel)) ?_
    exact gm_r_int (pc := 63) (by decide +kernel) (Or.inr ⟨(by decide +kernel), Or.inl rfl⟩) hq
  | succ u ih =>
    intro k hk hx
    refine gm_sz (gm_p_load (pc := 3) (i := .iload 4) (sr := 0) (j := 4) (by decide +kernel) rfl rfl rfl) ?_
    refine gm_sz (gm_p_load (pc := 5) (i := .aload_n 0) (sr := 2) (j := 0) (by decide +kernel) rfl rfl rfl) ?_
    refine gm_sz (fw_gr (pc := 6) (ix := 23) (ci := 0) (j := 3) (r := 3) (by decide +kernel) (e0k hE (k := 1) (c := 0) (by decide +kernel)) (by decide +kernel) (by decide +kernel) (e0r hE (k := 1) (j := 3) (r := 3) (by decide +kernel))) ?_
    refine gm_sz (fw_gi (pc := 9) (ix := 351) (ci := 1) (j := 0) (x := N 0) (by decide +kernel) (e0k hE (k := 3) (c := 1) (by decide +kernel)) (by decide +kernel) (by decide +kernel) (ti_lan hT)) ?_
    refine fw_icf (cc := .ge) (pc := 12) (off := 50) (by decide +kernel) (by decide) ⟨by omega, by omega⟩ ⟨by omega, by omega⟩ (show ¬ (N 0) ≤ (k : Int) by omega) ?_
    refine gm_sz (gm_p_load (pc := 15) (i := .iload_n 3) (sr := 0) (j := 3) (by decide +kernel) rfl rfl rfl) ?_
    refine gm_sz (gm_p_load (pc := 16) (i := .iload 4) (sr := 0) (j := 4) (by decide +kernel) rfl rfl rfl) ?_
    refine gm_sz (gm_p_bin (pc := 18) (i := .ishr) (f := gm_shr) (by decide +kernel) rfl) ?_
    refine gm_sz (gm_p_const (pc := 19) (i := .iconst 1) (v := gm_vi 1) (by decide +kernel) (by decide +kernel)) ?_
    refine gm_sz (gm_p_bin (pc := 20) (i := .iand) (f := gm_and) (by decide +kernel) rfl) ?_
    refine gm_sz (gm_p_const (pc := 21) (i := .iconst 1) (v := gm_vi 1) (by decide +kernel) (by decide +kernel)) ?_
    refine fw_ic (cc := .ne) (pc := 22) (off := 34) (by decide +kernel) (by decide) and_ir9 ⟨by decide, by decide⟩ (fun h22 => ?_) (fun h22 => ?_)
    · have h22 : ¬ (gm_and (gm_shr c (k : Int)) 1) = 1 := h22
      refine gm_sz (gm_p_iinc (pc := 56) (j := 4) (z := 1) (by decide +kernel) rfl) ?_
      refine gm_sz (gm_p_goto (pc := 59) (off := (-56)) (by decide +kernel) (by decide)) ?_
      have hn9 : ¬ (gm_and (gm_shr c (k : Int)) 1 = 1 ∧ ¬ (N (287 + (a * 6 + (k : Int)))) = (N (287 + (b * 6 + (k : Int))))) := by omega
      have hx2 : ∀ i : Nat, i < k + 1 → ¬ (gm_and (gm_shr c (i : Int)) 1 = 1 ∧ ¬ (N (287 + (a * 6 + (i : Int)))) = (N (287 + (b * 6 + (i : Int))))) := fun i hi => by
        by_cases e : i = k
        · subst e; exact hn9
        · exact hx i (by omega)
      have h9 := ih (k + 1) (by omega) hx2
      rw [show ((k + 1 : Nat) : Int) = (k : Int) + 1 by omega] at h9
      exact h9
    · have h22 : (gm_and (gm_shr c (k : Int)) 1) = 1 := Classical.not_not.mp h22
      refine gm_sz (gm_p_load (pc := 25) (i := .aload_n 0) (sr := 2) (j := 0) (by decide +kernel) rfl rfl rfl) ?_
      refine gm_sz (fw_gr (pc := 26) (ix := 23) (ci := 0) (j := 3) (r := 3) (by decide +kernel) (e0k hE (k := 1) (c := 0) (by decide +kernel)) (by decide +kernel) (by decide +kernel) (e0r hE (k := 1) (j := 3) (r := 3) (by decide +kernel))) ?_
      refine gm_sz (fw_gr (pc := 29) (ix := 344) (ci := 1) (j := 13) (r := 12) (by decide +kernel) (e0k hE (k := 3) (c := 1) (by decide +kernel)) (by decide +kernel) (by decide +kernel) (e0r hE (k := 3) (j := 13) (r := 12) (by decide +kernel))) ?_
      refine gm_sz (gm_p_load (pc := 32) (i := .iload_n 1) (sr := 0) (j := 1) (by decide +kernel) rfl rfl rfl) ?_
      refine gm_sz (gm_p_load (pc := 33) (i := .iload 4) (sr := 0) (j := 4) (by decide +kernel) rfl rfl rfl) ?_
      refine gm_c_virt (k := 12) (ci := 2) (mj := 10) (ix := 186) (pc := 35) (as := [gm_vi a, gm_vi (k : Int)]) (st := []) (d' := d - 1) (bc' := 0) (bs' := 0) (by decide +kernel) (by decide +kernel) (by decide +kernel) (by decide +kernel) (e0k hE (k := 12) (c := 2) (by decide +kernel)).1 (e0k hE (k := 12) (c := 2) (by decide +kernel)).2 (by decide) (by decide +kernel) (show 2 = gm_na 10 by decide +kernel) (fw_c2 fw_si fw_si) (show 3 ≤ gm_ml 10 by decide +kernel) (Nat.le_of_ble_eq_true rfl) (by omega) (Nat.zero_le _) (Nat.zero_le _) ?_
      refine rw_get (s := N 6) (w := 6) (x := N (287 + (a * 6 + (k : Int)))) (e0k hE (k := 12) (c := 2) (by decide +kernel)) (e0a hE (k := 13) (q := (0, 36)) (by decide +kernel)) (e0r hE (k := 12) (j := 2) (r := 13) (by decide +kernel)) (by decide) (ti_tab hT) (hT.1 (12, 1, 6) (by decide)) ⟨by omega, by omega⟩ ⟨by omega, by omega⟩ ⟨by omega, by omega⟩ ⟨by omega, by omega⟩ (ti_aT hT (by omega) (by omega)) ?_
      show gm_Wp X LX d _ _ 51 38 _ [gm_vi (N (287 + (a * 6 + (k : Int))))] n K _ _ Q
      refine gm_sz (gm_p_load (pc := 38) (i := .aload_n 0) (sr := 2) (j := 0) (by decide +kernel) rfl rfl rfl) ?_
      refine gm_sz (fw_gr (pc := 39) (ix := 23) (ci := 0) (j := 3) (r := 3) (by decide +kernel) (e0k hE (k := 1) (c := 0) (by decide +kernel)) (by decide +kernel) (by decide +kernel) (e0r hE (k := 1) (j := 3) (r := 3) (by decide +kernel))) ?_
      refine gm_sz (fw_gr (pc := 42) (ix := 344) (ci := 1) (j := 13) (r := 12) (by decide +kernel) (e0k hE (k := 3) (c := 1) (by decide +kernel)) (by decide +kernel) (by decide +kernel) (e0r hE (k := 3) (j := 13) (r := 12) (by decide +kernel))) ?_
      refine gm_sz (gm_p_load (pc := 45) (i := .iload_n 2) (sr := 0) (j := 2) (by decide +kernel) rfl rfl rfl) ?_
      refine gm_sz (gm_p_load (pc := 46) (i := .iload 4) (sr := 0) (j := 4) (by decide +kernel) rfl rfl rfl) ?_
      refine gm_c_virt (k := 12) (ci := 2) (mj := 10) (ix := 186) (pc := 48) (as := [gm_vi b, gm_vi (k : Int)]) (st := [gm_vi (N (287 + (a * 6 + (k : Int))))]) (d' := d - 1) (bc' := 0) (bs' := 0) (by decide +kernel) (by decide +kernel) (by decide +kernel) (by decide +kernel) (e0k hE (k := 12) (c := 2) (by decide +kernel)).1 (e0k hE (k := 12) (c := 2) (by decide +kernel)).2 (by decide) (by decide +kernel) (show 2 = gm_na 10 by decide +kernel) (fw_c2 fw_si fw_si) (show 3 ≤ gm_ml 10 by decide +kernel) (Nat.le_of_ble_eq_true rfl) (by omega) (Nat.zero_le _) (Nat.zero_le _) ?_
      refine rw_get (s := N 6) (w := 6) (x := N (287 + (b * 6 + (k : Int)))) (e0k hE (k := 12) (c := 2) (by decide +kernel)) (e0a hE (k := 13) (q := (0, 36)) (by decide +kernel)) (e0r hE (k := 12) (j := 2) (r := 13) (by decide +kernel)) (by decide) (ti_tab hT) (hT.1 (12, 1, 6) (by decide)) ⟨by omega, by omega⟩ ⟨by omega, by omega⟩ ⟨by omega, by omega⟩ ⟨by omega, by omega⟩ (ti_aT hT (by omega) (by omega)) ?_
      show gm_Wp X LX d _ _ 51 51 _ [gm_vi (N (287 + (b * 6 + (k : Int)))), gm_vi (N (287 + (a * 6 + (k : Int))))] n K _ _ Q
      refine fw_ic (cc := .eq) (pc := 51) (off := 5) (by decide +kernel) (by decide) (hir _) (hir _) (fun h51 => ?_) (fun h51 => ?_)
      · have h51 : (N (287 + (a * 6 + (k : Int)))) = (N (287 + (b * 6 + (k : Int)))) := h51
        refine gm_sz (gm_p_iinc (pc := 56) (j := 4) (z := 1) (by decide +kernel) rfl) ?_
        refine gm_sz (gm_p_goto (pc := 59) (off := (-56)) (by decide +kernel) (by decide)) ?_
        have hn9 : ¬ (gm_and (gm_shr c (k : Int)) 1 = 1 ∧ ¬ (N (287 + (a * 6 + (k : Int)))) = (N (287 + (b * 6 + (k : Int))))) := by omega
        have hx2 : ∀ i : Nat, i < k + 1 → ¬ (gm_and (gm_shr c (i : Int)) 1 = 1 ∧ ¬ (N (287 + (a * 6 + (i : Int)))) = (N (287 + (b * 6 + (i : Int))))) := fun i hi => by
          by_cases e : i = k
          · subst e; exact hn9
          · exact hx i (by omega)
        have h9 := ih (k + 1) (by omega) hx2
        rw [show ((k + 1 : Nat) : Int) = (k : Int) + 1 by omega] at h9
        exact h9
      · have h51 : ¬ (N (287 + (a * 6 + (k : Int)))) = (N (287 + (b * 6 + (k : Int)))) := h51
        refine gm_sz (gm_p_const (pc := 54) (i := .iconst 1) (v := gm_vi 1) (by decide +kernel) (by decide +kernel)) ?_
        have h9 : Q (.inl (some (gm_vi 1))) n K R M := by rw [apt_1 k (by omega) ⟨by omega, by omega⟩] at hq; exact hq
        exact gm_r_int (pc := 55) (by decide +kernel) (Or.inr ⟨(by decide +kernel), Or.inr rfl⟩) h9
theorem ta_51 (hd : 4 ≤ d) (hE : E0 n K R) (hT : TI N h sp M) (hN : NR N) (ha : 0 ≤ a ∧ a < N 6) (hb : 0 ≤ b ∧ b < N 6) (hir : irN N) (hq : Q (.inl (some (gm_vi (apt N a b c)))) n K R M) : gm_Wp X LX d bc bs 51 0 (gm_ent 51 [gm_vr 1, gm_vi a, gm_vi b, gm_vi c]) [] n K R M Q := by
  obtain ⟨⟨⟨a0, b0⟩, ⟨a1, b1⟩, ⟨a10, b10⟩, ⟨a11, b11⟩, ⟨a12, b12⟩, a9, b9⟩, ⟨⟨a2, b2⟩, ⟨a5, b5⟩, ⟨a3, b3⟩, ⟨a4, b4⟩, ⟨a6, b6⟩, ⟨a14, b14⟩, ⟨a7, b7⟩, a13, b13⟩, rF, rP, rL⟩ := id hN
  refine gm_sz (gm_p_const (pc := 0) (i := .iconst 0) (v := gm_vi 0) (by decide +kernel) (by decide +kernel)) ?_
  refine gm_sz (gm_p_stor (pc := 1) (i := .istore 4) (sr := 0) (j := 4) (by decide +kernel) rfl (show 5 ≤ _ from Nat.le_of_ble_eq_true rfl) rfl) ?_
  exact ta_l hd hE hT hN ha hb hir hq (N 0).toNat 0 (by omega) (fun i hi => absurd hi (Nat.not_lt_zero _))
theorem cl_apart (hd : 14 ≤ d) (hbc : 4 ≤ bc) (hbs : 24 ≤ bs) (hE : E0 n K R) (hT : TI N h sp M) (hN : NR N) (hir : irN N) (hi : gm_ir a) (hi2 : gm_ir b) (kv : (0 ≤ a ∧ a < N 6) ∧ (0 ≤ b ∧ b < N 6) → Q (.inl (some (gm_vi (apt N a b c)))) n K R M) (k3 : ¬ ((0 ≤ a ∧ a < N 6) ∧ (0 ≤ b ∧ b < N 6)) → Q (.inr 3) n K R M) : gm_Wp X LX d bc bs 195 0 (gm_ent 195 [gm_vr 1, gm_vi a, gm_vi b, gm_vi c]) [] n K R M Q := by
  obtain ⟨⟨⟨a0, b0⟩, ⟨a1, b1⟩, ⟨a10, b10⟩, ⟨a11, b11⟩, ⟨a12, b12⟩, a9, b9⟩, ⟨⟨a2, b2⟩, ⟨a5, b5⟩, ⟨a3, b3⟩, ⟨a4, b4⟩, ⟨a6, b6⟩, ⟨a14, b14⟩, ⟨a7, b7⟩, a13, b13⟩, rF, rP, rL⟩ := id hN
  refine gm_sz (gm_p_load (pc := 0) (i := .aload_n 0) (sr := 2) (j := 0) (by decide +kernel) rfl rfl rfl) ?_
  refine gm_sz (gm_p_load (pc := 1) (i := .iload_n 1) (sr := 0) (j := 1) (by decide +kernel) rfl rfl rfl) ?_
  refine gm_c_virt (k := 1) (ci := 0) (mj := 193) (ix := 341) (pc := 2) (as := [gm_vi a]) (st := []) (d' := d - 1) (bc' := 1) (bs' := 6) (by decide +kernel) (by decide +kernel) (by decide +kernel) (by decide +kernel) (e0k hE (k := 1) (c := 0) (by decide +kernel)).1 (e0k hE (k := 1) (c := 0) (by decide +kernel)).2 (by decide) (by decide +kernel) (show 1 = gm_na 193 by decide +kernel) (fw_c1 fw_si) (show 2 ≤ gm_ml 193 by decide +kernel) (Nat.le_of_ble_eq_true rfl) (by omega) (by omega) (by omega) ?_
  refine nd_193 (i := a) (by omega) (by omega) (by omega) hE hT hN hi (fun c2 => ?_) (fun c2 => ?_)
  · show gm_Wp X LX d _ _ 195 5 _ [] n K _ _ Q
    have c2 : 0 ≤ a ∧ a < N 6 := c2
    refine gm_sz (gm_p_load (pc := 5) (i := .aload_n 0) (sr := 2) (j := 0) (by decide +kernel) rfl rfl rfl) ?_
    refine gm_sz (gm_p_load (pc := 6) (i := .iload_n 2) (sr := 0) (j := 2) (by decide +kernel) rfl rfl rfl) ?_
    refine gm_c_virt (k := 1) (ci := 0) (mj := 193) (ix := 341) (pc := 7) (as := [gm_vi b]) (st := []) (d' := d - 1) (bc' := 1) (bs' := 6) (by decide +kernel) (by decide +kernel) (by decide +kernel) (by decide +kernel) (e0k hE (k := 1) (c := 0) (by decide +kernel)).1 (e0k hE (k := 1) (c := 0) (by decide +kernel)).2 (by decide) (by decide +kernel) (show 1 = gm_na 193 by decide +kernel) (fw_c1 fw_si) (show 2 ≤ gm_ml 193 by decide +kernel) (Nat.le_of_ble_eq_true rfl) (by omega) (by omega) (by omega) ?_
    refine nd_193 (i := b) (by omega) (by omega) (by omega) hE hT hN hi2 (fun c7 => ?_) (fun c7 => ?_)
    · show gm_Wp X LX d _ _ 195 10 _ [] n K _ _ Q
      have c7 : 0 ≤ b ∧ b < N 6 := c7
      refine gm_sz (gm_p_load (pc := 10) (i := .aload_n 0) (sr := 2) (j := 0) (by decide +kernel) rfl rfl rfl) ?_
      refine gm_sz (gm_p_load (pc := 11) (i := .iload_n 1) (sr := 0) (j := 1) (by decide +kernel) rfl rfl rfl) ?_
      refine gm_sz (gm_p_load (pc := 12) (i := .iload_n 2) (sr := 0) (j := 2) (by decide +kernel) rfl rfl rfl) ?_
      refine gm_sz (gm_p_load (pc := 13) (i := .iload_n 3) (sr := 0) (j := 3) (by decide +kernel) rfl rfl rfl) ?_
      refine gm_c_virt (k := 1) (ci := 0) (mj := 51) (ix := 347) (pc := 14) (as := [gm_vi a, gm_vi b, gm_vi c]) (st := []) (d' := d - 1) (bc' := 0) (bs' := 0) (by decide +kernel) (by decide +kernel) (by decide +kernel) (by decide +kernel) (e0k hE (k := 1) (c := 0) (by decide +kernel)).1 (e0k hE (k := 1) (c := 0) (by decide +kernel)).2 (by decide) (by decide +kernel) (show 3 = gm_na 51 by decide +kernel) (fw_c3 fw_si fw_si fw_si) (show 4 ≤ gm_ml 51 by decide +kernel) (Nat.le_of_ble_eq_true rfl) (by omega) (Nat.zero_le _) (Nat.zero_le _) ?_
      refine ta_51 (a := a) (b := b) (c := c) (by omega) hE hT hN ⟨by omega, by omega⟩ ⟨by omega, by omega⟩ hir ?_
      show gm_Wp X LX d _ _ 195 17 _ [gm_vi (apt N a b c)] n K _ _ Q
      have a01 : apt N a b c = 0 ∨ apt N a b c = 1 := by
        unfold apt
        by_cases hh : ∃ i : Nat, (i : Int) < N 0 ∧ (gm_and (gm_shr c (i : Int)) 1 = 1 ∧ ¬ (N (287 + (a * 6 + (i : Int)))) = (N (287 + (b * 6 + (i : Int)))))
        · rw [if_pos hh]; exact Or.inr rfl
        · rw [if_neg hh]; exact Or.inl rfl
      exact gm_r_int (pc := 17) (by decide +kernel) (Or.inr ⟨(by decide +kernel), a01⟩) (kv ⟨⟨by omega, by omega⟩, by omega, by omega⟩)
    · show Q (.inr 3) n K _ _
      have c7 : ¬ (0 ≤ b ∧ b < N 6) := c7
      exact (k3 (by omega))
  · show Q (.inr 3) n K _ _
    have c2 : ¬ (0 ≤ a ∧ a < N 6) := c2
    exact (k3 (by omega))
theorem ha_346 (q1 : gm_and (gm_shr c x) 1 = 1 → Q (.inl (some (gm_vi 1))) n K R M) (q0 : ¬ gm_and (gm_shr c x) 1 = 1 → Q (.inl (some (gm_vi 0))) n K R M) : gm_Wp X LX d bc bs 346 0 (gm_ent 346 [gm_vi c, gm_vi x]) [] n K R M Q := by
  refine gm_sz (gm_p_load (pc := 0) (i := .iload_n 0) (sr := 0) (j := 0) (by decide +kernel) rfl rfl rfl) ?_
  refine gm_sz (gm_p_load (pc := 1) (i := .iload_n 1) (sr := 0) (j := 1) (by decide +kernel) rfl rfl rfl) ?_
  refine gm_sz (gm_p_bin (pc := 2) (i := .ishr) (f := gm_shr) (by decide +kernel) rfl) ?_
  refine gm_sz (gm_p_const (pc := 3) (i := .iconst 1) (v := gm_vi 1) (by decide +kernel) (by decide +kernel)) ?_
  refine gm_sz (gm_p_bin (pc := 4) (i := .iand) (f := gm_and) (by decide +kernel) rfl) ?_
  refine gm_sz (gm_p_const (pc := 5) (i := .iconst 1) (v := gm_vi 1) (by decide +kernel) (by decide +kernel)) ?_
  refine fw_ic (cc := .ne) (pc := 6) (off := 7) (by decide +kernel) (by decide) and_ir9 ⟨by decide, by decide⟩ (fun h6 => ?_) (fun h6 => ?_)
  · have h6 : ¬ (gm_and (gm_shr c x) 1) = 1 := h6
    refine gm_sz (gm_p_const (pc := 13) (i := .iconst 0) (v := gm_vi 0) (by decide +kernel) (by decide +kernel)) ?_
    exact gm_r_int (pc := 14) (by decide +kernel) (Or.inr ⟨(by decide +kernel), Or.inl rfl⟩) (q0 (by omega))
  · have h6 : (gm_and (gm_shr c x) 1) = 1 := Classical.not_not.mp h6
    refine gm_sz (gm_p_const (pc := 9) (i := .iconst 1) (v := gm_vi 1) (by decide +kernel) (by decide +kernel)) ?_
    refine gm_sz (gm_p_goto (pc := 10) (off := 4) (by decide +kernel) (by decide)) ?_
    exact gm_r_int (pc := 14) (by decide +kernel) (Or.inr ⟨(by decide +kernel), Or.inr rfl⟩) (q1 (by omega))
theorem ot_343 (hE : E0 n K R) (hT : TR N h M) (hN : NR N) (h1 : 0 ≤ l ∧ l < N 6) (h2 : 0 ≤ x ∧ x < 6) (hq : Q (.inl (some (gm_vi ((N (287 + (l * 6 + x))))))) n K R M) : gm_Wp X LX d bc bs 343 0 (gm_ent 343 [gm_vr 226, gm_vi l, gm_vi x]) [] n K R M Q := by
  obtain ⟨⟨⟨a0, b0⟩, ⟨a1, b1⟩, ⟨a10, b10⟩, ⟨a11, b11⟩, ⟨a12, b12⟩, a9, b9⟩, ⟨⟨a2, b2⟩, ⟨a5, b5⟩, ⟨a3, b3⟩, ⟨a4, b4⟩, ⟨a6, b6⟩, ⟨a14, b14⟩, ⟨a7, b7⟩, a13, b13⟩, rF, rP, rL⟩ := id hN
  refine gm_sz (gm_p_load (pc := 0) (i := .aload_n 0) (sr := 2) (j := 0) (by decide +kernel) rfl rfl rfl) ?_
  refine gm_sz (fw_gr (pc := 1) (ix := 13) (ci := 11) (j := 1) (r := 227) (by decide +kernel) (e0k hE (k := 226) (c := 11) (by decide +kernel)) (by decide +kernel) (by decide +kernel) (e0r hE (k := 226) (j := 1) (r := 227) (by decide +kernel))) ?_
  refine gm_sz (gm_p_const (pc := 4) (i := .sipush 287) (v := gm_vi 287) (by decide +kernel) (by decide +kernel)) ?_
  refine gm_sz (gm_p_const (pc := 7) (i := .bipush 6) (v := gm_vi 6) (by decide +kernel) (by decide +kernel)) ?_
  refine gm_sz (gm_p_load (pc := 9) (i := .iload_n 1) (sr := 0) (j := 1) (by decide +kernel) rfl rfl rfl) ?_
  refine gm_sz (gm_p_bin (pc := 10) (i := .imul) (f := fun x y => x * y) (by decide +kernel) rfl) ?_
  refine gm_sz (gm_p_bin (pc := 11) (i := .iadd) (f := fun x y => x + y) (by decide +kernel) rfl) ?_
  refine gm_sz (gm_p_load (pc := 12) (i := .iload_n 2) (sr := 0) (j := 2) (by decide +kernel) rfl rfl rfl) ?_
  refine gm_sz (gm_p_bin (pc := 13) (i := .iadd) (f := fun x y => x + y) (by decide +kernel) rfl) ?_
  refine gm_sz (fw_ia (pc := 14) (k := 227) (len := 2093) (e0 := (287 + (6 * l)) + x) (x := N (287 + (l * 6 + x))) (by decide +kernel) (e0a hE (k := 227) (q := (0, 2093)) (by decide +kernel)).1 (e0a hE (k := 227) (q := (0, 2093)) (by decide +kernel)).2 (by decide) ⟨by omega, by omega⟩ (tr_x hT (show (287 + (6 * l)) + x = (287 + (l * 6 + x)) by omega) (by omega) (by omega) (by omega))) ?_
  exact gm_r_int (pc := 15) (by decide +kernel) (Or.inl (by decide +kernel)) hq
theorem aa_l (hd : 4 ≤ d) (hE : E0 n K R) (hT : TR N h M) (hN : NR N) (ha : 0 ≤ a ∧ a < N 6) (hb : 0 ≤ b ∧ b < N 6) (hir : irN N) (hq : Q (.inl (some (gm_vi (apt N a b c)))) n K R M) : ∀ (u k : Nat) (z : Int), (k : Int) + (u : Int) = N 0 → ((z = 1 ∧ ∃ i : Nat, i < k ∧ (gm_and (gm_shr c (i : Int)) 1 = 1 ∧ ¬ (N (287 + (a * 6 + (i : Int)))) = (N (287 + (b * 6 + (i : Int)))))) ∨ (z = 0 ∧ ∀ i : Nat, i < k → ¬ (gm_and (gm_shr c (i : Int)) 1 = 1 ∧ ¬ (N (287 + (a * 6 + (i : Int)))) = (N (287 + (b * 6 + (i : Int))))))) → gm_Wp X LX d bc bs 345 6 [some (gm_vr 226), some (gm_vi a), some (gm_vi b), some (gm_vi c), some (gm_vi z), some (gm_vi (k : Int))] [] n K R M Q := by
  obtain ⟨⟨⟨a0, b0⟩, ⟨a1, b1⟩, ⟨a10, b10⟩, ⟨a11, b11⟩, ⟨a12, b12⟩, a9, b9⟩, ⟨⟨a2, b2⟩, ⟨a5, b5⟩, ⟨a3, b3⟩, ⟨a4, b4⟩, ⟨a6, b6⟩, ⟨a14, b14⟩, ⟨a7, b7⟩, a13, b13⟩, rF, rP, rL⟩ := id hN
  intro u
  induction u with
  | zero =>
    intro k z hk hz
    have hzi : z = 0 ∨ z = 1 := by rcases hz with ⟨hz, -⟩ | ⟨hz, -⟩ <;> omega
    have e9 : apt N a b c = z := by
      rcases hz with ⟨hz, i, i1, i2⟩ | ⟨hz, hx⟩
      · rw [hz]; exact apt_1 i (by omega) i2
      · rw [hz]; exact apt_0 (fun i i1 => hx i (by omega))
    rw [e9] at hq
    refine gm_sz (gm_p_load (pc := 6) (i := .iload 5) (sr := 0) (j := 5) (by decide +kernel) rfl rfl rfl) ?_
    refine gm_sz (gm_p_load (pc := 8) (i := .aload_n 0) (sr := 2) (j := 0) (by decide +kernel) rfl rfl rfl) ?_
    refine gm_c_virt (k := 226) (ci := 11) (mj := 261) (ix := 86) (pc := 9) (as := []) (st := [gm_vi (k : Int)]) (d' := d - 1) (bc' := 0) (bs' := 0) (by decide +kernel) (by decide +kernel) (by decide +kernel) (by decide +kernel) (e0k hE (k := 226) (c := 11) (by decide +kernel)).1 (e0k hE (k := 226) (c := 11) (by decide +kernel)).2 (by decide) (by decide +kernel) (show 0 = gm_na 261 by decide +kernel) fw_c0 (show 1 ≤ gm_ml 261 by decide +kernel) (Nat.le_of_ble_eq_true rfl) (by omega) (Nat.zero_le _) (Nat.zero_le _) ?_
    refine re_lan hE hT hN ?_
    show gm_Wp X LX d _ _ 345 12 _ [gm_vi (N 0), gm_vi (k : Int)] n K _ _ Q
    refine fw_ict (cc := .ge) (pc := 12) (off := 47) (by decide +kernel) (by decide) ⟨by omega, by omega⟩ ⟨by omega, by omega⟩ (show (N 0) ≤ (k : Int) by omega) ?_
    refine gm_sz (gm_p_load (pc := 59) (i := .iload 4) (sr := 0) (j := 4) (by decide +kernel) rfl rfl rfl) ?_
    exact gm_r_int (pc := 61) (by decide +kernel) (Or.inr ⟨(by decide +kernel), hzi⟩) hq
  | succ u ih =>
    intro k z hk hz
    have hzi : gm_ir z := by rcases hz with ⟨hz, -⟩ | ⟨hz, -⟩ <;> rw [hz] <;> exact ⟨by decide, by decide⟩
    refine gm_sz (gm_p_load (pc := 6) (i := .iload 5) (sr := 0) (j := 5) (by decide +kernel) rfl rfl rfl) ?_
    refine gm_sz (gm_p_load (pc := 8) (i := .aload_n 0) (sr := 2) (j := 0) (by decide +kernel) rfl rfl rfl) ?_
    refine gm_c_virt (k := 226) (ci := 11) (mj := 261) (ix := 86) (pc := 9) (as := []) (st := [gm_vi (k : Int)]) (d' := d - 1) (bc' := 0) (bs' := 0) (by decide +kernel) (by decide +kernel) (by decide +kernel) (by decide +kernel) (e0k hE (k := 226) (c := 11) (by decide +kernel)).1 (e0k hE (k := 226) (c := 11) (by decide +kernel)).2 (by decide) (by decide +kernel) (show 0 = gm_na 261 by decide +kernel) fw_c0 (show 1 ≤ gm_ml 261 by decide +kernel) (Nat.le_of_ble_eq_true rfl) (by omega) (Nat.zero_le _) (Nat.zero_le _) ?_
    refine re_lan hE hT hN ?_
    show gm_Wp X LX d _ _ 345 12 _ [gm_vi (N 0), gm_vi (k : Int)] n K _ _ Q
    refine fw_icf (cc := .ge) (pc := 12) (off := 47) (by decide +kernel) (by decide) ⟨by omega, by omega⟩ ⟨by omega, by omega⟩ (show ¬ (N 0) ≤ (k : Int) by omega) ?_
    refine gm_sz (gm_p_load (pc := 15) (i := .iload 4) (sr := 0) (j := 4) (by decide +kernel) rfl rfl rfl) ?_
    refine fw_if (cc := .ne) (pc := 17) (off := 29) (by decide +kernel) (by decide) hzi (fun h17 => ?_) (fun h17 => ?_)
    · have h17 : ¬ z = 0 := h17
      refine gm_sz (gm_p_const (pc := 46) (i := .iconst 1) (v := gm_vi 1) (by decide +kernel) (by decide +kernel)) ?_
      refine gm_sz (gm_p_goto (pc := 47) (off := 4) (by decide +kernel) (by decide)) ?_
      refine gm_sz (gm_p_stor (pc := 51) (i := .istore 4) (sr := 0) (j := 4) (by decide +kernel) rfl (show 5 ≤ _ from Nat.le_of_ble_eq_true rfl) rfl) ?_
      refine gm_sz (gm_p_iinc (pc := 53) (j := 5) (z := 1) (by decide +kernel) rfl) ?_
      refine gm_sz (gm_p_goto (pc := 56) (off := (-50)) (by decide +kernel) (by decide)) ?_
      have hz2 : (((1 : Int) = 1 ∧ ∃ i : Nat, i < k + 1 ∧ (gm_and (gm_shr c (i : Int)) 1 = 1 ∧ ¬ (N (287 + (a * 6 + (i : Int)))) = (N (287 + (b * 6 + (i : Int)))))) ∨ ((1 : Int) = 0 ∧ ∀ i : Nat, i < k + 1 → ¬ (gm_and (gm_shr c (i : Int)) 1 = 1 ∧ ¬ (N (287 + (a * 6 + (i : Int)))) = (N (287 + (b * 6 + (i : Int))))))) := by
        rcases hz with ⟨hz, i, i1, i2⟩ | ⟨hz, hx⟩
        · exact Or.inl ⟨rfl, i, by omega, i2⟩
        · exact Or.inl ⟨rfl, k, by omega, by omega, by omega⟩
      have h9 := ih (k + 1) 1 (by omega) hz2
      rw [show ((k + 1 : Nat) : Int) = (k : Int) + 1 by omega] at h9
      exact h9
    · have h17 : z = 0 := Classical.not_not.mp h17
      refine gm_sz (gm_p_load (pc := 20) (i := .iload_n 3) (sr := 0) (j := 3) (by decide +kernel) rfl rfl rfl) ?_
      refine gm_sz (gm_p_load (pc := 21) (i := .iload 5) (sr := 0) (j := 5) (by decide +kernel) rfl rfl rfl) ?_
      refine gm_c_stat (mj := 346) (ix := 454) (pc := 23) (as := [gm_vi c, gm_vi (k : Int)]) (st := []) (d' := d - 1) (bc' := 0) (bs' := 0) (by decide +kernel) (by decide +kernel) (by decide +kernel) (by decide +kernel) (show 2 = gm_na 346 by decide +kernel) (fw_c2 fw_si fw_si) (show 2 ≤ gm_ml 346 by decide +kernel) (Nat.le_of_ble_eq_true rfl) (by omega) (Nat.zero_le _) (Nat.zero_le _) ?_
      refine ha_346 (c := c) (x := (k : Int)) (fun w1 => ?_) (fun w1 => ?_)
      · show gm_Wp X LX d _ _ 345 26 _ [gm_vi 1] n K _ _ Q
        have w1 : gm_and (gm_shr c (k : Int)) 1 = 1 := w1
        refine fw_iffd (cc := .eq) (pc := 26) (off := 24) (by decide +kernel) (by decide) ⟨by decide, by decide⟩ (by decide) ?_
        refine gm_sz (gm_p_load (pc := 29) (i := .aload_n 0) (sr := 2) (j := 0) (by decide +kernel) rfl rfl rfl) ?_
        refine gm_sz (gm_p_load (pc := 30) (i := .iload_n 1) (sr := 0) (j := 1) (by decide +kernel) rfl rfl rfl) ?_
        refine gm_sz (gm_p_load (pc := 31) (i := .iload 5) (sr := 0) (j := 5) (by decide +kernel) rfl rfl rfl) ?_
        refine gm_c_virt (k := 226) (ci := 11) (mj := 343) (ix := 451) (pc := 33) (as := [gm_vi a, gm_vi (k : Int)]) (st := []) (d' := d - 1) (bc' := 0) (bs' := 0) (by decide +kernel) (by decide +kernel) (by decide +kernel) (by decide +kernel) (e0k hE (k := 226) (c := 11) (by decide +kernel)).1 (e0k hE (k := 226) (c := 11) (by decide +kernel)).2 (by decide) (by decide +kernel) (show 2 = gm_na 343 by decide +kernel) (fw_c2 fw_si fw_si) (show 3 ≤ gm_ml 343 by decide +kernel) (Nat.le_of_ble_eq_true rfl) (by omega) (Nat.zero_le _) (Nat.zero_le _) ?_
        refine ot_343 hE hT hN ⟨by omega, by omega⟩ ⟨by omega, by omega⟩ ?_
        show gm_Wp X LX d _ _ 345 36 _ [gm_vi ((N (287 + (a * 6 + (k : Int)))))] n K _ _ Q
        refine gm_sz (gm_p_load (pc := 36) (i := .aload_n 0) (sr := 2) (j := 0) (by decide +kernel) rfl rfl rfl) ?_
        refine gm_sz (gm_p_load (pc := 37) (i := .iload_n 2) (sr := 0) (j := 2) (by decide +kernel) rfl rfl rfl) ?_
        refine gm_sz (gm_p_load (pc := 38) (i := .iload 5) (sr := 0) (j := 5) (by decide +kernel) rfl rfl rfl) ?_
        refine gm_c_virt (k := 226) (ci := 11) (mj := 343) (ix := 451) (pc := 40) (as := [gm_vi b, gm_vi (k : Int)]) (st := [gm_vi ((N (287 + (a * 6 + (k : Int)))))]) (d' := d - 1) (bc' := 0) (bs' := 0) (by decide +kernel) (by decide +kernel) (by decide +kernel) (by decide +kernel) (e0k hE (k := 226) (c := 11) (by decide +kernel)).1 (e0k hE (k := 226) (c := 11) (by decide +kernel)).2 (by decide) (by decide +kernel) (show 2 = gm_na 343 by decide +kernel) (fw_c2 fw_si fw_si) (show 3 ≤ gm_ml 343 by decide +kernel) (Nat.le_of_ble_eq_true rfl) (by omega) (Nat.zero_le _) (Nat.zero_le _) ?_
        refine ot_343 hE hT hN ⟨by omega, by omega⟩ ⟨by omega, by omega⟩ ?_
        show gm_Wp X LX d _ _ 345 43 _ [gm_vi ((N (287 + (b * 6 + (k : Int))))), gm_vi ((N (287 + (a * 6 + (k : Int)))))] n K _ _ Q
        refine fw_ic (cc := .eq) (pc := 43) (off := 7) (by decide +kernel) (by decide) (hir _) (hir _) (fun h43 => ?_) (fun h43 => ?_)
        · have h43 : ((N (287 + (a * 6 + (k : Int))))) = ((N (287 + (b * 6 + (k : Int))))) := h43
          refine gm_sz (gm_p_const (pc := 50) (i := .iconst 0) (v := gm_vi 0) (by decide +kernel) (by decide +kernel)) ?_
          refine gm_sz (gm_p_stor (pc := 51) (i := .istore 4) (sr := 0) (j := 4) (by decide +kernel) rfl (show 5 ≤ _ from Nat.le_of_ble_eq_true rfl) rfl) ?_
          refine gm_sz (gm_p_iinc (pc := 53) (j := 5) (z := 1) (by decide +kernel) rfl) ?_
          refine gm_sz (gm_p_goto (pc := 56) (off := (-50)) (by decide +kernel) (by decide)) ?_
          have hz2 : (((0 : Int) = 1 ∧ ∃ i : Nat, i < k + 1 ∧ (gm_and (gm_shr c (i : Int)) 1 = 1 ∧ ¬ (N (287 + (a * 6 + (i : Int)))) = (N (287 + (b * 6 + (i : Int)))))) ∨ ((0 : Int) = 0 ∧ ∀ i : Nat, i < k + 1 → ¬ (gm_and (gm_shr c (i : Int)) 1 = 1 ∧ ¬ (N (287 + (a * 6 + (i : Int)))) = (N (287 + (b * 6 + (i : Int))))))) := by
            rcases hz with ⟨hz, i, i1, i2⟩ | ⟨hz, hx⟩
            · omega
            · refine Or.inr ⟨rfl, fun i hi => ?_⟩
              by_cases e : i = k
              · subst e; have hn9 : ¬ (gm_and (gm_shr c (i : Int)) 1 = 1 ∧ ¬ (N (287 + (a * 6 + (i : Int)))) = (N (287 + (b * 6 + (i : Int))))) := by omega
                exact hn9
              · exact hx i (by omega)
          have h9 := ih (k + 1) 0 (by omega) hz2
          rw [show ((k + 1 : Nat) : Int) = (k : Int) + 1 by omega] at h9
          exact h9
        · have h43 : ¬ ((N (287 + (a * 6 + (k : Int))))) = ((N (287 + (b * 6 + (k : Int))))) := h43
          refine gm_sz (gm_p_const (pc := 46) (i := .iconst 1) (v := gm_vi 1) (by decide +kernel) (by decide +kernel)) ?_
          refine gm_sz (gm_p_goto (pc := 47) (off := 4) (by decide +kernel) (by decide)) ?_
          refine gm_sz (gm_p_stor (pc := 51) (i := .istore 4) (sr := 0) (j := 4) (by decide +kernel) rfl (show 5 ≤ _ from Nat.le_of_ble_eq_true rfl) rfl) ?_
          refine gm_sz (gm_p_iinc (pc := 53) (j := 5) (z := 1) (by decide +kernel) rfl) ?_
          refine gm_sz (gm_p_goto (pc := 56) (off := (-50)) (by decide +kernel) (by decide)) ?_
          have hz2 : (((1 : Int) = 1 ∧ ∃ i : Nat, i < k + 1 ∧ (gm_and (gm_shr c (i : Int)) 1 = 1 ∧ ¬ (N (287 + (a * 6 + (i : Int)))) = (N (287 + (b * 6 + (i : Int)))))) ∨ ((1 : Int) = 0 ∧ ∀ i : Nat, i < k + 1 → ¬ (gm_and (gm_shr c (i : Int)) 1 = 1 ∧ ¬ (N (287 + (a * 6 + (i : Int)))) = (N (287 + (b * 6 + (i : Int))))))) := by
            rcases hz with ⟨hz, i, i1, i2⟩ | ⟨hz, hx⟩
            · exact Or.inl ⟨rfl, i, by omega, i2⟩
            · exact Or.inl ⟨rfl, k, by omega, by omega, by omega⟩
          have h9 := ih (k + 1) 1 (by omega) hz2
          rw [show ((k + 1 : Nat) : Int) = (k : Int) + 1 by omega] at h9
          exact h9
      · show gm_Wp X LX d _ _ 345 26 _ [gm_vi 0] n K _ _ Q
        have w1 : ¬ gm_and (gm_shr c (k : Int)) 1 = 1 := w1
        refine fw_iftd (cc := .eq) (pc := 26) (off := 24) (by decide +kernel) (by decide) ⟨by decide, by decide⟩ (by decide) ?_
        refine gm_sz (gm_p_const (pc := 50) (i := .iconst 0) (v := gm_vi 0) (by decide +kernel) (by decide +kernel)) ?_
        refine gm_sz (gm_p_stor (pc := 51) (i := .istore 4) (sr := 0) (j := 4) (by decide +kernel) rfl (show 5 ≤ _ from Nat.le_of_ble_eq_true rfl) rfl) ?_
        refine gm_sz (gm_p_iinc (pc := 53) (j := 5) (z := 1) (by decide +kernel) rfl) ?_
        refine gm_sz (gm_p_goto (pc := 56) (off := (-50)) (by decide +kernel) (by decide)) ?_
        have hz2 : (((0 : Int) = 1 ∧ ∃ i : Nat, i < k + 1 ∧ (gm_and (gm_shr c (i : Int)) 1 = 1 ∧ ¬ (N (287 + (a * 6 + (i : Int)))) = (N (287 + (b * 6 + (i : Int)))))) ∨ ((0 : Int) = 0 ∧ ∀ i : Nat, i < k + 1 → ¬ (gm_and (gm_shr c (i : Int)) 1 = 1 ∧ ¬ (N (287 + (a * 6 + (i : Int)))) = (N (287 + (b * 6 + (i : Int))))))) := by
          rcases hz with ⟨hz, i, i1, i2⟩ | ⟨hz, hx⟩
          · omega
          · refine Or.inr ⟨rfl, fun i hi => ?_⟩
            by_cases e : i = k
            · subst e; have hn9 : ¬ (gm_and (gm_shr c (i : Int)) 1 = 1 ∧ ¬ (N (287 + (a * 6 + (i : Int)))) = (N (287 + (b * 6 + (i : Int))))) := by omega
              exact hn9
            · exact hx i (by omega)
        have h9 := ih (k + 1) 0 (by omega) hz2
        rw [show ((k + 1 : Nat) : Int) = (k : Int) + 1 by omega] at h9
        exact h9
theorem aa_345 (hd : 4 ≤ d) (hE : E0 n K R) (hT : TR N h M) (hN : NR N) (ha : 0 ≤ a ∧ a < N 6) (hb : 0 ≤ b ∧ b < N 6) (hir : irN N) (hq : Q (.inl (some (gm_vi (apt N a b c)))) n K R M) : gm_Wp X LX d bc bs 345 0 (gm_ent 345 [gm_vr 226, gm_vi a, gm_vi b, gm_vi c]) [] n K R M Q := by
  obtain ⟨⟨⟨a0, b0⟩, ⟨a1, b1⟩, ⟨a10, b10⟩, ⟨a11, b11⟩, ⟨a12, b12⟩, a9, b9⟩, ⟨⟨a2, b2⟩, ⟨a5, b5⟩, ⟨a3, b3⟩, ⟨a4, b4⟩, ⟨a6, b6⟩, ⟨a14, b14⟩, ⟨a7, b7⟩, a13, b13⟩, rF, rP, rL⟩ := id hN
  refine gm_sz (gm_p_const (pc := 0) (i := .iconst 0) (v := gm_vi 0) (by decide +kernel) (by decide +kernel)) ?_
  refine gm_sz (gm_p_stor (pc := 1) (i := .istore 4) (sr := 0) (j := 4) (by decide +kernel) rfl (show 5 ≤ _ from Nat.le_of_ble_eq_true rfl) rfl) ?_
  refine gm_sz (gm_p_const (pc := 3) (i := .iconst 0) (v := gm_vi 0) (by decide +kernel) (by decide +kernel)) ?_
  refine gm_sz (gm_p_stor (pc := 4) (i := .istore 5) (sr := 0) (j := 5) (by decide +kernel) rfl (show 6 ≤ _ from Nat.le_of_ble_eq_true rfl) rfl) ?_
  exact aa_l hd hE hT hN ha hb hir hq (N 0).toNat 0 _ (by omega) (Or.inr ⟨rfl, fun i hi => absurd hi (Nat.not_lt_zero _)⟩)
theorem re_apart (hd : 6 ≤ d) (hE : E0 n K R) (hT : TR N h M) (hN : NR N) (hir : irN N) (hi : gm_ir a) (hi2 : gm_ir b) (kv : (0 ≤ a ∧ a < N 6) ∧ (0 ≤ b ∧ b < N 6) → ∀ M2, M2 226 0 = 0 → Q (.inl (some (gm_vi (apt N a b c)))) n K R M2) (k1 : ¬ ((0 ≤ a ∧ a < N 6) ∧ (0 ≤ b ∧ b < N 6)) → ∀ M2, M2 226 0 = 1 → Q (.inl (some (gm_vi 0))) n K R M2) : gm_Wp X LX d bc bs 344 0 (gm_ent 344 [gm_vr 226, gm_vi a, gm_vi b, gm_vi c]) [] n K R M Q := by
  obtain ⟨⟨⟨a0, b0⟩, ⟨a1, b1⟩, ⟨a10, b10⟩, ⟨a11, b11⟩, ⟨a12, b12⟩, a9, b9⟩, ⟨⟨a2, b2⟩, ⟨a5, b5⟩, ⟨a3, b3⟩, ⟨a4, b4⟩, ⟨a6, b6⟩, ⟨a14, b14⟩, ⟨a7, b7⟩, a13, b13⟩, rF, rP, rL⟩ := id hN
  have a01 : apt N a b c = 0 ∨ apt N a b c = 1 := by
    unfold apt
    by_cases hh : ∃ i : Nat, (i : Int) < N 0 ∧ (gm_and (gm_shr c (i : Int)) 1 = 1 ∧ ¬ (N (287 + (a * 6 + (i : Int)))) = (N (287 + (b * 6 + (i : Int)))))
    · rw [if_pos hh]; exact Or.inr rfl
    · rw [if_neg hh]; exact Or.inl rfl
  refine gm_sz (gm_p_load (pc := 0) (i := .aload_n 0) (sr := 2) (j := 0) (by decide +kernel) rfl rfl rfl) ?_
  refine gm_sz (gm_p_const (pc := 1) (i := .iconst 0) (v := gm_vi 0) (by decide +kernel) (by decide +kernel)) ?_
  refine gm_sz (fw_pi (pc := 2) (ix := 3) (ci := 11) (j := 0) (M' := gm_uM M 226 0 0) (by decide +kernel) (e0k hE (k := 226) (c := 11) (by decide +kernel)) (by decide +kernel) (by decide +kernel) (by decide +kernel) rfl) ?_
  refine gm_sz (gm_p_load (pc := 5) (i := .aload_n 0) (sr := 2) (j := 0) (by decide +kernel) rfl rfl rfl) ?_
  refine gm_sz (gm_p_load (pc := 6) (i := .aload_n 0) (sr := 2) (j := 0) (by decide +kernel) rfl rfl rfl) ?_
  refine gm_sz (gm_p_load (pc := 7) (i := .iload_n 1) (sr := 0) (j := 1) (by decide +kernel) rfl rfl rfl) ?_
  refine gm_c_virt (k := 226) (ci := 11) (mj := 342) (ix := 448) (pc := 8) (as := [gm_vi a]) (st := [gm_vr 226]) (d' := d - 1) (bc' := 0) (bs' := 0) (by decide +kernel) (by decide +kernel) (by decide +kernel) (by decide +kernel) (e0k hE (k := 226) (c := 11) (by decide +kernel)).1 (e0k hE (k := 226) (c := 11) (by decide +kernel)).2 (by decide) (by decide +kernel) (show 1 = gm_na 342 by decide +kernel) (fw_c1 fw_si) (show 2 ≤ gm_ml 342 by decide +kernel) (Nat.le_of_ble_eq_true rfl) (by omega) (Nat.zero_le _) (Nat.zero_le _) ?_
  refine no_342 (t := a) (by omega) hE (tr_fr (W := [(226, some 0)]) hT (fr_p fr_0 (Or.inr (by decide))) (by decide)) hN hi (fun n8 => ?_) (fun n8 => ?_)
  · show gm_Wp X LX d _ _ 344 11 _ [gm_vi 1, gm_vr 226] n K _ _ Q
    have n8 : ¬ (0 ≤ a ∧ a < N 6) := n8
    refine fw_iftd (cc := .ne) (pc := 11) (off := 11) (by decide +kernel) (by decide) ⟨by decide, by decide⟩ (by decide) ?_
    refine gm_sz (gm_p_const (pc := 22) (i := .iconst 1) (v := gm_vi 1) (by decide +kernel) (by decide +kernel)) ?_
    refine gm_sz (gm_p_goto (pc := 23) (off := 4) (by decide +kernel) (by decide)) ?_
    refine gm_sz (gm_p_const (pc := 27) (i := .iconst 1) (v := gm_vi 1) (by decide +kernel) (by decide +kernel)) ?_
    refine gm_c_virt (k := 226) (ci := 11) (mj := 282) (ix := 300) (pc := 28) (as := [gm_vi 1, gm_vi 1]) (st := []) (d' := d - 1) (bc' := 0) (bs' := 0) (by decide +kernel) (by decide +kernel) (by decide +kernel) (by decide +kernel) (e0k hE (k := 226) (c := 11) (by decide +kernel)).1 (e0k hE (k := 226) (c := 11) (by decide +kernel)).2 (by decide) (by decide +kernel) (show 2 = gm_na 282 by decide +kernel) (fw_c2 fw_si fw_si) (show 3 ≤ gm_ml 282 by decide +kernel) (Nat.le_of_ble_eq_true rfl) (by omega) (Nat.zero_le _) (Nat.zero_le _) ?_
    refine tf_1 hE ?_
    show gm_Wp X LX d _ _ 344 31 _ [gm_vi 1] n K _ _ Q
    refine fw_iftd (cc := .ne) (pc := 31) (off := 17) (by decide +kernel) (by decide) ⟨by decide, by decide⟩ (by decide) ?_
    refine gm_sz (gm_p_const (pc := 48) (i := .iconst 0) (v := gm_vi 0) (by decide +kernel) (by decide +kernel)) ?_
    exact gm_r_int (pc := 49) (by decide +kernel) (Or.inr ⟨(by decide +kernel), Or.inl rfl⟩) (k1 (by omega) _ uM_at)
  · show gm_Wp X LX d _ _ 344 11 _ [gm_vi 0, gm_vr 226] n K _ _ Q
    have n8 : 0 ≤ a ∧ a < N 6 := n8
    refine fw_iffd (cc := .ne) (pc := 11) (off := 11) (by decide +kernel) (by decide) ⟨by decide, by decide⟩ (by decide) ?_
    refine gm_sz (gm_p_load (pc := 14) (i := .aload_n 0) (sr := 2) (j := 0) (by decide +kernel) rfl rfl rfl) ?_
    refine gm_sz (gm_p_load (pc := 15) (i := .iload_n 2) (sr := 0) (j := 2) (by decide +kernel) rfl rfl rfl) ?_
    refine gm_c_virt (k := 226) (ci := 11) (mj := 342) (ix := 448) (pc := 16) (as := [gm_vi b]) (st := [gm_vr 226]) (d' := d - 1) (bc' := 0) (bs' := 0) (by decide +kernel) (by decide +kernel) (by decide +kernel) (by decide +kernel) (e0k hE (k := 226) (c := 11) (by decide +kernel)).1 (e0k hE (k := 226) (c := 11) (by decide +kernel)).2 (by decide) (by decide +kernel) (show 1 = gm_na 342 by decide +kernel) (fw_c1 fw_si) (show 2 ≤ gm_ml 342 by decide +kernel) (Nat.le_of_ble_eq_true rfl) (by omega) (Nat.zero_le _) (Nat.zero_le _) ?_
    refine no_342 (t := b) (by omega) hE (tr_fr (W := [(226, some 0)]) hT (fr_p fr_0 (Or.inr (by decide))) (by decide)) hN hi2 (fun n16 => ?_) (fun n16 => ?_)
    · show gm_Wp X LX d _ _ 344 19 _ [gm_vi 1, gm_vr 226] n K _ _ Q
      have n16 : ¬ (0 ≤ b ∧ b < N 6) := n16
      refine fw_iffd (cc := .eq) (pc := 19) (off := 7) (by decide +kernel) (by decide) ⟨by decide, by decide⟩ (by decide) ?_
      refine gm_sz (gm_p_const (pc := 22) (i := .iconst 1) (v := gm_vi 1) (by decide +kernel) (by decide +kernel)) ?_
      refine gm_sz (gm_p_goto (pc := 23) (off := 4) (by decide +kernel) (by decide)) ?_
      refine gm_sz (gm_p_const (pc := 27) (i := .iconst 1) (v := gm_vi 1) (by decide +kernel) (by decide +kernel)) ?_
      refine gm_c_virt (k := 226) (ci := 11) (mj := 282) (ix := 300) (pc := 28) (as := [gm_vi 1, gm_vi 1]) (st := []) (d' := d - 1) (bc' := 0) (bs' := 0) (by decide +kernel) (by decide +kernel) (by decide +kernel) (by decide +kernel) (e0k hE (k := 226) (c := 11) (by decide +kernel)).1 (e0k hE (k := 226) (c := 11) (by decide +kernel)).2 (by decide) (by decide +kernel) (show 2 = gm_na 282 by decide +kernel) (fw_c2 fw_si fw_si) (show 3 ≤ gm_ml 282 by decide +kernel) (Nat.le_of_ble_eq_true rfl) (by omega) (Nat.zero_le _) (Nat.zero_le _) ?_
      refine tf_1 hE ?_
      show gm_Wp X LX d _ _ 344 31 _ [gm_vi 1] n K _ _ Q
      refine fw_iftd (cc := .ne) (pc := 31) (off := 17) (by decide +kernel) (by decide) ⟨by decide, by decide⟩ (by decide) ?_
      refine gm_sz (gm_p_const (pc := 48) (i := .iconst 0) (v := gm_vi 0) (by decide +kernel) (by decide +kernel)) ?_
      exact gm_r_int (pc := 49) (by decide +kernel) (Or.inr ⟨(by decide +kernel), Or.inl rfl⟩) (k1 (by omega) _ uM_at)
    · show gm_Wp X LX d _ _ 344 19 _ [gm_vi 0, gm_vr 226] n K _ _ Q
      have n16 : 0 ≤ b ∧ b < N 6 := n16
      refine fw_iftd (cc := .eq) (pc := 19) (off := 7) (by decide +kernel) (by decide) ⟨by decide, by decide⟩ (by decide) ?_
      refine gm_sz (gm_p_const (pc := 26) (i := .iconst 0) (v := gm_vi 0) (by decide +kernel) (by decide +kernel)) ?_
      refine gm_sz (gm_p_const (pc := 27) (i := .iconst 1) (v := gm_vi 1) (by decide +kernel) (by decide +kernel)) ?_
      refine gm_c_virt (k := 226) (ci := 11) (mj := 282) (ix := 300) (pc := 28) (as := [gm_vi 0, gm_vi 1]) (st := []) (d' := d - 1) (bc' := 0) (bs' := 0) (by decide +kernel) (by decide +kernel) (by decide +kernel) (by decide +kernel) (e0k hE (k := 226) (c := 11) (by decide +kernel)).1 (e0k hE (k := 226) (c := 11) (by decide +kernel)).2 (by decide) (by decide +kernel) (show 2 = gm_na 282 by decide +kernel) (fw_c2 fw_si fw_si) (show 3 ≤ gm_ml 282 by decide +kernel) (Nat.le_of_ble_eq_true rfl) (by omega) (Nat.zero_le _) (Nat.zero_le _) ?_
      refine tf_0 hE ?_
      show gm_Wp X LX d _ _ 344 31 _ [gm_vi 0] n K _ _ Q
      refine fw_iffd (cc := .ne) (pc := 31) (off := 17) (by decide +kernel) (by decide) ⟨by decide, by decide⟩ (by decide) ?_
      refine gm_sz (gm_p_load (pc := 34) (i := .aload_n 0) (sr := 2) (j := 0) (by decide +kernel) rfl rfl rfl) ?_
      refine gm_sz (gm_p_load (pc := 35) (i := .iload_n 1) (sr := 0) (j := 1) (by decide +kernel) rfl rfl rfl) ?_
      refine gm_sz (gm_p_load (pc := 36) (i := .iload_n 2) (sr := 0) (j := 2) (by decide +kernel) rfl rfl rfl) ?_
      refine gm_sz (gm_p_load (pc := 37) (i := .iload_n 3) (sr := 0) (j := 3) (by decide +kernel) rfl rfl rfl) ?_
      refine gm_c_virt (k := 226) (ci := 11) (mj := 345) (ix := 457) (pc := 38) (as := [gm_vi a, gm_vi b, gm_vi c]) (st := []) (d' := d - 1) (bc' := 0) (bs' := 0) (by decide +kernel) (by decide +kernel) (by decide +kernel) (by decide +kernel) (e0k hE (k := 226) (c := 11) (by decide +kernel)).1 (e0k hE (k := 226) (c := 11) (by decide +kernel)).2 (by decide) (by decide +kernel) (show 3 = gm_na 345 by decide +kernel) (fw_c3 fw_si fw_si fw_si) (show 4 ≤ gm_ml 345 by decide +kernel) (Nat.le_of_ble_eq_true rfl) (by omega) (Nat.zero_le _) (Nat.zero_le _) ?_
      refine aa_345 (a := a) (b := b) (c := c) (by omega) hE (tr_fr (W := [(226, some 0)]) hT (fr_p fr_0 (Or.inr (by decide))) (by decide)) hN ⟨by omega, by omega⟩ ⟨by omega, by omega⟩ hir ?_
      show gm_Wp X LX d _ _ 344 41 _ [gm_vi (apt N a b c)] n K _ _ Q
      refine fw_if (cc := .eq) (pc := 41) (off := 7) (by decide +kernel) (by decide) ⟨by omega, by omega⟩ (fun h41 => ?_) (fun h41 => ?_)
      · have h41 : (apt N a b c) = 0 := h41
        refine gm_sz (gm_p_const (pc := 48) (i := .iconst 0) (v := gm_vi 0) (by decide +kernel) (by decide +kernel)) ?_
        have h9 := kv ⟨⟨by omega, by omega⟩, by omega, by omega⟩ (gm_uM M 226 0 0) uM_at
        rw [show apt N a b c = 0 by omega] at h9
        exact gm_r_int (pc := 49) (by decide +kernel) (Or.inr ⟨(by decide +kernel), Or.inl rfl⟩) h9
      · have h41 : ¬ (apt N a b c) = 0 := h41
        refine gm_sz (gm_p_const (pc := 44) (i := .iconst 1) (v := gm_vi 1) (by decide +kernel) (by decide +kernel)) ?_
        refine gm_sz (gm_p_goto (pc := 45) (off := 4) (by decide +kernel) (by decide)) ?_
        have h9 := kv ⟨⟨by omega, by omega⟩, by omega, by omega⟩ (gm_uM M 226 0 0) uM_at
        rw [show apt N a b c = 1 by omega] at h9
        exact gm_r_int (pc := 49) (by decide +kernel) (Or.inr ⟨(by decide +kernel), Or.inr rfl⟩) h9
end AP59
section AP59B
variable {X : Int → Int} {LX d bc bs n g z g1 : Nat} {la : Nat → Nat} {K : gm_K} {R : gm_R} {M : gm_M} {N : Int → Int} {lw : Option (List lln)} {A : List (Int → Int)} {im : Option ((Int → Int) × Option (List lln))} {t w : Int} {f : Int → Int} {a b c e : Int} {NC : Nat} {C Ln G : Int → Int}
noncomputable def q_apart (N : Int → Int) (a : Int) (b : Int) (c : Int) : Int × Int := tif (¬ ((0 ≤ a ∧ a < N 6) ∧ (0 ≤ b ∧ b < N 6))) (1, 0) (0, apt N a b c)
theorem iq_apart : gm_ir (q_apart N a b c).1 := by
  unfold q_apart
  exact tif_ir (show (-2147483648 : Int) ≤ 1 ∧ (1 : Int) < 2147483648 from by decide) ((show (-2147483648 : Int) ≤ 0 ∧ (0 : Int) < 2147483648 from by decide))
theorem cq_apart (hd : 24 ≤ d) (hbc : 4 ≤ bc) (hbs : 24 ≤ bs) (hE : E0 n K R) (hn : 245 ≤ n) (hK : K 245 = (2, 1)) (hG : GJ N) (hV : CLV N lw A im t w f M) (ia : gm_ir a) (ib : gm_ir b) (ic : gm_ir c) : gm_Wp X LX d bc bs 195 0 (gm_ent 195 [gm_vr 1, gm_vi a, gm_vi b, gm_vi c]) [] n K R M (hQ [(3, 1)] (CF (q_apart N a b c).1 (oV (q_apart N a b c).1 (q_apart N a b c).2))) := by
  exact cl_apart (Nat.le_trans (by decide) hd) hbc hbs hE hV.1.1 hG.1.1 hG.2 ia ib (fun h => hQ_v hn hK (cf_v hK (tif_f (fun hh => hh h)) rfl)) (fun h => hQ_x hn hK (c := 1) (by decide) (cf_x hK (tif_t h) (by decide)))
theorem rq_apart (hd : 24 ≤ d) (hE : E0 n K R) (hS6 : NSb 6 N) (hG : GJ N) (hV : RFV N lw A im t w f M) (ia : gm_ir a) (ib : gm_ir b) (ic : gm_ir c) : gm_Wp X LX d bc bs 344 0 (gm_ent 344 [gm_vr 226, gm_vi a, gm_vi b, gm_vi c]) [] n K R M (RF (q_apart N a b c).1 (q_apart N a b c).2) := by
  have k226 := k226 hE
  exact re_apart (Nat.le_trans (by decide) hd) hE hV.1.1 hG.1.1 hG.2 ia ib (fun h M2 h0 => rf_e k226 (tif_f (fun hh => hh h)) (fun _ => rfl) h0) (fun h M2 h0 => rf_e k226 (tif_t h) (fun e => absurd e (by decide)) h0)
theorem apt_01 : apt N a b c = 0 ∨ apt N a b c = 1 := by
  unfold apt
  by_cases hh : ∃ i : Nat, (i : Int) < N 0 ∧ (gm_and (gm_shr c (i : Int)) 1 = 1 ∧ ¬ (N (287 + (a * 6 + (i : Int)))) = (N (287 + (b * 6 + (i : Int)))))
  · rw [if_pos hh]; exact Or.inr rfl
  · rw [if_neg hh]; exact Or.inl rfl
theorem apt_st {v : Int} {n1 : Nat} {K1 : gm_K} {R1 : gm_R} {M1 : gm_M} (h : CF (q_apart N a b c).1 (oV (q_apart N a b c).1 (q_apart N a b c).2) (.inl (some (gm_vi 0))) n1 K1 R1 (gm_uM M1 245 0 (gm_w v))) : gm_w v = 0 ∨ gm_w v = 1 := by
  obtain ⟨-, e, hv⟩ := h
  have q2 : (q_apart N a b c).2 = 0 ∨ (q_apart N a b c).2 = 1 := by
    unfold q_apart
    exact tif_i (C := fun q : Int × Int => q.2 = 0 ∨ q.2 = 1) (Or.inl rfl) apt_01
  generalize q_apart N a b c = q at e hv q2
  have hc : q.1 = 0 := (Sum.inl.inj (Option.some.inj (Sum.inl.inj e))).symm
  have h2 := hv q.2 (if_pos hc)
  have h3 : gm_w v = gm_w q.2 := uM_at.symm.trans h2
  rcases q2 with e2 | e2
  · exact Or.inl (by rw [h3, e2]; decide)
  · exact Or.inr (by rw [h3, e2]; decide)
theorem fw_apart (hb : bg g la K R M) (hR : REL la K M N lw A im t w f) (ia : gm_ir a) (ib : gm_ir b) (ic : gm_ir c) : ∀ z g1, bs_ok la z g1 → ¬ z = 100003 → gm_Wp X LX 279 6 600 194 0 (gm_ent 194 (gm_vr 1 :: bc_as [a, b, c] true)) [] (245 + 4 * g1) (bs_K la K) (bs_R z g1) (bs_M la M) (CF (q_apart N a b c).1 (oV (q_apart N a b c).1 (q_apart N a b c).2)) := by
  intro z g1 hz hz3
  have hE := e0_w hb hz
  exact hl_194 (d := 278) (k1_e hE) (fun v n1 K1 R1 M1 h => apt_st h) (cq_apart (by decide) (by decide) (by decide) hE (k245 hE).1 (k245 hE).2 hR.1.1 (clv_w hb hR.2.2.1) ia ib ic)
theorem fm_apart (hb : bg g la K R M) (hR : REL la K M N lw A im t w f) (ia : gm_ir a) (ib : gm_ir b) (ic : gm_ir c) : gm_Wp X LX 279 6 600 344 0 (gm_ent 344 (gm_vr 226 :: [a, b, c].map gm_vi)) [] 245 (bs_K la K) (bs_R 100003 0) (bs_M la M) (RF (q_apart N a b c).1 (q_apart N a b c).2) := rq_apart (by decide) (e0_w hb (Or.inr (Or.inl ⟨rfl, rfl⟩))) (ns6 (bs_F0 (z := 100003) hb) (rfv_w (la := la) hR.2.2.2).1.1.1 hR.1.1.1.1) hR.1.1 (rfv_w hR.2.2.2) ia ib ic
end AP59B
end
/-! 7c60.mk -/
section
/-! MARKET: what it answers. -/
/-- how many letters, no rocks, come out in a year -/
noncomputable def mkn (N o : Int → Int) (y : Int) : Int := cnt (fun l => o l = y ∧ ¬ (N (119 + (l * 7 + 0))) = -1) (N 4).toNat
/-- the most so far, and the first year of so many -/
noncomputable def mkf (f : Int → Int) : Nat → Int × Int
  | 0 => (0, -1)
  | k + 1 => if (mkf f k).1 < f (k : Int) then (f (k : Int), (k : Int)) else mkf f k
def MKT (f : Int → Int) (u c y : Int) : Prop := ((c = 0 ∧ y = -1) ∨ (0 < c ∧ (0 ≤ y ∧ y < u) ∧ f y = c)) ∧ ∀ v, 0 ≤ v → v < u → f v ≤ c ∧ (v < y → f v < c)
theorem MKT_u {f : Int → Int} {u c y c2 y2 : Int} (a : MKT f u c y) (b : MKT f u c2 y2) : c = c2 ∧ y = y2 := by
  obtain ⟨a1, a2⟩ := a
  obtain ⟨b1, b2⟩ := b
  rcases a1 with ⟨a3, a4⟩ | ⟨a3, a4, a5⟩
  · rcases b1 with ⟨b3, b4⟩ | ⟨b3, b4, b5⟩
    · exact ⟨by omega, by omega⟩
    · have := (a2 y2 b4.1 b4.2).1
      omega
  · rcases b1 with ⟨b3, b4⟩ | ⟨b3, b4, b5⟩
    · have := (b2 y a4.1 a4.2).1
      omega
    · have h1 := (a2 y2 b4.1 b4.2)
      have h2 := (b2 y a4.1 a4.2)
      have e : c = c2 := by omega
      refine ⟨e, ?_⟩
      rcases Int.lt_trichotomy y y2 with h | h | h
      · have := h2.2 h
        omega
      · exact h
      · have := h1.2 h
        omega
theorem mkf_s {f : Int → Int} (hf : ∀ v, 0 ≤ f v) : ∀ k : Nat, MKT f (k : Int) (mkf f k).1 (mkf f k).2 := by
  intro k
  induction k with
  | zero => exact ⟨Or.inl ⟨rfl, rfl⟩, fun v v0 v1 => by omega⟩
  | succ k ih =>
    obtain ⟨i1, i2⟩ := ih
    by_cases hc : (mkf f k).1 < f (k : Int)
    · rw [show mkf f (k + 1) = (f (k : Int), (k : Int)) from if_pos hc]
      refine ⟨Or.inr ⟨?_, ⟨by omega, by omega⟩, rfl⟩, fun v v0 v1 => ?_⟩
      · show 0 < f (k : Int)
        rcases i1 with h | h <;> omega
      · show f v ≤ f (k : Int) ∧ (v < (k : Int) → f v < f (k : Int))
        by_cases e : v = (k : Int)
        · subst e; exact ⟨Int.le_refl _, fun h => by omega⟩
        · have := i2 v v0 (by omega)
          exact ⟨by omega, fun _ => by omega⟩
    · rw [show mkf f (k + 1) = mkf f k from if_neg hc]
      refine ⟨?_, fun v v0 v1 => ?_⟩
      · rcases i1 with h | ⟨h1, h2, h3⟩
        · exact Or.inl h
        · exact Or.inr ⟨h1, ⟨h2.1, by omega⟩, h3⟩
      · by_cases e : v = (k : Int)
        · subst e
          refine ⟨by omega, fun h => ?_⟩
          rcases i1 with ⟨h1, h2⟩ | ⟨h1, h2, h3⟩ <;> omega
        · exact i2 v v0 (by omega)
/-- the class's own walk, over letters -/
def PCk (f o : Int → Int) (k : Nat) (c y : Int) : Prop := ((c = 0 ∧ y = -1) ∨ (0 < c ∧ (0 ≤ y ∧ y < 300) ∧ f y = c)) ∧ ∀ i : Nat, i < k → ¬ o (i : Int) = -1 → f (o (i : Int)) ≤ c ∧ (f (o (i : Int)) = c → 0 < c → y ≤ o (i : Int))
theorem pck_s {f o : Int → Int} {k : Nat} {c y : Int} (h : PCk f o k c y) (h2 : ¬ o (k : Int) = -1 → f (o (k : Int)) ≤ c ∧ (f (o (k : Int)) = c → y ≤ o (k : Int))) : PCk f o (k + 1) c y := by
  refine ⟨h.1, fun i hi hn => ?_⟩
  by_cases e : i = k
  · subst e
    exact ⟨(h2 hn).1, fun h3 _ => (h2 hn).2 h3⟩
  · exact h.2 i (by omega) hn
theorem pck_u {f o : Int → Int} {k : Nat} {c y : Int} (h : PCk f o k c y) (hf : ∀ v, 0 ≤ f v) (hn : ¬ o (k : Int) = -1) (hb : 0 ≤ o (k : Int) ∧ o (k : Int) < 300) (h2 : c < f (o (k : Int)) ∨ (f (o (k : Int)) = c ∧ o (k : Int) < y)) : PCk f o (k + 1) (f (o (k : Int))) (o (k : Int)) := by
  have h0 := hf (o (k : Int))
  refine ⟨Or.inr ⟨?_, hb, rfl⟩, fun i hi hn2 => ?_⟩
  · rcases h.1 with ⟨h3, h4⟩ | ⟨h3, h4, h5⟩ <;> omega
  · by_cases e : i = k
    · subst e
      exact ⟨Int.le_refl _, fun _ _ => Int.le_refl _⟩
    · have h3 := h.2 i (by omega) hn2
      refine ⟨by omega, fun h4 h5 => ?_⟩
      rcases h2 with h6 | ⟨h6, h7⟩
      · omega
      · have := h3.2 (by omega) (by omega)
        omega
theorem cnt_pos {p : Int → Prop} : ∀ k : Nat, 0 < cnt p k → ∃ i : Nat, i < k ∧ p (i : Int) := by
  intro k
  induction k with
  | zero => intro h; exact absurd (show (0 : Int) < 0 from h) (by decide)
  | succ k ih =>
    intro h
    by_cases hp : p (k : Int)
    · exact ⟨k, by omega, hp⟩
    · rw [cnt_f hp] at h
      obtain ⟨i, i1, i2⟩ := ih h
      exact ⟨i, by omega, i2⟩
theorem mkn_0 {N o : Int → Int} : ∀ v, 0 ≤ mkn N o v := fun v => (cnt_b (p := fun l => o l = v ∧ ¬ (N (119 + (l * 7 + 0))) = -1) (N 4).toNat).1
theorem pck_e {N o : Int → Int} {c y : Int} (h : PCk (mkn N o) o (N 4).toNat c y) : c = (mkf (mkn N o) 300).1 ∧ y = (mkf (mkn N o) 300).2 := by
  refine MKT_u (u := 300) ⟨h.1, fun v v0 v1 => ?_⟩ (mkf_s mkn_0 300)
  by_cases hp : 0 < mkn N o v
  · obtain ⟨i, i1, i2, i3⟩ := cnt_pos _ hp
    have h2 := h.2 i i1 (by omega)
    rw [i2] at h2
    refine ⟨h2.1, fun hv => ?_⟩
    by_cases e : mkn N o v = c
    · have := h2.2 e (by omega)
      omega
    · omega
  · have h0 := mkn_0 (N := N) (o := o) v
    rcases h.1 with ⟨h3, h4⟩ | ⟨h3, h4, h5⟩ <;> exact ⟨by omega, fun _ => by omega⟩
section MK60
variable {X : Int → Int} {LX d bc bs n : Nat} {K : gm_K} {R : gm_R} {M : gm_M} {Q : gm_Q} {N h : Int → Int} {sp : Int → Int → Int} {FI : gm_M → Prop} {φ : Int → Int → Int → Int} {o dd : Int → Int} {l lane row year y p w x k c v a b t : Int}
theorem mk_47 (hd : 4 ≤ d) (hE : E0 n K R) (hT : TI N h sp M) (hN : NR N) (h3 : M 220 3 = N 4) (ho : ∀ l, 0 ≤ l → l < N 4 → M 221 (l * 2 + 0) = o l) (hob : ∀ l, 0 ≤ l → l < N 4 → -1 ≤ o l ∧ o l ≤ 299) (hi : gm_ir y) (hq : Q (.inl (some (gm_vi (mkn N o y)))) n K R M) : gm_Wp X LX d bc bs 47 0 (gm_ent 47 [gm_vr 1, gm_vi y, gm_vi 0]) [] n K R M Q := by
  refine oi_47 (c := 0) (o := o) hd hE hT hN h3 ho hob hi ⟨by decide, by decide⟩ ?_
  rw [cnt_cg (p := (fun l => o l = y ∧ (¬ (0 : Int) = 0 ∨ ¬ (N (119 + (l * 7 + 0))) = -1))) (q := (fun l => o l = y ∧ ¬ (N (119 + (l * 7 + 0))) = -1)) (N 4).toNat (fun i _ => ⟨fun hh => ⟨hh.1, hh.2.resolve_left (fun h => h rfl)⟩, fun hh => ⟨hh.1, Or.inr hh.2⟩⟩)]
  exact hq
theorem mk_333 (hd : 4 ≤ d) (hE : E0 n K R) (hT : TR N h M) (hN : NR N) (ho : ∀ l, 0 ≤ l → l < N 4 → M 238 l = o l) (hob : ∀ l, 0 ≤ l → l < N 4 → -1 ≤ o l ∧ o l ≤ 299) (hi : gm_ir y) (hq : Q (.inl (some (gm_vi (mkn N o y)))) n K R M) : gm_Wp X LX d bc bs 333 0 (gm_ent 333 [gm_vr 226, gm_vi y, gm_vi (-1), gm_vi 0]) [] n K R M Q := by
  refine on_333 (c := 0) (x := -1) (o := o) hd hE hT hN ho hob hi ⟨by decide, by decide⟩ ⟨by decide, by decide⟩ ?_
  rw [cnt_cg (p := (fun l => o l = y ∧ ((-1 : Int) < 0 ∨ (N (119 + (l * 7 + 2))) = (-1 : Int)) ∧ (¬ (0 : Int) = 0 ∨ ¬ (N (119 + (l * 7 + 0))) = -1))) (q := (fun l => o l = y ∧ ¬ (N (119 + (l * 7 + 0))) = -1)) (N 4).toNat (fun i _ => ⟨fun hh => ⟨hh.1, hh.2.2.resolve_left (fun h => h rfl)⟩, fun hh => ⟨hh.1, Or.inl (by decide), Or.inr hh.2⟩⟩)]
  exact hq
theorem mk_c (hd : 8 ≤ d) (hE : E0 n K R) (hT : TI N h sp M) (hN : NR N) (h3 : M 220 3 = N 4) (ho : ∀ l, 0 ≤ l → l < N 4 → M 221 (l * 2 + 0) = o l) (hob : ∀ l, 0 ≤ l → l < N 4 → -1 ≤ o l ∧ o l ≤ 299) (hb : 0 ≤ b ∧ b ≤ 1) (hq1 : ¬ b = 0 → Q (.inl (some (gm_vi (mkf (mkn N o) 300).1))) n K R M) (hq0 : b = 0 → Q (.inl (some (gm_vi (mkf (mkn N o) 300).2))) n K R M) : ∀ (u k : Nat) (c y : Int) (z5 z6 : Option gm_V), (k : Int) + (u : Int) = N 4 → PCk (mkn N o) o k c y → gm_Wp X LX d bc bs 46 11 [some (gm_vr 1), some (gm_vi b), some (gm_vi y), some (gm_vi c), some (gm_vi (k : Int)), z5, z6] [] n K R M Q := by
  obtain ⟨⟨⟨a0, b0⟩, ⟨a1, b1⟩, ⟨a10, b10⟩, ⟨a11, b11⟩, ⟨a12, b12⟩, a9, b9⟩, ⟨⟨a2, b2⟩, ⟨a5, b5⟩, ⟨a3, b3⟩, ⟨a4, b4⟩, ⟨a6, b6⟩, ⟨a14, b14⟩, ⟨a7, b7⟩, a13, b13⟩, rF, rP, rL⟩ := id hN
  intro u
  induction u with
  | zero =>
    intro k c y z5 z6 hk hp
    have ek : k = (N 4).toNat := by omega
    rw [ek] at hp
    obtain ⟨e1, e2⟩ := pck_e hp
    refine gm_sz (gm_p_load (pc := 11) (i := .iload 4) (sr := 0) (j := 4) (by decide +kernel) rfl rfl rfl) ?_
    refine gm_sz (gm_p_load (pc := 13) (i := .aload_n 0) (sr := 2) (j := 0) (by decide +kernel) rfl rfl rfl) ?_
    refine gm_sz (fw_gr (pc := 14) (ix := 97) (ci := 0) (j := 14) (r := 220) (by decide +kernel) (e0k hE (k := 1) (c := 0) (by decide +kernel)) (by decide +kernel) (by decide +kernel) (e0r hE (k := 1) (j := 14) (r := 220) (by decide +kernel))) ?_
    refine gm_c_virt (k := 220) (ci := 2) (mj := 9) (ix := 277) (pc := 17) (as := []) (st := [gm_vi (k : Int)]) (d' := d - 1) (bc' := 0) (bs' := 0) (by decide +kernel) (by decide +kernel) (by decide +kernel) (by decide +kernel) (e0k hE (k := 220) (c := 2) (by decide +kernel)).1 (e0k hE (k := 220) (c := 2) (by decide +kernel)).2 (by decide) (by decide +kernel) (show 0 = gm_na 9 by decide +kernel) fw_c0 (show 1 ≤ gm_ml 9 by decide +kernel) (Nat.le_of_ble_eq_true rfl) (by omega) (Nat.zero_le _) (Nat.zero_le _) ?_
    refine rw_size (s := N 4) (e0k hE (k := 220) (c := 2) (by decide +kernel)) h3 ?_
    show gm_Wp X LX d _ _ 46 20 _ [gm_vi (N 4), gm_vi (k : Int)] n K _ _ Q
    refine fw_ict (cc := .ge) (pc := 20) (off := 64) (by decide +kernel) (by decide) ⟨by omega, by omega⟩ ⟨by omega, by omega⟩ (show (N 4) ≤ (k : Int) by omega) ?_
    refine gm_sz (gm_p_load (pc := 84) (i := .iload_n 1) (sr := 0) (j := 1) (by decide +kernel) rfl rfl rfl) ?_
    refine fw_if (cc := .eq) (pc := 85) (off := 7) (by decide +kernel) (by decide) ⟨by omega, by omega⟩ (fun h85 => ?_) (fun h85 => ?_)
    · have h85 : b = 0 := h85
      refine gm_sz (gm_p_load (pc := 92) (i := .iload_n 2) (sr := 0) (j := 2) (by decide +kernel) rfl rfl rfl) ?_
      rw [e2]
      exact gm_r_int (pc := 93) (by decide +kernel) (Or.inl (by decide +kernel)) (hq0 (by omega))
    · have h85 : ¬ b = 0 := h85
      refine gm_sz (gm_p_load (pc := 88) (i := .iload_n 3) (sr := 0) (j := 3) (by decide +kernel) rfl rfl rfl) ?_
      refine gm_sz (gm_p_goto (pc := 89) (off := 4) (by decide +kernel) (by decide)) ?_
      rw [e1]
      exact gm_r_int (pc := 93) (by decide +kernel) (Or.inl (by decide +kernel)) (hq1 (by omega))
  | succ u ih =>
    intro k c y z5 z6 hk hp
    have ob9 := hob (k : Int) (by omega) (by omega)
    have m0 := mkn_0 (N := N) (o := o) (o (k : Int))
    have m1 := (cnt_b (p := fun l => o l = o (k : Int) ∧ ¬ (N (119 + (l * 7 + 0))) = -1) (N 4).toNat).2
    have m1 : mkn N o (o (k : Int)) ≤ ((N 4).toNat : Int) := m1
    have hcy : (c = 0 ∧ y = -1) ∨ (0 < c ∧ (0 ≤ y ∧ y < 300) ∧ mkn N o y = c) := hp.1
    have m2 := (cnt_b (p := fun l => o l = y ∧ ¬ (N (119 + (l * 7 + 0))) = -1) (N 4).toNat).2
    have m2 : mkn N o y ≤ ((N 4).toNat : Int) := m2
    have hci : (0 ≤ c ∧ c ≤ 24) ∧ (-1 ≤ y ∧ y < 300) := by rcases hcy with ⟨h1, h2⟩ | ⟨h1, h2, h3⟩ <;> exact ⟨⟨by omega, by omega⟩, by omega, by omega⟩
    refine gm_sz (gm_p_load (pc := 11) (i := .iload 4) (sr := 0) (j := 4) (by decide +kernel) rfl rfl rfl) ?_
    refine gm_sz (gm_p_load (pc := 13) (i := .aload_n 0) (sr := 2) (j := 0) (by decide +kernel) rfl rfl rfl) ?_
    refine gm_sz (fw_gr (pc := 14) (ix := 97) (ci := 0) (j := 14) (r := 220) (by decide +kernel) (e0k hE (k := 1) (c := 0) (by decide +kernel)) (by decide +kernel) (by decide +kernel) (e0r hE (k := 1) (j := 14) (r := 220) (by decide +kernel))) ?_
    refine gm_c_virt (k := 220) (ci := 2) (mj := 9) (ix := 277) (pc := 17) (as := []) (st := [gm_vi (k : Int)]) (d' := d - 1) (bc' := 0) (bs' := 0) (by decide +kernel) (by decide +kernel) (by decide +kernel) (by decide +kernel) (e0k hE (k := 220) (c := 2) (by decide +kernel)).1 (e0k hE (k := 220) (c := 2) (by decide +kernel)).2 (by decide) (by decide +kernel) (show 0 = gm_na 9 by decide +kernel) fw_c0 (show 1 ≤ gm_ml 9 by decide +kernel) (Nat.le_of_ble_eq_true rfl) (by omega) (Nat.zero_le _) (Nat.zero_le _) ?_
    refine rw_size (s := N 4) (e0k hE (k := 220) (c := 2) (by decide +kernel)) h3 ?_
    show gm_Wp X LX d _ _ 46 20 _ [gm_vi (N 4), gm_vi (k : Int)] n K _ _ Q
    refine fw_icf (cc := .ge) (pc := 20) (off := 64) (by decide +kernel) (by decide) ⟨by omega, by omega⟩ ⟨by omega, by omega⟩ (show ¬ (N 4) ≤ (k : Int) by omega) ?_
    refine gm_sz (gm_p_load (pc := 23) (i := .aload_n 0) (sr := 2) (j := 0) (by decide +kernel) rfl rfl rfl) ?_
    refine gm_sz (fw_gr (pc := 24) (ix := 97) (ci := 0) (j := 14) (r := 220) (by decide +kernel) (e0k hE (k := 1) (c := 0) (by decide +kernel)) (by decide +kernel) (by decide +kernel) (e0r hE (k := 1) (j := 14) (r := 220) (by decide +kernel))) ?_
    refine gm_sz (gm_p_load (pc := 27) (i := .iload 4) (sr := 0) (j := 4) (by decide +kernel) rfl rfl rfl) ?_
    refine gm_sz (gm_p_const (pc := 29) (i := .iconst 0) (v := gm_vi 0) (by decide +kernel) (by decide +kernel)) ?_
    refine gm_c_virt (k := 220) (ci := 2) (mj := 10) (ix := 186) (pc := 30) (as := [gm_vi (k : Int), gm_vi 0]) (st := []) (d' := d - 1) (bc' := 0) (bs' := 0) (by decide +kernel) (by decide +kernel) (by decide +kernel) (by decide +kernel) (e0k hE (k := 220) (c := 2) (by decide +kernel)).1 (e0k hE (k := 220) (c := 2) (by decide +kernel)).2 (by decide) (by decide +kernel) (show 2 = gm_na 10 by decide +kernel) (fw_c2 fw_si fw_si) (show 3 ≤ gm_ml 10 by decide +kernel) (Nat.le_of_ble_eq_true rfl) (by omega) (Nat.zero_le _) (Nat.zero_le _) ?_
    refine rw_get (s := N 4) (w := 2) (x := o (k : Int)) (e0k hE (k := 220) (c := 2) (by decide +kernel)) (e0a hE (k := 221) (q := (0, 48)) (by decide +kernel)) (e0r hE (k := 220) (j := 2) (r := 221) (by decide +kernel)) (by decide) h3 (hT.1 (220, 1, 2) (by decide)) ⟨by omega, by omega⟩ ⟨by omega, by omega⟩ ⟨by omega, by omega⟩ ⟨by omega, by omega⟩ (ho (k : Int) (by omega) (by omega)) ?_
    show gm_Wp X LX d _ _ 46 33 _ [gm_vi (o (k : Int))] n K _ _ Q
    refine gm_sz (gm_p_stor (pc := 33) (i := .istore 5) (sr := 0) (j := 5) (by decide +kernel) rfl (show 6 ≤ _ from Nat.le_of_ble_eq_true rfl) rfl) ?_
    refine gm_sz (gm_p_load (pc := 35) (i := .iload 5) (sr := 0) (j := 5) (by decide +kernel) rfl rfl rfl) ?_
    refine gm_sz (gm_p_const (pc := 37) (i := .iconst (-1)) (v := gm_vi (-1)) (by decide +kernel) (by decide +kernel)) ?_
    refine fw_ic (cc := .ne) (pc := 38) (off := 7) (by decide +kernel) (by decide) ⟨by omega, by omega⟩ ⟨by decide, by decide⟩ (fun h38 => ?_) (fun h38 => ?_)
    · have h38 : ¬ (o (k : Int)) = (-1) := h38
      refine gm_sz (gm_p_load (pc := 45) (i := .aload_n 0) (sr := 2) (j := 0) (by decide +kernel) rfl rfl rfl) ?_
      refine gm_sz (gm_p_load (pc := 46) (i := .iload 5) (sr := 0) (j := 5) (by decide +kernel) rfl rfl rfl) ?_
      refine gm_sz (gm_p_const (pc := 48) (i := .iconst 0) (v := gm_vi 0) (by decide +kernel) (by decide +kernel)) ?_
      refine gm_c_virt (k := 1) (ci := 0) (mj := 47) (ix := 315) (pc := 49) (as := [gm_vi (o (k : Int)), gm_vi 0]) (st := []) (d' := d - 1) (bc' := 0) (bs' := 0) (by decide +kernel) (by decide +kernel) (by decide +kernel) (by decide +kernel) (e0k hE (k := 1) (c := 0) (by decide +kernel)).1 (e0k hE (k := 1) (c := 0) (by decide +kernel)).2 (by decide) (by decide +kernel) (show 2 = gm_na 47 by decide +kernel) (fw_c2 fw_si fw_si) (show 3 ≤ gm_ml 47 by decide +kernel) (Nat.le_of_ble_eq_true rfl) (by omega) (Nat.zero_le _) (Nat.zero_le _) ?_
      refine mk_47 (o := o) (y := (o (k : Int))) (by omega) hE hT hN h3 ho hob ⟨by omega, by omega⟩ ?_
      show gm_Wp X LX d _ _ 46 52 _ [gm_vi (mkn N o (o (k : Int)))] n K _ _ Q
      refine gm_sz (gm_p_stor (pc := 52) (i := .istore 6) (sr := 0) (j := 6) (by decide +kernel) rfl (show 7 ≤ _ from Nat.le_of_ble_eq_true rfl) rfl) ?_
      refine gm_sz (gm_p_load (pc := 54) (i := .iload 6) (sr := 0) (j := 6) (by decide +kernel) rfl rfl rfl) ?_
      refine gm_sz (gm_p_load (pc := 56) (i := .iload_n 3) (sr := 0) (j := 3) (by decide +kernel) rfl rfl rfl) ?_
      refine fw_ic (cc := .gt) (pc := 57) (off := 15) (by decide +kernel) (by decide) ⟨by omega, by omega⟩ ⟨by omega, by omega⟩ (fun h57 => ?_) (fun h57 => ?_)
      · have h57 : c < (mkn N o (o (k : Int))) := h57
        refine gm_sz (gm_p_load (pc := 72) (i := .iload 6) (sr := 0) (j := 6) (by decide +kernel) rfl rfl rfl) ?_
        refine gm_sz (gm_p_stor (pc := 74) (i := .istore_n 3) (sr := 0) (j := 3) (by decide +kernel) rfl (show 4 ≤ _ from Nat.le_of_ble_eq_true rfl) rfl) ?_
        refine gm_sz (gm_p_load (pc := 75) (i := .iload 5) (sr := 0) (j := 5) (by decide +kernel) rfl rfl rfl) ?_
        refine gm_sz (gm_p_stor (pc := 77) (i := .istore_n 2) (sr := 0) (j := 2) (by decide +kernel) rfl (show 3 ≤ _ from Nat.le_of_ble_eq_true rfl) rfl) ?_
        refine gm_sz (gm_p_iinc (pc := 78) (j := 4) (z := 1) (by decide +kernel) rfl) ?_
        refine gm_sz (gm_p_goto (pc := 81) (off := (-70)) (by decide +kernel) (by decide)) ?_
        have hp2 : PCk (mkn N o) o (k + 1) (mkn N o (o (k : Int))) (o (k : Int)) := pck_u hp mkn_0 (by omega) ⟨by omega, by omega⟩ (by omega)
        have h9 := ih (k + 1) (mkn N o (o (k : Int))) (o (k : Int)) (some (gm_vi (o (k : Int)))) (some (gm_vi (mkn N o (o (k : Int))))) (by omega) hp2
        rw [show ((k + 1 : Nat) : Int) = (k : Int) + 1 by omega] at h9
        exact h9
      · have h57 : ¬ c < (mkn N o (o (k : Int))) := h57
        refine gm_sz (gm_p_load (pc := 60) (i := .iload 6) (sr := 0) (j := 6) (by decide +kernel) rfl rfl rfl) ?_
        refine gm_sz (gm_p_load (pc := 62) (i := .iload_n 3) (sr := 0) (j := 3) (by decide +kernel) rfl rfl rfl) ?_
        refine fw_ic (cc := .ne) (pc := 63) (off := 15) (by decide +kernel) (by decide) ⟨by omega, by omega⟩ ⟨by omega, by omega⟩ (fun h63 => ?_) (fun h63 => ?_)
        · have h63 : ¬ (mkn N o (o (k : Int))) = c := h63
          refine gm_sz (gm_p_iinc (pc := 78) (j := 4) (z := 1) (by decide +kernel) rfl) ?_
          refine gm_sz (gm_p_goto (pc := 81) (off := (-70)) (by decide +kernel) (by decide)) ?_
          have hp2 : PCk (mkn N o) o (k + 1) c y := pck_s hp (fun hn => ⟨by omega, fun e => by omega⟩)
          have h9 := ih (k + 1) c y (some (gm_vi (o (k : Int)))) (some (gm_vi (mkn N o (o (k : Int))))) (by omega) hp2
          rw [show ((k + 1 : Nat) : Int) = (k : Int) + 1 by omega] at h9
          exact h9
        · have h63 : (mkn N o (o (k : Int))) = c := Classical.not_not.mp h63
          refine gm_sz (gm_p_load (pc := 66) (i := .iload 5) (sr := 0) (j := 5) (by decide +kernel) rfl rfl rfl) ?_
          refine gm_sz (gm_p_load (pc := 68) (i := .iload_n 2) (sr := 0) (j := 2) (by decide +kernel) rfl rfl rfl) ?_
          refine fw_ic (cc := .ge) (pc := 69) (off := 9) (by decide +kernel) (by decide) ⟨by omega, by omega⟩ ⟨by omega, by omega⟩ (fun h69 => ?_) (fun h69 => ?_)
          · have h69 : y ≤ (o (k : Int)) := h69
            refine gm_sz (gm_p_iinc (pc := 78) (j := 4) (z := 1) (by decide +kernel) rfl) ?_
            refine gm_sz (gm_p_goto (pc := 81) (off := (-70)) (by decide +kernel) (by decide)) ?_
            have hp2 : PCk (mkn N o) o (k + 1) c y := pck_s hp (fun hn => ⟨by omega, fun e => by omega⟩)
            have h9 := ih (k + 1) c y (some (gm_vi (o (k : Int)))) (some (gm_vi (mkn N o (o (k : Int))))) (by omega) hp2
            rw [show ((k + 1 : Nat) : Int) = (k : Int) + 1 by omega] at h9
            exact h9
          · have h69 : ¬ y ≤ (o (k : Int)) := h69
            refine gm_sz (gm_p_load (pc := 72) (i := .iload 6) (sr := 0) (j := 6) (by decide +kernel) rfl rfl rfl) ?_
            refine gm_sz (gm_p_stor (pc := 74) (i := .istore_n 3) (sr := 0) (j := 3) (by decide +kernel) rfl (show 4 ≤ _ from Nat.le_of_ble_eq_true rfl) rfl) ?_
            refine gm_sz (gm_p_load (pc := 75) (i := .iload 5) (sr := 0) (j := 5) (by decide +kernel) rfl rfl rfl) ?_
            refine gm_sz (gm_p_stor (pc := 77) (i := .istore_n 2) (sr := 0) (j := 2) (by decide +kernel) rfl (show 3 ≤ _ from Nat.le_of_ble_eq_true rfl) rfl) ?_
            refine gm_sz (gm_p_iinc (pc := 78) (j := 4) (z := 1) (by decide +kernel) rfl) ?_
            refine gm_sz (gm_p_goto (pc := 81) (off := (-70)) (by decide +kernel) (by decide)) ?_
            have hp2 : PCk (mkn N o) o (k + 1) (mkn N o (o (k : Int))) (o (k : Int)) := pck_u hp mkn_0 (by omega) ⟨by omega, by omega⟩ (by omega)
            have h9 := ih (k + 1) (mkn N o (o (k : Int))) (o (k : Int)) (some (gm_vi (o (k : Int)))) (some (gm_vi (mkn N o (o (k : Int))))) (by omega) hp2
            rw [show ((k + 1 : Nat) : Int) = (k : Int) + 1 by omega] at h9
            exact h9
    · have h38 : (o (k : Int)) = (-1) := Classical.not_not.mp h38
      refine gm_sz (gm_p_const (pc := 41) (i := .iconst 0) (v := gm_vi 0) (by decide +kernel) (by decide +kernel)) ?_
      refine gm_sz (gm_p_goto (pc := 42) (off := 10) (by decide +kernel) (by decide)) ?_
      refine gm_sz (gm_p_stor (pc := 52) (i := .istore 6) (sr := 0) (j := 6) (by decide +kernel) rfl (show 7 ≤ _ from Nat.le_of_ble_eq_true rfl) rfl) ?_
      refine gm_sz (gm_p_load (pc := 54) (i := .iload 6) (sr := 0) (j := 6) (by decide +kernel) rfl rfl rfl) ?_
      refine gm_sz (gm_p_load (pc := 56) (i := .iload_n 3) (sr := 0) (j := 3) (by decide +kernel) rfl rfl rfl) ?_
      refine fw_ic (cc := .gt) (pc := 57) (off := 15) (by decide +kernel) (by decide) ⟨by decide, by decide⟩ ⟨by omega, by omega⟩ (fun h57 => ?_) (fun h57 => ?_)
      · have h57 : c < 0 := h57
        refine gm_sz (gm_p_load (pc := 72) (i := .iload 6) (sr := 0) (j := 6) (by decide +kernel) rfl rfl rfl) ?_
        refine gm_sz (gm_p_stor (pc := 74) (i := .istore_n 3) (sr := 0) (j := 3) (by decide +kernel) rfl (show 4 ≤ _ from Nat.le_of_ble_eq_true rfl) rfl) ?_
        refine gm_sz (gm_p_load (pc := 75) (i := .iload 5) (sr := 0) (j := 5) (by decide +kernel) rfl rfl rfl) ?_
        refine gm_sz (gm_p_stor (pc := 77) (i := .istore_n 2) (sr := 0) (j := 2) (by decide +kernel) rfl (show 3 ≤ _ from Nat.le_of_ble_eq_true rfl) rfl) ?_
        refine gm_sz (gm_p_iinc (pc := 78) (j := 4) (z := 1) (by decide +kernel) rfl) ?_
        refine gm_sz (gm_p_goto (pc := 81) (off := (-70)) (by decide +kernel) (by decide)) ?_
        exfalso
        omega
      · have h57 : ¬ c < 0 := h57
        refine gm_sz (gm_p_load (pc := 60) (i := .iload 6) (sr := 0) (j := 6) (by decide +kernel) rfl rfl rfl) ?_
        refine gm_sz (gm_p_load (pc := 62) (i := .iload_n 3) (sr := 0) (j := 3) (by decide +kernel) rfl rfl rfl) ?_
        refine fw_ic (cc := .ne) (pc := 63) (off := 15) (by decide +kernel) (by decide) ⟨by decide, by decide⟩ ⟨by omega, by omega⟩ (fun h63 => ?_) (fun h63 => ?_)
        · have h63 : ¬ 0 = c := h63
          refine gm_sz (gm_p_iinc (pc := 78) (j := 4) (z := 1) (by decide +kernel) rfl) ?_
          refine gm_sz (gm_p_goto (pc := 81) (off := (-70)) (by decide +kernel) (by decide)) ?_
          have hp2 : PCk (mkn N o) o (k + 1) c y := pck_s hp (fun hn => ⟨by omega, fun e => by omega⟩)
          have h9 := ih (k + 1) c y (some (gm_vi (o (k : Int)))) (some (gm_vi 0)) (by omega) hp2
          rw [show ((k + 1 : Nat) : Int) = (k : Int) + 1 by omega] at h9
          exact h9
        · have h63 : 0 = c := Classical.not_not.mp h63
          refine gm_sz (gm_p_load (pc := 66) (i := .iload 5) (sr := 0) (j := 5) (by decide +kernel) rfl rfl rfl) ?_
          refine gm_sz (gm_p_load (pc := 68) (i := .iload_n 2) (sr := 0) (j := 2) (by decide +kernel) rfl rfl rfl) ?_
          refine fw_ic (cc := .ge) (pc := 69) (off := 9) (by decide +kernel) (by decide) ⟨by omega, by omega⟩ ⟨by omega, by omega⟩ (fun h69 => ?_) (fun h69 => ?_)
          · have h69 : y ≤ (o (k : Int)) := h69
            refine gm_sz (gm_p_iinc (pc := 78) (j := 4) (z := 1) (by decide +kernel) rfl) ?_
            refine gm_sz (gm_p_goto (pc := 81) (off := (-70)) (by decide +kernel) (by decide)) ?_
            have hp2 : PCk (mkn N o) o (k + 1) c y := pck_s hp (fun hn => ⟨by omega, fun e => by omega⟩)
            have h9 := ih (k + 1) c y (some (gm_vi (o (k : Int)))) (some (gm_vi 0)) (by omega) hp2
            rw [show ((k + 1 : Nat) : Int) = (k : Int) + 1 by omega] at h9
            exact h9
          · have h69 : ¬ y ≤ (o (k : Int)) := h69
            refine gm_sz (gm_p_load (pc := 72) (i := .iload 6) (sr := 0) (j := 6) (by decide +kernel) rfl rfl rfl) ?_
            refine gm_sz (gm_p_stor (pc := 74) (i := .istore_n 3) (sr := 0) (j := 3) (by decide +kernel) rfl (show 4 ≤ _ from Nat.le_of_ble_eq_true rfl) rfl) ?_
            refine gm_sz (gm_p_load (pc := 75) (i := .iload 5) (sr := 0) (j := 5) (by decide +kernel) rfl rfl rfl) ?_
            refine gm_sz (gm_p_stor (pc := 77) (i := .istore_n 2) (sr := 0) (j := 2) (by decide +kernel) rfl (show 3 ≤ _ from Nat.le_of_ble_eq_true rfl) rfl) ?_
            refine gm_sz (gm_p_iinc (pc := 78) (j := 4) (z := 1) (by decide +kernel) rfl) ?_
            refine gm_sz (gm_p_goto (pc := 81) (off := (-70)) (by decide +kernel) (by decide)) ?_
            exfalso
            omega
theorem mk_r (hd : 8 ≤ d) (hE : E0 n K R) (hT : TR N h M) (hN : NR N) (ho : ∀ l, 0 ≤ l → l < N 4 → M 238 l = o l) (hob : ∀ l, 0 ≤ l → l < N 4 → -1 ≤ o l ∧ o l ≤ 299) (hb : 0 ≤ b ∧ b ≤ 1) (hq1 : ¬ b = 0 → Q (.inl (some (gm_vi (mkf (mkn N o) 300).1))) n K R M) (hq0 : b = 0 → Q (.inl (some (gm_vi (mkf (mkn N o) 300).2))) n K R M) : ∀ (u k : Nat) (z5 : Option gm_V), k + u = 300 → gm_Wp X LX d bc bs 331 16 [some (gm_vr 226), some (gm_vi b), some (gm_vi ((mkf (mkn N o) k).2)), some (gm_vi ((mkf (mkn N o) k).1)), some (gm_vi (k : Int)), z5] [] n K R M Q := by
  obtain ⟨⟨⟨a0, b0⟩, ⟨a1, b1⟩, ⟨a10, b10⟩, ⟨a11, b11⟩, ⟨a12, b12⟩, a9, b9⟩, ⟨⟨a2, b2⟩, ⟨a5, b5⟩, ⟨a3, b3⟩, ⟨a4, b4⟩, ⟨a6, b6⟩, ⟨a14, b14⟩, ⟨a7, b7⟩, a13, b13⟩, rF, rP, rL⟩ := id hN
  intro u
  induction u with
  | zero =>
    intro k z5 hk
    have ek : k = 300 := by omega
    refine gm_sz (gm_p_load (pc := 16) (i := .iload 4) (sr := 0) (j := 4) (by decide +kernel) rfl rfl rfl) ?_
    refine gm_sz (gm_p_const (pc := 18) (i := .sipush 300) (v := gm_vi 300) (by decide +kernel) (by decide +kernel)) ?_
    refine fw_ict (cc := .ge) (pc := 21) (off := 34) (by decide +kernel) (by decide) ⟨by omega, by omega⟩ ⟨by decide, by decide⟩ (show 300 ≤ (k : Int) by omega) ?_
    refine gm_sz (gm_p_load (pc := 55) (i := .iload_n 1) (sr := 0) (j := 1) (by decide +kernel) rfl rfl rfl) ?_
    refine fw_if (cc := .eq) (pc := 56) (off := 7) (by decide +kernel) (by decide) ⟨by omega, by omega⟩ (fun h56 => ?_) (fun h56 => ?_)
    · have h56 : b = 0 := h56
      refine gm_sz (gm_p_load (pc := 63) (i := .iload_n 2) (sr := 0) (j := 2) (by decide +kernel) rfl rfl rfl) ?_
      subst ek
      exact gm_r_int (pc := 64) (by decide +kernel) (Or.inl (by decide +kernel)) (hq0 (by omega))
    · have h56 : ¬ b = 0 := h56
      refine gm_sz (gm_p_load (pc := 59) (i := .iload_n 3) (sr := 0) (j := 3) (by decide +kernel) rfl rfl rfl) ?_
      refine gm_sz (gm_p_goto (pc := 60) (off := 4) (by decide +kernel) (by decide)) ?_
      subst ek
      exact gm_r_int (pc := 64) (by decide +kernel) (Or.inl (by decide +kernel)) (hq1 (by omega))
  | succ u ih =>
    intro k z5 hk
    have m0 := mkn_0 (N := N) (o := o) (k : Int)
    have m1 := (cnt_b (p := fun l => o l = (k : Int) ∧ ¬ (N (119 + (l * 7 + 0))) = -1) (N 4).toNat).2
    have m1 : mkn N o (k : Int) ≤ ((N 4).toNat : Int) := m1
    have hs := (mkf_s (f := mkn N o) mkn_0 k).1
    have m2 := (cnt_b (p := fun l => o l = (mkf (mkn N o) k).2 ∧ ¬ (N (119 + (l * 7 + 0))) = -1) (N 4).toNat).2
    have m2 : mkn N o (mkf (mkn N o) k).2 ≤ ((N 4).toNat : Int) := m2
    have hci : (0 ≤ (mkf (mkn N o) k).1 ∧ (mkf (mkn N o) k).1 ≤ 24) := by rcases hs with ⟨h1, h2⟩ | ⟨h1, h2, h3⟩ <;> exact ⟨by omega, by omega⟩
    refine gm_sz (gm_p_load (pc := 16) (i := .iload 4) (sr := 0) (j := 4) (by decide +kernel) rfl rfl rfl) ?_
    refine gm_sz (gm_p_const (pc := 18) (i := .sipush 300) (v := gm_vi 300) (by decide +kernel) (by decide +kernel)) ?_
    refine fw_icf (cc := .ge) (pc := 21) (off := 34) (by decide +kernel) (by decide) ⟨by omega, by omega⟩ ⟨by decide, by decide⟩ (show ¬ 300 ≤ (k : Int) by omega) ?_
    refine gm_sz (gm_p_load (pc := 24) (i := .aload_n 0) (sr := 2) (j := 0) (by decide +kernel) rfl rfl rfl) ?_
    refine gm_sz (gm_p_load (pc := 25) (i := .iload 4) (sr := 0) (j := 4) (by decide +kernel) rfl rfl rfl) ?_
    refine gm_sz (gm_p_const (pc := 27) (i := .iconst (-1)) (v := gm_vi (-1)) (by decide +kernel) (by decide +kernel)) ?_
    refine gm_sz (gm_p_const (pc := 28) (i := .iconst 0) (v := gm_vi 0) (by decide +kernel) (by decide +kernel)) ?_
    refine gm_c_virt (k := 226) (ci := 11) (mj := 333) (ix := 431) (pc := 29) (as := [gm_vi (k : Int), gm_vi (-1), gm_vi 0]) (st := []) (d' := d - 1) (bc' := 0) (bs' := 0) (by decide +kernel) (by decide +kernel) (by decide +kernel) (by decide +kernel) (e0k hE (k := 226) (c := 11) (by decide +kernel)).1 (e0k hE (k := 226) (c := 11) (by decide +kernel)).2 (by decide) (by decide +kernel) (show 3 = gm_na 333 by decide +kernel) (fw_c3 fw_si fw_si fw_si) (show 4 ≤ gm_ml 333 by decide +kernel) (Nat.le_of_ble_eq_true rfl) (by omega) (Nat.zero_le _) (Nat.zero_le _) ?_
    refine mk_333 (o := o) (y := (k : Int)) (by omega) hE hT hN ho hob ⟨by omega, by omega⟩ ?_
    show gm_Wp X LX d _ _ 331 32 _ [gm_vi (mkn N o (k : Int))] n K _ _ Q
    refine gm_sz (gm_p_stor (pc := 32) (i := .istore 5) (sr := 0) (j := 5) (by decide +kernel) rfl (show 6 ≤ _ from Nat.le_of_ble_eq_true rfl) rfl) ?_
    refine gm_sz (gm_p_load (pc := 34) (i := .iload 5) (sr := 0) (j := 5) (by decide +kernel) rfl rfl rfl) ?_
    refine gm_sz (gm_p_load (pc := 36) (i := .iload_n 3) (sr := 0) (j := 3) (by decide +kernel) rfl rfl rfl) ?_
    refine fw_ic (cc := .gt) (pc := 37) (off := 6) (by decide +kernel) (by decide) ⟨by omega, by omega⟩ ⟨by omega, by omega⟩ (fun h37 => ?_) (fun h37 => ?_)
    · have h37 : ((mkf (mkn N o) k).1) < (mkn N o (k : Int)) := h37
      refine gm_sz (gm_p_load (pc := 43) (i := .iload 4) (sr := 0) (j := 4) (by decide +kernel) rfl rfl rfl) ?_
      refine gm_sz (gm_p_stor (pc := 45) (i := .istore_n 2) (sr := 0) (j := 2) (by decide +kernel) rfl (show 3 ≤ _ from Nat.le_of_ble_eq_true rfl) rfl) ?_
      refine gm_sz (gm_p_load (pc := 46) (i := .iload 5) (sr := 0) (j := 5) (by decide +kernel) rfl rfl rfl) ?_
      refine gm_sz (gm_p_stor (pc := 48) (i := .istore_n 3) (sr := 0) (j := 3) (by decide +kernel) rfl (show 4 ≤ _ from Nat.le_of_ble_eq_true rfl) rfl) ?_
      refine gm_sz (gm_p_iinc (pc := 49) (j := 4) (z := 1) (by decide +kernel) rfl) ?_
      refine gm_sz (gm_p_goto (pc := 52) (off := (-36)) (by decide +kernel) (by decide)) ?_
      have e9 : mkf (mkn N o) (k + 1) = (mkn N o (k : Int), (k : Int)) := if_pos (by omega)
      have h9 := ih (k + 1) (some (gm_vi (mkn N o (k : Int)))) (by omega)
      rw [e9, show ((k + 1 : Nat) : Int) = (k : Int) + 1 by omega] at h9
      exact h9
    · have h37 : ¬ ((mkf (mkn N o) k).1) < (mkn N o (k : Int)) := h37
      refine gm_sz (gm_p_goto (pc := 40) (off := 9) (by decide +kernel) (by decide)) ?_
      refine gm_sz (gm_p_iinc (pc := 49) (j := 4) (z := 1) (by decide +kernel) rfl) ?_
      refine gm_sz (gm_p_goto (pc := 52) (off := (-36)) (by decide +kernel) (by decide)) ?_
      have e9 : mkf (mkn N o) (k + 1) = (mkf (mkn N o) k) := if_neg (by omega)
      have h9 := ih (k + 1) (some (gm_vi (mkn N o (k : Int)))) (by omega)
      rw [e9, show ((k + 1 : Nat) : Int) = (k : Int) + 1 by omega] at h9
      exact h9
theorem cl_market (hd : 24 ≤ d) (hbc : 4 ≤ bc) (hbs : 24 ≤ bs) (hE : E0 n K R) (hT : TI N h sp M) (hN : NR N) (hfw : FLW X LX n K R N h sp FI φ) (hI : FI M) (hb15 : gm_ir (M 1 15)) (hk15 : ¬ M 1 15 = 0 → M 1 15 = 1 ∧ ENDS N h φ M) (hoo : ∀ l, 0 ≤ l → l < N 4 → OUTR N h φ l (o l) (dd l)) (hb : 0 ≤ b ∧ b ≤ 1) (hq1 : ¬ b = 0 → ∀ M2, Q (.inl (some (gm_vi (mkf (mkn N o) 300).1))) n K R M2) (hq0 : b = 0 → ∀ M2, Q (.inl (some (gm_vi (mkf (mkn N o) 300).2))) n K R M2) : gm_Wp X LX d bc bs 46 0 (gm_ent 46 [gm_vr 1, gm_vi b]) [] n K R M Q := by
  obtain ⟨⟨⟨a0, b0⟩, ⟨a1, b1⟩, ⟨a10, b10⟩, ⟨a11, b11⟩, ⟨a12, b12⟩, a9, b9⟩, ⟨⟨a2, b2⟩, ⟨a5, b5⟩, ⟨a3, b3⟩, ⟨a4, b4⟩, ⟨a6, b6⟩, ⟨a14, b14⟩, ⟨a7, b7⟩, a13, b13⟩, rF, rP, rL⟩ := id hN
  have hob : ∀ l, 0 ≤ l → l < N 4 → -1 ≤ o l ∧ o l ≤ 299 := fun l l0 l1 => OUTR_b (hoo l l0 l1) (rL l l0 l1).2.2.2.1.1
  refine gm_sz (gm_p_load (pc := 0) (i := .aload_n 0) (sr := 2) (j := 0) (by decide +kernel) rfl rfl rfl) ?_
  refine gm_c_virt (k := 1) (ci := 0) (mj := 24) (ix := 254) (pc := 1) (as := []) (st := []) (d' := d - 1) (bc' := 0) (bs' := 0) (by decide +kernel) (by decide +kernel) (by decide +kernel) (by decide +kernel) (e0k hE (k := 1) (c := 0) (by decide +kernel)).1 (e0k hE (k := 1) (c := 0) (by decide +kernel)).2 (by decide) (by decide +kernel) (show 0 = gm_na 24 by decide +kernel) fw_c0 (show 1 ≤ gm_ml 24 by decide +kernel) (Nat.le_of_ble_eq_true rfl) (by omega) (Nat.zero_le _) (Nat.zero_le _) ?_
  refine en_c24 (by omega) hE hT hN hfw hI hb15 hk15 (fun M24 hf24 hI24 h15 hen => ?_)
  show gm_Wp X LX d _ _ 46 4 _ [] n K _ _ Q
  have ho24 : ∀ l, 0 ≤ l → l < N 4 → M24 221 (l * 2 + 0) = o l := fun l l0 l1 => (OUTR_u (hen.2 l l0 l1) (hoo l l0 l1)).1
  refine gm_sz (gm_p_const (pc := 4) (i := .iconst (-1)) (v := gm_vi (-1)) (by decide +kernel) (by decide +kernel)) ?_
  refine gm_sz (gm_p_stor (pc := 5) (i := .istore_n 2) (sr := 0) (j := 2) (by decide +kernel) rfl (show 3 ≤ _ from Nat.le_of_ble_eq_true rfl) rfl) ?_
  refine gm_sz (gm_p_const (pc := 6) (i := .iconst 0) (v := gm_vi 0) (by decide +kernel) (by decide +kernel)) ?_
  refine gm_sz (gm_p_stor (pc := 7) (i := .istore_n 3) (sr := 0) (j := 3) (by decide +kernel) rfl (show 4 ≤ _ from Nat.le_of_ble_eq_true rfl) rfl) ?_
  refine gm_sz (gm_p_const (pc := 8) (i := .iconst 0) (v := gm_vi 0) (by decide +kernel) (by decide +kernel)) ?_
  refine gm_sz (gm_p_stor (pc := 9) (i := .istore 4) (sr := 0) (j := 4) (by decide +kernel) rfl (show 5 ≤ _ from Nat.le_of_ble_eq_true rfl) rfl) ?_
  exact mk_c (by omega) hE (ti_fr (W := [(206, some 2), (206, some 3), (206, some 4), (206, some 5), (206, some 6), (206, some 7), (206, some 8), (200, some 6), (204, none), (205, none), (220, some 3), (221, none), (1, some 15)]) hT (fr_t fr_0 hf24 (by decide)) (by decide) (by decide +kernel)) hN hen.1 ho24 hob hb (fun h => hq1 h _) (fun h => hq0 h _) (N 4).toNat 0 0 (-1) _ _ (by omega) ⟨Or.inl ⟨rfl, rfl⟩, fun i hi => absurd hi (Nat.not_lt_zero _)⟩
theorem re_market (hd : 24 ≤ d) (hE : E0 n K R) (hT : TR N h M) (hN : NR N) (hfw : FLR X LX n K R N h FI φ) (hI : FI M) (hoo : ∀ l, 0 ≤ l → l < N 4 → OUTR N h φ l (o l) (dd l)) (hb : 0 ≤ b ∧ b ≤ 1) (hq1 : ¬ b = 0 → ∀ M2, M2 226 0 = 0 → Q (.inl (some (gm_vi (mkf (mkn N o) 300).1))) n K R M2) (hq0 : b = 0 → ∀ M2, M2 226 0 = 0 → Q (.inl (some (gm_vi (mkf (mkn N o) 300).2))) n K R M2) : gm_Wp X LX d bc bs 331 0 (gm_ent 331 [gm_vr 226, gm_vi b]) [] n K R M Q := by
  obtain ⟨⟨⟨a0, b0⟩, ⟨a1, b1⟩, ⟨a10, b10⟩, ⟨a11, b11⟩, ⟨a12, b12⟩, a9, b9⟩, ⟨⟨a2, b2⟩, ⟨a5, b5⟩, ⟨a3, b3⟩, ⟨a4, b4⟩, ⟨a6, b6⟩, ⟨a14, b14⟩, ⟨a7, b7⟩, a13, b13⟩, rF, rP, rL⟩ := id hN
  have hob : ∀ l, 0 ≤ l → l < N 4 → -1 ≤ o l ∧ o l ≤ 299 := fun l l0 l1 => OUTR_b (hoo l l0 l1) (rL l l0 l1).2.2.2.1.1
  refine gm_sz (gm_p_load (pc := 0) (i := .aload_n 0) (sr := 2) (j := 0) (by decide +kernel) rfl rfl rfl) ?_
  refine gm_sz (gm_p_const (pc := 1) (i := .iconst 0) (v := gm_vi 0) (by decide +kernel) (by decide +kernel)) ?_
  refine gm_sz (fw_pi (pc := 2) (ix := 3) (ci := 11) (j := 0) (M' := gm_uM M 226 0 0) (by decide +kernel) (e0k hE (k := 226) (c := 11) (by decide +kernel)) (by decide +kernel) (by decide +kernel) (by decide +kernel) rfl) ?_
  refine gm_sz (gm_p_load (pc := 5) (i := .aload_n 0) (sr := 2) (j := 0) (by decide +kernel) rfl rfl rfl) ?_
  refine gm_c_virt (k := 226) (ci := 11) (mj := 332) (ix := 428) (pc := 6) (as := []) (st := []) (d' := d - 1) (bc' := 0) (bs' := 0) (by decide +kernel) (by decide +kernel) (by decide +kernel) (by decide +kernel) (e0k hE (k := 226) (c := 11) (by decide +kernel)).1 (e0k hE (k := 226) (c := 11) (by decide +kernel)).2 (by decide) (by decide +kernel) (show 0 = gm_na 332 by decide +kernel) fw_c0 (show 1 ≤ gm_ml 332 by decide +kernel) (Nat.le_of_ble_eq_true rfl) (by omega) (Nat.zero_le _) (Nat.zero_le _) ?_
  refine oa_332 (by omega) hE (tr_fr (W := [(226, some 0)]) hT (fr_p fr_0 (Or.inr (by decide))) (by decide)) hN hfw (hfw.2.1 [(226, some 0)] _ _ (by decide) (fr_p fr_0 (Or.inr (by decide))) hI) hoo uM_at (fun M32 hf32 hI32 h032 ho32 => ?_)
  show gm_Wp X LX d _ _ 331 9 _ [] n K _ _ Q
  refine gm_sz (gm_p_const (pc := 9) (i := .iconst (-1)) (v := gm_vi (-1)) (by decide +kernel) (by decide +kernel)) ?_
  refine gm_sz (gm_p_stor (pc := 10) (i := .istore_n 2) (sr := 0) (j := 2) (by decide +kernel) rfl (show 3 ≤ _ from Nat.le_of_ble_eq_true rfl) rfl) ?_
  refine gm_sz (gm_p_const (pc := 11) (i := .iconst 0) (v := gm_vi 0) (by decide +kernel) (by decide +kernel)) ?_
  refine gm_sz (gm_p_stor (pc := 12) (i := .istore_n 3) (sr := 0) (j := 3) (by decide +kernel) rfl (show 4 ≤ _ from Nat.le_of_ble_eq_true rfl) rfl) ?_
  refine gm_sz (gm_p_const (pc := 13) (i := .iconst 0) (v := gm_vi 0) (by decide +kernel) (by decide +kernel)) ?_
  refine gm_sz (gm_p_stor (pc := 14) (i := .istore 4) (sr := 0) (j := 4) (by decide +kernel) rfl (show 5 ≤ _ from Nat.le_of_ble_eq_true rfl) rfl) ?_
  exact mk_r (by omega) hE (tr_fr (W := [(226, some 0), (226, some 29), (226, some 30), (226, some 26), (226, some 17), (226, some 18), (226, some 19), (226, some 20), (226, some 21), (226, some 22), (226, some 23), (235, none), (233, none), (236, none), (237, none), (238, none)]) hT (fr_t (fr_p fr_0 (Or.inr (by decide))) hf32 (by decide)) (by decide)) hN ho32 hob hb (fun h => hq1 h _ h032) (fun h => hq0 h _ h032) 300 0 _ rfl
end MK60
section MK60B
variable {X : Int → Int} {LX d bc bs n g z g1 : Nat} {la : Nat → Nat} {K : gm_K} {R : gm_R} {M : gm_M} {N : Int → Int} {lw : Option (List lln)} {A : List (Int → Int)} {im : Option ((Int → Int) × Option (List lln))} {t w : Int} {f : Int → Int} {a b c e : Int} {NC : Nat} {C Ln G : Int → Int}
noncomputable def q_market (lw : Option (List lln)) (N : Int → Int) (b : Int) : Int × Int := tif (b = 0) (0, (mkf (mkn N (ao lw N)) 300).2) (0, (mkf (mkn N (ao lw N)) 300).1)
theorem iq_market : gm_ir (q_market lw N b).1 := by
  unfold q_market
  exact tif_ir (show (-2147483648 : Int) ≤ 0 ∧ (0 : Int) < 2147483648 from by decide) ((show (-2147483648 : Int) ≤ 0 ∧ (0 : Int) < 2147483648 from by decide))
theorem z_market : (q_market lw N b).1 = 0 := by
  unfold q_market
  exact (tif_0 rfl rfl)
theorem cq_market (hd : 24 ≤ d) (hbc : 4 ≤ bc) (hbs : 24 ≤ bs) (hE : E0 n K R) (hK : K 245 = (2, 1)) (hc : CC n K R NC C Ln G lw) (hL : LBX NC C Ln lw M) (hG : GJ N) (hV : CLV N lw A im t w f M) (ib : 0 ≤ b ∧ b ≤ 1) : gm_Wp X LX d bc bs 46 0 (gm_ent 46 [gm_vr 1, gm_vi b]) [] n K R M (CF (q_market lw N b).2 none) := by
  exact cl_market (o := ao lw N) (dd := adp N (hts (N 13)) (aphi lw N (hts (N 13)))) hd hbc hbs hE hV.1.1 hG.1.1 (flw_a hE hc hG.1.1 hG.1.2.1) (fic_of hL hV) (hb_of hV.2.1) (hk_of hV.2.1) (fun l _ _ => aout_s l) ib (fun h M2 => ⟨hK, by rw [show q_market lw N b = (0, _) from tif_f h], fun v e => nomatch e⟩) (fun h M2 => ⟨hK, by rw [show q_market lw N b = (0, _) from tif_t h], fun v e => nomatch e⟩)
theorem rq_market (hd : 24 ≤ d) (hE : E0 n K R) (hT : jT fun j => M 227 (395 + j)) (hS6 : NSb 6 N) (hG : GJ N) (hV : RFV N lw A im t w f M) (ib : 0 ≤ b ∧ b ≤ 1) : gm_Wp X LX d bc bs 331 0 (gm_ent 331 [gm_vr 226, gm_vi b]) [] n K R M (RF (q_market lw N b).1 (q_market lw N b).2) := by
  have k226 := k226 hE
  exact re_market (o := ao lw N) (dd := adp N (hts (N 13)) (aphi lw N (hts (N 13)))) hd hE hV.1.1 hG.1.1 (flr_a hE (lawg_of hV.1.2.1 hT) hgeo_r hG.1.1 hG.1.1 hS6) ⟨hV.2.1, fun _ _ => rfl⟩ (fun l _ _ => aout_s l) ib (fun h M2 h0 => rf_e k226 (tif_f h) (fun _ => rfl) h0) (fun h M2 h0 => rf_e k226 (tif_t h) (fun _ => rfl) h0)
theorem fw_market (hb : bg g la K R M) (hR : REL la K M N lw A im t w f) (ib : 0 ≤ b ∧ b ≤ 1) : ∀ z g1, bs_ok la z g1 → ¬ z = 100003 → gm_Wp X LX 279 6 600 46 0 (gm_ent 46 (gm_vr 1 :: [b].map gm_vi)) [] (245 + 4 * g1) (bs_K la K) (bs_R z g1) (bs_M la M) (CF (q_market lw N b).2 none) := by
  intro z g1 hz hz3
  have hE := e0_w hb hz
  obtain ⟨NC, C, Ln, hcc, hlb⟩ := cc_w hb hz hz3 hR.2.1.1 hR.2.2.2.1.2.1
  exact cq_market (by decide) (by decide) (by decide) hE (k245 hE).2 hcc hlb hR.1.1 (clv_w hb hR.2.2.1) ib
theorem fm_market (hb : bg g la K R M) (hR : REL la K M N lw A im t w f) (ib : 0 ≤ b ∧ b ≤ 1) : gm_Wp X LX 279 6 600 331 0 (gm_ent 331 (gm_vr 226 :: [b].map gm_vi)) [] 245 (bs_K la K) (bs_R 100003 0) (bs_M la M) (RF (q_market lw N b).1 (q_market lw N b).2) := rq_market (by decide) (e0_w hb (Or.inr (Or.inl ⟨rfl, rfl⟩))) (gJ_w hb) (ns6 (bs_F0 (z := 100003) hb) (rfv_w (la := la) hR.2.2.2).1.1.1 hR.1.1.1.1) hR.1.1 (rfv_w hR.2.2.2) ib
end MK60B
end
