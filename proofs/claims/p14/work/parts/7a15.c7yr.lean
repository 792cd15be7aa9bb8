/-! THE CLASS: by whom a LETTER is opened, a YEAR more (laid by wip/core/c7.py). -/
/-- the first of u from i on -/
noncomputable def fo (C : Int → Prop) : Nat → Int → Int
  | 0, _ => -1
  | u + 1, i => tif (C i) i (fo C u (i + 1))
theorem fo_b {C : Int → Prop} : ∀ (u : Nat) (i : Int), 0 ≤ i → -1 ≤ fo C u i ∧ fo C u i < i + (u : Int) ∧ (fo C u i = -1 ∨ i ≤ fo C u i) := by
  intro u
  induction u with
  | zero => exact fun i h => ⟨Int.le_refl _, by show (-1 : Int) < _; omega, Or.inl rfl⟩
  | succ u ih =>
    intro i h
    unfold fo
    by_cases hc : C i
    · rw [tif_t hc]
      exact ⟨by omega, by omega, Or.inr (Int.le_refl _)⟩
    · rw [tif_f hc]
      obtain ⟨a, b, c⟩ := ih (i + 1) (by omega)
      exact ⟨a, by omega, by omega⟩
/-- whether one who watches that lane may -/
def wop (N : Int → Int) (ψ : Int → Int → Int → Int → Prop) (l dp p : Int) : Prop := (N (95 + (p * 3 + 2))) = (N (119 + (l * 7 + 2))) ∧ ψ p ((N (119 + (l * 7 + 2)))) (N 9 - (N (119 + (l * 7 + 3)))) dp
/-- by whom it is opened (-1: by nobody) -/
noncomputable def opf (N : Int → Int) (ψ : Int → Int → Int → Int → Prop) (l dp : Int) : Int := tif ((N (95 + (((N (119 + (l * 7 + 1)))) * 3 + 2))) = (N (119 + (l * 7 + 2)))) ((N (119 + (l * 7 + 1)))) (fo (wop N ψ l dp) (N 3).toNat 0)
section YR7
variable {X : Int → Int} {LX d bc bs n : Nat} {K : gm_K} {R : gm_R} {M : gm_M} {Q : gm_Q} {l o y p dp : Int} {N h : Int → Int} {sp : Int → Int → Int} {FI : gm_M → Prop} {φ : Int → Int → Int → Int} {ψ : Int → Int → Int → Int → Prop}
theorem op_l (hd : 4 ≤ d) (hE : E0 n K R) (hT : TI N h sp M) (hN : NR N) (hst : FSt FI) (hmo : MOW X LX n K R N h sp FI ψ) (hI : FI M) (h1 : 0 ≤ l ∧ l < N 4) (hr : 0 ≤ (N (119 + (l * 7 + 0)))) (h3 : M 220 3 = N 4) (hdp : M 221 (l * 2 + 1) = dp) (hne : ¬ (N (95 + (((N (119 + (l * 7 + 1)))) * 3 + 2))) = (N (119 + (l * 7 + 2)))) (hq : ∀ M2, fr [(204, none)] M M2 → Q (.inl (some (gm_vi (opf N ψ l dp)))) n K R M2) : ∀ (u i : Nat) (M1 : gm_M), (i : Int) + (u : Int) = N 3 → fr [(204, none)] M M1 → fo (wop N ψ l dp) (N 3).toNat 0 = fo (wop N ψ l dp) u (i : Int) → gm_Wp X LX d bc bs 163 69 [some (gm_vr 1), some (gm_vi l), some (gm_vi (N (119 + (l * 7 + 2)))), some (gm_vi (N (119 + (l * 7 + 1)))), some (gm_vi (N 9 - N (119 + (l * 7 + 3)))), some (gm_vi (i : Int))] [] n K R M1 Q := by
  obtain ⟨⟨⟨a0, b0⟩, ⟨a1, b1⟩, ⟨a10, b10⟩, ⟨a11, b11⟩, ⟨a12, b12⟩, a9, b9⟩, ⟨⟨a2, b2⟩, ⟨a5, b5⟩, ⟨a3, b3⟩, ⟨a4, b4⟩, ⟨a6, b6⟩, ⟨a14, b14⟩, ⟨a7, b7⟩, a13, b13⟩, rF, rP, rL⟩ := id hN
  obtain ⟨r0, r1, r2, r3, -, -, -, r7⟩ := rL l h1.1 h1.2
  have r8 := r7 hr
  have to9 : 0 ≤ N (119 + (l * 7 + 1)) ∧ N (119 + (l * 7 + 1)) < N 3 := ⟨r8, r1.2⟩
  have ln9 : 0 ≤ N (119 + (l * 7 + 2)) ∧ N (119 + (l * 7 + 2)) < N 0 := r2
  have yr9 : 0 ≤ N (119 + (l * 7 + 3)) ∧ N (119 + (l * 7 + 3)) ≤ N 9 := r3
  have e9 : opf N ψ l dp = fo (wop N ψ l dp) (N 3).toNat 0 := tif_f hne
  rw [e9] at hq
  intro u
  induction u with
  | zero =>
    intro i M1 hi hf he
    have he : fo (wop N ψ l dp) (N 3).toNat 0 = -1 := he
    rw [he] at hq
    refine gm_sz (gm_p_load (pc := 69) (i := .iload 5) (sr := 0) (j := 5) (by decide +kernel) rfl rfl rfl) ?_
    refine gm_sz (gm_p_load (pc := 71) (i := .aload_n 0) (sr := 2) (j := 0) (by decide +kernel) rfl rfl rfl) ?_
    refine gm_sz (fw_gr (pc := 72) (ix := 23) (ci := 0) (j := 3) (r := 3) (by decide +kernel) (e0k hE (k := 1) (c := 0) (by decide +kernel)) (by decide +kernel) (by decide +kernel) (e0r hE (k := 1) (j := 3) (r := 3) (by decide +kernel))) ?_
    refine gm_sz (fw_gr (pc := 75) (ix := 183) (ci := 1) (j := 11) (r := 8) (by decide +kernel) (e0k hE (k := 3) (c := 1) (by decide +kernel)) (by decide +kernel) (by decide +kernel) (e0r hE (k := 3) (j := 11) (r := 8) (by decide +kernel))) ?_
    refine gm_c_virt (k := 8) (ci := 2) (mj := 9) (ix := 277) (pc := 78) (as := []) (st := [gm_vi (i : Int)]) (d' := d - 1) (bc' := 0) (bs' := 0) (by decide +kernel) (by decide +kernel) (by decide +kernel) (by decide +kernel) (e0k hE (k := 8) (c := 2) (by decide +kernel)).1 (e0k hE (k := 8) (c := 2) (by decide +kernel)).2 (by decide) (by decide +kernel) (show 0 = gm_na 9 by decide +kernel) fw_c0 (show 1 ≤ gm_ml 9 by decide +kernel) (Nat.le_of_ble_eq_true rfl) (by omega) (Nat.zero_le _) (Nat.zero_le _) ?_
    refine rw_size (s := N 3) (e0k hE (k := 8) (c := 2) (by decide +kernel)) ((fr_c hf (by decide)).trans (ti_peo hT)) ?_
    show gm_Wp X LX d _ _ 163 81 _ [gm_vi (N 3), gm_vi (i : Int)] n K _ _ Q
    refine fw_ict (cc := .ge) (pc := 81) (off := 53) (by decide +kernel) (by decide) ⟨by omega, by omega⟩ ⟨by omega, by omega⟩ (show (N 3) ≤ (i : Int) by omega) ?_
    refine gm_sz (gm_p_const (pc := 134) (i := .iconst (-1)) (v := gm_vi (-1)) (by decide +kernel) (by decide +kernel)) ?_
    exact gm_r_int (pc := 135) (by decide +kernel) (Or.inl (by decide +kernel)) (hq M1 hf)
  | succ u ih =>
    intro i M1 hi hf he
    obtain ⟨-, -, p2⟩ := rP (i : Int) (by omega) (by omega)
    have p9 : -1 ≤ N (95 + ((i : Int) * 3 + 2)) ∧ N (95 + ((i : Int) * 3 + 2)) < N 0 := p2
    have he : fo (wop N ψ l dp) (N 3).toNat 0 = tif ((wop N ψ l dp) (i : Int)) (i : Int) (fo (wop N ψ l dp) u ((i : Int) + 1)) := he
    refine gm_sz (gm_p_load (pc := 69) (i := .iload 5) (sr := 0) (j := 5) (by decide +kernel) rfl rfl rfl) ?_
    refine gm_sz (gm_p_load (pc := 71) (i := .aload_n 0) (sr := 2) (j := 0) (by decide +kernel) rfl rfl rfl) ?_
    refine gm_sz (fw_gr (pc := 72) (ix := 23) (ci := 0) (j := 3) (r := 3) (by decide +kernel) (e0k hE (k := 1) (c := 0) (by decide +kernel)) (by decide +kernel) (by decide +kernel) (e0r hE (k := 1) (j := 3) (r := 3) (by decide +kernel))) ?_
    refine gm_sz (fw_gr (pc := 75) (ix := 183) (ci := 1) (j := 11) (r := 8) (by decide +kernel) (e0k hE (k := 3) (c := 1) (by decide +kernel)) (by decide +kernel) (by decide +kernel) (e0r hE (k := 3) (j := 11) (r := 8) (by decide +kernel))) ?_
    refine gm_c_virt (k := 8) (ci := 2) (mj := 9) (ix := 277) (pc := 78) (as := []) (st := [gm_vi (i : Int)]) (d' := d - 1) (bc' := 0) (bs' := 0) (by decide +kernel) (by decide +kernel) (by decide +kernel) (by decide +kernel) (e0k hE (k := 8) (c := 2) (by decide +kernel)).1 (e0k hE (k := 8) (c := 2) (by decide +kernel)).2 (by decide) (by decide +kernel) (show 0 = gm_na 9 by decide +kernel) fw_c0 (show 1 ≤ gm_ml 9 by decide +kernel) (Nat.le_of_ble_eq_true rfl) (by omega) (Nat.zero_le _) (Nat.zero_le _) ?_
    refine rw_size (s := N 3) (e0k hE (k := 8) (c := 2) (by decide +kernel)) ((fr_c hf (by decide)).trans (ti_peo hT)) ?_
    show gm_Wp X LX d _ _ 163 81 _ [gm_vi (N 3), gm_vi (i : Int)] n K _ _ Q
    refine fw_icf (cc := .ge) (pc := 81) (off := 53) (by decide +kernel) (by decide) ⟨by omega, by omega⟩ ⟨by omega, by omega⟩ (show ¬ (N 3) ≤ (i : Int) by omega) ?_
    refine gm_sz (gm_p_load (pc := 84) (i := .aload_n 0) (sr := 2) (j := 0) (by decide +kernel) rfl rfl rfl) ?_
    refine gm_sz (fw_gr (pc := 85) (ix := 23) (ci := 0) (j := 3) (r := 3) (by decide +kernel) (e0k hE (k := 1) (c := 0) (by decide +kernel)) (by decide +kernel) (by decide +kernel) (e0r hE (k := 1) (j := 3) (r := 3) (by decide +kernel))) ?_
    refine gm_sz (fw_gr (pc := 88) (ix := 183) (ci := 1) (j := 11) (r := 8) (by decide +kernel) (e0k hE (k := 3) (c := 1) (by decide +kernel)) (by decide +kernel) (by decide +kernel) (e0r hE (k := 3) (j := 11) (r := 8) (by decide +kernel))) ?_
    refine gm_sz (gm_p_load (pc := 91) (i := .iload 5) (sr := 0) (j := 5) (by decide +kernel) rfl rfl rfl) ?_
    refine gm_sz (gm_p_const (pc := 93) (i := .iconst 2) (v := gm_vi 2) (by decide +kernel) (by decide +kernel)) ?_
    refine gm_c_virt (k := 8) (ci := 2) (mj := 10) (ix := 186) (pc := 94) (as := [gm_vi (i : Int), gm_vi 2]) (st := []) (d' := d - 1) (bc' := 0) (bs' := 0) (by decide +kernel) (by decide +kernel) (by decide +kernel) (by decide +kernel) (e0k hE (k := 8) (c := 2) (by decide +kernel)).1 (e0k hE (k := 8) (c := 2) (by decide +kernel)).2 (by decide) (by decide +kernel) (show 2 = gm_na 10 by decide +kernel) (fw_c2 fw_si fw_si) (show 3 ≤ gm_ml 10 by decide +kernel) (Nat.le_of_ble_eq_true rfl) (by omega) (Nat.zero_le _) (Nat.zero_le _) ?_
    refine rw_get (s := N 3) (w := 3) (x := N (95 + ((i : Int) * 3 + 2))) (e0k hE (k := 8) (c := 2) (by decide +kernel)) (e0a hE (k := 9) (q := (0, 24)) (by decide +kernel)) (e0r hE (k := 8) (j := 2) (r := 9) (by decide +kernel)) (by decide) ((fr_c hf (by decide)).trans (ti_peo hT)) ((fr_c hf (by decide)).trans (hT.1 (8, 1, 3) (by decide))) ⟨by omega, by omega⟩ ⟨by omega, by omega⟩ ⟨by omega, by omega⟩ ⟨by omega, by omega⟩ ((fr_c hf (by decide)).trans (ti_aP hT (by omega) (by omega))) ?_
    show gm_Wp X LX d _ _ 163 97 _ [gm_vi (N (95 + ((i : Int) * 3 + 2)))] n K _ _ Q
    refine gm_sz (gm_p_load (pc := 97) (i := .iload_n 2) (sr := 0) (j := 2) (by decide +kernel) rfl rfl rfl) ?_
    refine fw_ic (cc := .ne) (pc := 98) (off := 30) (by decide +kernel) (by decide) ⟨by omega, by omega⟩ ⟨by omega, by omega⟩ (fun h98 => ?_) (fun h98 => ?_)
    · have h98 : ¬ (N (95 + ((i : Int) * 3 + 2))) = (N (119 + (l * 7 + 2))) := h98
      refine gm_sz (gm_p_iinc (pc := 128) (j := 5) (z := 1) (by decide +kernel) rfl) ?_
      refine gm_sz (gm_p_goto (pc := 131) (off := (-62)) (by decide +kernel) (by decide)) ?_
      rw [tif_f (show ¬ (wop N ψ l dp) (i : Int) from (fun hh => h98 hh.1))] at he
      exact ih (i + 1) _ (by omega) (fr_t fr_0 hf (by decide)) he
    · have h98 : (N (95 + ((i : Int) * 3 + 2))) = (N (119 + (l * 7 + 2))) := Classical.not_not.mp h98
      refine gm_sz (gm_p_load (pc := 101) (i := .aload_n 0) (sr := 2) (j := 0) (by decide +kernel) rfl rfl rfl) ?_
      refine gm_sz (fw_gr (pc := 102) (ix := 49) (ci := 0) (j := 8) (r := 200) (by decide +kernel) (e0k hE (k := 1) (c := 0) (by decide +kernel)) (by decide +kernel) (by decide +kernel) (e0r hE (k := 1) (j := 8) (r := 200) (by decide +kernel))) ?_
      refine gm_sz (gm_p_load (pc := 105) (i := .iload 5) (sr := 0) (j := 5) (by decide +kernel) rfl rfl rfl) ?_
      refine gm_sz (gm_p_load (pc := 107) (i := .iload_n 2) (sr := 0) (j := 2) (by decide +kernel) rfl rfl rfl) ?_
      refine gm_sz (gm_p_load (pc := 108) (i := .iload 4) (sr := 0) (j := 4) (by decide +kernel) rfl rfl rfl) ?_
      refine gm_sz (gm_p_load (pc := 110) (i := .aload_n 0) (sr := 2) (j := 0) (by decide +kernel) rfl rfl rfl) ?_
      refine gm_sz (fw_gr (pc := 111) (ix := 97) (ci := 0) (j := 14) (r := 220) (by decide +kernel) (e0k hE (k := 1) (c := 0) (by decide +kernel)) (by decide +kernel) (by decide +kernel) (e0r hE (k := 1) (j := 14) (r := 220) (by decide +kernel))) ?_
      refine gm_sz (gm_p_load (pc := 114) (i := .iload_n 1) (sr := 0) (j := 1) (by decide +kernel) rfl rfl rfl) ?_
      refine gm_sz (gm_p_const (pc := 115) (i := .iconst 1) (v := gm_vi 1) (by decide +kernel) (by decide +kernel)) ?_
      refine gm_c_virt (k := 220) (ci := 2) (mj := 10) (ix := 186) (pc := 116) (as := [gm_vi l, gm_vi 1]) (st := [gm_vi (N 9 - N (119 + (l * 7 + 3))), gm_vi (N (119 + (l * 7 + 2))), gm_vi (i : Int), gm_vr 200]) (d' := d - 1) (bc' := 0) (bs' := 0) (by decide +kernel) (by decide +kernel) (by decide +kernel) (by decide +kernel) (e0k hE (k := 220) (c := 2) (by decide +kernel)).1 (e0k hE (k := 220) (c := 2) (by decide +kernel)).2 (by decide) (by decide +kernel) (show 2 = gm_na 10 by decide +kernel) (fw_c2 fw_si fw_si) (show 3 ≤ gm_ml 10 by decide +kernel) (Nat.le_of_ble_eq_true rfl) (by omega) (Nat.zero_le _) (Nat.zero_le _) ?_
      refine rw_get (s := N 4) (w := 2) (x := dp) (e0k hE (k := 220) (c := 2) (by decide +kernel)) (e0a hE (k := 221) (q := (0, 48)) (by decide +kernel)) (e0r hE (k := 220) (j := 2) (r := 221) (by decide +kernel)) (by decide) ((fr_c hf (by decide)).trans h3) ((fr_c hf (by decide)).trans (hT.1 (220, 1, 2) (by decide))) ⟨by omega, by omega⟩ ⟨by omega, by omega⟩ ⟨by omega, by omega⟩ ⟨by omega, by omega⟩ ((fr_c hf (by decide)).trans hdp) ?_
      show gm_Wp X LX d _ _ 163 119 _ [gm_vi dp, gm_vi (N 9 - N (119 + (l * 7 + 3))), gm_vi (N (119 + (l * 7 + 2))), gm_vi (i : Int), gm_vr 200] n K _ _ Q
      refine gm_c_virt (k := 200) (ci := 4) (mj := 164) (ix := 283) (pc := 119) (as := [gm_vi (i : Int), gm_vi (N (119 + (l * 7 + 2))), gm_vi (N 9 - N (119 + (l * 7 + 3))), gm_vi dp]) (st := []) (d' := d - 1) (bc' := 0) (bs' := 0) (by decide +kernel) (by decide +kernel) (by decide +kernel) (by decide +kernel) (e0k hE (k := 200) (c := 4) (by decide +kernel)).1 (e0k hE (k := 200) (c := 4) (by decide +kernel)).2 (by decide) (by decide +kernel) (show 4 = gm_na 164 by decide +kernel) (fw_c4 fw_si fw_si fw_si fw_si) (show 5 ≤ gm_ml 164 by decide +kernel) (Nat.le_of_ble_eq_true rfl) (by omega) (Nat.zero_le _) (Nat.zero_le _) ?_
      refine hmo _ _ _ _ _ (i : Int) (N (119 + (l * 7 + 2))) (N 9 - N (119 + (l * 7 + 3))) dp (by omega) ⟨by omega, by omega⟩ (ti_fr (W := [(204, none)]) hT (fr_t fr_0 hf (by decide)) (by decide) (by decide +kernel)) (hst [(204, none)] _ _ (by decide) (fr_t fr_0 hf (by decide)) hI) (fun v119 M119 hf119 => ?_) (fun v119 M119 hf119 => ?_)
      · show gm_Wp X LX d _ _ 163 122 _ [gm_vi 1] n K _ _ Q
        refine fw_iffd (cc := .eq) (pc := 122) (off := 6) (by decide +kernel) (by decide) ⟨by decide, by decide⟩ (by decide) ?_
        refine gm_sz (gm_p_load (pc := 125) (i := .iload 5) (sr := 0) (j := 5) (by decide +kernel) rfl rfl rfl) ?_
        rw [tif_t (show (wop N ψ l dp) (i : Int) from ⟨h98, v119⟩)] at he
        rw [he] at hq
        exact gm_r_int (pc := 127) (by decide +kernel) (Or.inl (by decide +kernel)) (hq _ (fr_t (fr_t fr_0 hf (by decide)) hf119 (by decide)))
      · show gm_Wp X LX d _ _ 163 122 _ [gm_vi 0] n K _ _ Q
        refine fw_iftd (cc := .eq) (pc := 122) (off := 6) (by decide +kernel) (by decide) ⟨by decide, by decide⟩ (by decide) ?_
        refine gm_sz (gm_p_iinc (pc := 128) (j := 5) (z := 1) (by decide +kernel) rfl) ?_
        refine gm_sz (gm_p_goto (pc := 131) (off := (-62)) (by decide +kernel) (by decide)) ?_
        rw [tif_f (show ¬ (wop N ψ l dp) (i : Int) from (fun hh => v119 hh.2))] at he
        exact ih (i + 1) _ (by omega) (fr_t (fr_t fr_0 hf (by decide)) hf119 (by decide)) he
theorem op_c163 (hd : 4 ≤ d) (hE : E0 n K R) (hT : TI N h sp M) (hN : NR N) (hst : FSt FI) (hmo : MOW X LX n K R N h sp FI ψ) (hI : FI M) (h1 : 0 ≤ l ∧ l < N 4) (hr : 0 ≤ (N (119 + (l * 7 + 0)))) (h3 : M 220 3 = N 4) (hdp : M 221 (l * 2 + 1) = dp) (hq : ∀ M2, fr [(204, none)] M M2 → Q (.inl (some (gm_vi (opf N ψ l dp)))) n K R M2) : gm_Wp X LX d bc bs 163 0 (gm_ent 163 [gm_vr 1, gm_vi l]) [] n K R M Q := by
  obtain ⟨⟨⟨a0, b0⟩, ⟨a1, b1⟩, ⟨a10, b10⟩, ⟨a11, b11⟩, ⟨a12, b12⟩, a9, b9⟩, ⟨⟨a2, b2⟩, ⟨a5, b5⟩, ⟨a3, b3⟩, ⟨a4, b4⟩, ⟨a6, b6⟩, ⟨a14, b14⟩, ⟨a7, b7⟩, a13, b13⟩, rF, rP, rL⟩ := id hN
  obtain ⟨r0, r1, r2, r3, -, -, -, r7⟩ := rL l h1.1 h1.2
  have r8 := r7 hr
  have to9 : 0 ≤ N (119 + (l * 7 + 1)) ∧ N (119 + (l * 7 + 1)) < N 3 := ⟨r8, r1.2⟩
  have ln9 : 0 ≤ N (119 + (l * 7 + 2)) ∧ N (119 + (l * 7 + 2)) < N 0 := r2
  have yr9 : 0 ≤ N (119 + (l * 7 + 3)) ∧ N (119 + (l * 7 + 3)) ≤ N 9 := r3
  obtain ⟨-, -, p2⟩ := rP _ to9.1 to9.2
  have p9 : -1 ≤ N (95 + (N (119 + (l * 7 + 1)) * 3 + 2)) ∧ N (95 + (N (119 + (l * 7 + 1)) * 3 + 2)) < N 0 := p2
  refine gm_sz (gm_p_load (pc := 0) (i := .aload_n 0) (sr := 2) (j := 0) (by decide +kernel) rfl rfl rfl) ?_
  refine gm_sz (fw_gr (pc := 1) (ix := 23) (ci := 0) (j := 3) (r := 3) (by decide +kernel) (e0k hE (k := 1) (c := 0) (by decide +kernel)) (by decide +kernel) (by decide +kernel) (e0r hE (k := 1) (j := 3) (r := 3) (by decide +kernel))) ?_
  refine gm_sz (fw_gr (pc := 4) (ix := 203) (ci := 1) (j := 12) (r := 10) (by decide +kernel) (e0k hE (k := 3) (c := 1) (by decide +kernel)) (by decide +kernel) (by decide +kernel) (e0r hE (k := 3) (j := 12) (r := 10) (by decide +kernel))) ?_
  refine gm_sz (gm_p_load (pc := 7) (i := .iload_n 1) (sr := 0) (j := 1) (by decide +kernel) rfl rfl rfl) ?_
  refine gm_sz (gm_p_const (pc := 8) (i := .iconst 2) (v := gm_vi 2) (by decide +kernel) (by decide +kernel)) ?_
  refine gm_c_virt (k := 10) (ci := 2) (mj := 10) (ix := 186) (pc := 9) (as := [gm_vi l, gm_vi 2]) (st := []) (d' := d - 1) (bc' := 0) (bs' := 0) (by decide +kernel) (by decide +kernel) (by decide +kernel) (by decide +kernel) (e0k hE (k := 10) (c := 2) (by decide +kernel)).1 (e0k hE (k := 10) (c := 2) (by decide +kernel)).2 (by decide) (by decide +kernel) (show 2 = gm_na 10 by decide +kernel) (fw_c2 fw_si fw_si) (show 3 ≤ gm_ml 10 by decide +kernel) (Nat.le_of_ble_eq_true rfl) (by omega) (Nat.zero_le _) (Nat.zero_le _) ?_
  refine rw_get (s := N 4) (w := 7) (x := N (119 + (l * 7 + 2))) (e0k hE (k := 10) (c := 2) (by decide +kernel)) (e0a hE (k := 11) (q := (0, 168)) (by decide +kernel)) (e0r hE (k := 10) (j := 2) (r := 11) (by decide +kernel)) (by decide) (ti_let hT) (hT.1 (10, 1, 7) (by decide)) ⟨by omega, by omega⟩ ⟨by omega, by omega⟩ ⟨by omega, by omega⟩ ⟨by omega, by omega⟩ (ti_aL hT (by omega) (by omega)) ?_
  show gm_Wp X LX d _ _ 163 12 _ [gm_vi (N (119 + (l * 7 + 2)))] n K _ _ Q
  refine gm_sz (gm_p_stor (pc := 12) (i := .istore_n 2) (sr := 0) (j := 2) (by decide +kernel) rfl (show 3 ≤ _ from Nat.le_of_ble_eq_true rfl) rfl) ?_
  refine gm_sz (gm_p_load (pc := 13) (i := .aload_n 0) (sr := 2) (j := 0) (by decide +kernel) rfl rfl rfl) ?_
  refine gm_sz (fw_gr (pc := 14) (ix := 23) (ci := 0) (j := 3) (r := 3) (by decide +kernel) (e0k hE (k := 1) (c := 0) (by decide +kernel)) (by decide +kernel) (by decide +kernel) (e0r hE (k := 1) (j := 3) (r := 3) (by decide +kernel))) ?_
  refine gm_sz (fw_gr (pc := 17) (ix := 203) (ci := 1) (j := 12) (r := 10) (by decide +kernel) (e0k hE (k := 3) (c := 1) (by decide +kernel)) (by decide +kernel) (by decide +kernel) (e0r hE (k := 3) (j := 12) (r := 10) (by decide +kernel))) ?_
  refine gm_sz (gm_p_load (pc := 20) (i := .iload_n 1) (sr := 0) (j := 1) (by decide +kernel) rfl rfl rfl) ?_
  refine gm_sz (gm_p_const (pc := 21) (i := .iconst 1) (v := gm_vi 1) (by decide +kernel) (by decide +kernel)) ?_
  refine gm_c_virt (k := 10) (ci := 2) (mj := 10) (ix := 186) (pc := 22) (as := [gm_vi l, gm_vi 1]) (st := []) (d' := d - 1) (bc' := 0) (bs' := 0) (by decide +kernel) (by decide +kernel) (by decide +kernel) (by decide +kernel) (e0k hE (k := 10) (c := 2) (by decide +kernel)).1 (e0k hE (k := 10) (c := 2) (by decide +kernel)).2 (by decide) (by decide +kernel) (show 2 = gm_na 10 by decide +kernel) (fw_c2 fw_si fw_si) (show 3 ≤ gm_ml 10 by decide +kernel) (Nat.le_of_ble_eq_true rfl) (by omega) (Nat.zero_le _) (Nat.zero_le _) ?_
  refine rw_get (s := N 4) (w := 7) (x := N (119 + (l * 7 + 1))) (e0k hE (k := 10) (c := 2) (by decide +kernel)) (e0a hE (k := 11) (q := (0, 168)) (by decide +kernel)) (e0r hE (k := 10) (j := 2) (r := 11) (by decide +kernel)) (by decide) (ti_let hT) (hT.1 (10, 1, 7) (by decide)) ⟨by omega, by omega⟩ ⟨by omega, by omega⟩ ⟨by omega, by omega⟩ ⟨by omega, by omega⟩ (ti_aL hT (by omega) (by omega)) ?_
  show gm_Wp X LX d _ _ 163 25 _ [gm_vi (N (119 + (l * 7 + 1)))] n K _ _ Q
  refine gm_sz (gm_p_stor (pc := 25) (i := .istore_n 3) (sr := 0) (j := 3) (by decide +kernel) rfl (show 4 ≤ _ from Nat.le_of_ble_eq_true rfl) rfl) ?_
  refine gm_sz (gm_p_load (pc := 26) (i := .aload_n 0) (sr := 2) (j := 0) (by decide +kernel) rfl rfl rfl) ?_
  refine gm_sz (fw_gr (pc := 27) (ix := 23) (ci := 0) (j := 3) (r := 3) (by decide +kernel) (e0k hE (k := 1) (c := 0) (by decide +kernel)) (by decide +kernel) (by decide +kernel) (e0r hE (k := 1) (j := 3) (r := 3) (by decide +kernel))) ?_
  refine gm_sz (fw_gr (pc := 30) (ix := 183) (ci := 1) (j := 11) (r := 8) (by decide +kernel) (e0k hE (k := 3) (c := 1) (by decide +kernel)) (by decide +kernel) (by decide +kernel) (e0r hE (k := 3) (j := 11) (r := 8) (by decide +kernel))) ?_
  refine gm_sz (gm_p_load (pc := 33) (i := .iload_n 3) (sr := 0) (j := 3) (by decide +kernel) rfl rfl rfl) ?_
  refine gm_sz (gm_p_const (pc := 34) (i := .iconst 2) (v := gm_vi 2) (by decide +kernel) (by decide +kernel)) ?_
  refine gm_c_virt (k := 8) (ci := 2) (mj := 10) (ix := 186) (pc := 35) (as := [gm_vi (N (119 + (l * 7 + 1))), gm_vi 2]) (st := []) (d' := d - 1) (bc' := 0) (bs' := 0) (by decide +kernel) (by decide +kernel) (by decide +kernel) (by decide +kernel) (e0k hE (k := 8) (c := 2) (by decide +kernel)).1 (e0k hE (k := 8) (c := 2) (by decide +kernel)).2 (by decide) (by decide +kernel) (show 2 = gm_na 10 by decide +kernel) (fw_c2 fw_si fw_si) (show 3 ≤ gm_ml 10 by decide +kernel) (Nat.le_of_ble_eq_true rfl) (by omega) (Nat.zero_le _) (Nat.zero_le _) ?_
  refine rw_get (s := N 3) (w := 3) (x := N (95 + ((N (119 + (l * 7 + 1))) * 3 + 2))) (e0k hE (k := 8) (c := 2) (by decide +kernel)) (e0a hE (k := 9) (q := (0, 24)) (by decide +kernel)) (e0r hE (k := 8) (j := 2) (r := 9) (by decide +kernel)) (by decide) (ti_peo hT) (hT.1 (8, 1, 3) (by decide)) ⟨by omega, by omega⟩ ⟨by omega, by omega⟩ ⟨by omega, by omega⟩ ⟨by omega, by omega⟩ (ti_aP hT (by omega) (by omega)) ?_
  show gm_Wp X LX d _ _ 163 38 _ [gm_vi (N (95 + ((N (119 + (l * 7 + 1))) * 3 + 2)))] n K _ _ Q
  refine gm_sz (gm_p_load (pc := 38) (i := .iload_n 2) (sr := 0) (j := 2) (by decide +kernel) rfl rfl rfl) ?_
  refine fw_ic (cc := .ne) (pc := 39) (off := 5) (by decide +kernel) (by decide) ⟨by omega, by omega⟩ ⟨by omega, by omega⟩ (fun h39 => ?_) (fun h39 => ?_)
  · have h39 : ¬ (N (95 + ((N (119 + (l * 7 + 1))) * 3 + 2))) = (N (119 + (l * 7 + 2))) := h39
    refine gm_sz (gm_p_load (pc := 44) (i := .aload_n 0) (sr := 2) (j := 0) (by decide +kernel) rfl rfl rfl) ?_
    refine gm_sz (fw_gr (pc := 45) (ix := 23) (ci := 0) (j := 3) (r := 3) (by decide +kernel) (e0k hE (k := 1) (c := 0) (by decide +kernel)) (by decide +kernel) (by decide +kernel) (e0r hE (k := 1) (j := 3) (r := 3) (by decide +kernel))) ?_
    refine gm_sz (fw_gi (pc := 48) (ix := 269) (ci := 1) (j := 6) (x := N 9) (by decide +kernel) (e0k hE (k := 3) (c := 1) (by decide +kernel)) (by decide +kernel) (by decide +kernel) (ti_now hT)) ?_
    refine gm_sz (gm_p_load (pc := 51) (i := .aload_n 0) (sr := 2) (j := 0) (by decide +kernel) rfl rfl rfl) ?_
    refine gm_sz (fw_gr (pc := 52) (ix := 23) (ci := 0) (j := 3) (r := 3) (by decide +kernel) (e0k hE (k := 1) (c := 0) (by decide +kernel)) (by decide +kernel) (by decide +kernel) (e0r hE (k := 1) (j := 3) (r := 3) (by decide +kernel))) ?_
    refine gm_sz (fw_gr (pc := 55) (ix := 203) (ci := 1) (j := 12) (r := 10) (by decide +kernel) (e0k hE (k := 3) (c := 1) (by decide +kernel)) (by decide +kernel) (by decide +kernel) (e0r hE (k := 3) (j := 12) (r := 10) (by decide +kernel))) ?_
    refine gm_sz (gm_p_load (pc := 58) (i := .iload_n 1) (sr := 0) (j := 1) (by decide +kernel) rfl rfl rfl) ?_
    refine gm_sz (gm_p_const (pc := 59) (i := .iconst 3) (v := gm_vi 3) (by decide +kernel) (by decide +kernel)) ?_
    refine gm_c_virt (k := 10) (ci := 2) (mj := 10) (ix := 186) (pc := 60) (as := [gm_vi l, gm_vi 3]) (st := [gm_vi (N 9)]) (d' := d - 1) (bc' := 0) (bs' := 0) (by decide +kernel) (by decide +kernel) (by decide +kernel) (by decide +kernel) (e0k hE (k := 10) (c := 2) (by decide +kernel)).1 (e0k hE (k := 10) (c := 2) (by decide +kernel)).2 (by decide) (by decide +kernel) (show 2 = gm_na 10 by decide +kernel) (fw_c2 fw_si fw_si) (show 3 ≤ gm_ml 10 by decide +kernel) (Nat.le_of_ble_eq_true rfl) (by omega) (Nat.zero_le _) (Nat.zero_le _) ?_
    refine rw_get (s := N 4) (w := 7) (x := N (119 + (l * 7 + 3))) (e0k hE (k := 10) (c := 2) (by decide +kernel)) (e0a hE (k := 11) (q := (0, 168)) (by decide +kernel)) (e0r hE (k := 10) (j := 2) (r := 11) (by decide +kernel)) (by decide) (ti_let hT) (hT.1 (10, 1, 7) (by decide)) ⟨by omega, by omega⟩ ⟨by omega, by omega⟩ ⟨by omega, by omega⟩ ⟨by omega, by omega⟩ (ti_aL hT (by omega) (by omega)) ?_
    show gm_Wp X LX d _ _ 163 63 _ [gm_vi (N (119 + (l * 7 + 3))), gm_vi (N 9)] n K _ _ Q
    refine gm_sz (gm_p_bin (pc := 63) (i := .isub) (f := fun x y => x - y) (by decide +kernel) rfl) ?_
    refine gm_sz (gm_p_stor (pc := 64) (i := .istore 4) (sr := 0) (j := 4) (by decide +kernel) rfl (show 5 ≤ _ from Nat.le_of_ble_eq_true rfl) rfl) ?_
    refine gm_sz (gm_p_const (pc := 66) (i := .iconst 0) (v := gm_vi 0) (by decide +kernel) (by decide +kernel)) ?_
    refine gm_sz (gm_p_stor (pc := 67) (i := .istore 5) (sr := 0) (j := 5) (by decide +kernel) rfl (show 6 ≤ _ from Nat.le_of_ble_eq_true rfl) rfl) ?_
    exact op_l hd hE hT hN hst hmo hI h1 hr h3 hdp h39 hq (N 3).toNat 0 M (by omega) fr_0 rfl
  · have h39 : (N (95 + ((N (119 + (l * 7 + 1))) * 3 + 2))) = (N (119 + (l * 7 + 2))) := Classical.not_not.mp h39
    refine gm_sz (gm_p_load (pc := 42) (i := .iload_n 3) (sr := 0) (j := 3) (by decide +kernel) rfl rfl rfl) ?_
    have e9 : opf N ψ l dp = N (119 + (l * 7 + 1)) := tif_t h39
    rw [e9] at hq
    exact gm_r_int (pc := 43) (by decide +kernel) (Or.inl (by decide +kernel)) (hq M fr_0)
end YR7
