/-! 7a14.c6en -/
section
/-! THE CLASS'S ENDS: when each LETTER is out, how deep (laid by wip/core/c6.py). -/
/-- when it is out (-1: never), how deep then -/
noncomputable def OUTR (N h : Int → Int) (φ : Int → Int → Int → Int) (l o d : Int) : Prop := (o = -1 ∧ ∀ j : Nat, (N (119 + (l * 7 + 3))) + (j : Int) ≤ 299 → (nwy N h φ ((N (119 + (l * 7 + 2)))) (if (N (119 + (l * 7 + 0))) = -1 then 1 else 0) (-1) ((N (119 + (l * 7 + 3)))) ((N (119 + (l * 7 + 4)))) j).1 < N 1) ∨ ∃ j : Nat, (N (119 + (l * 7 + 3))) + (j : Int) ≤ 299 ∧ o = (N (119 + (l * 7 + 3))) + (j : Int) ∧ N 1 ≤ (nwy N h φ ((N (119 + (l * 7 + 2)))) (if (N (119 + (l * 7 + 0))) = -1 then 1 else 0) (-1) ((N (119 + (l * 7 + 3)))) ((N (119 + (l * 7 + 4)))) j).1 ∧ (∀ i, i < j → (nwy N h φ ((N (119 + (l * 7 + 2)))) (if (N (119 + (l * 7 + 0))) = -1 then 1 else 0) (-1) ((N (119 + (l * 7 + 3)))) ((N (119 + (l * 7 + 4)))) i).1 < N 1) ∧ d = (nwy N h φ ((N (119 + (l * 7 + 2)))) (if (N (119 + (l * 7 + 0))) = -1 then 1 else 0) (-1) ((N (119 + (l * 7 + 3)))) ((N (119 + (l * 7 + 4)))) j).2
theorem OUTR_u {N h : Int → Int} {φ : Int → Int → Int → Int} {l o d o2 d2 : Int} (a : OUTR N h φ l o d) (b : OUTR N h φ l o2 d2) : o = o2 ∧ (0 ≤ (N (119 + (l * 7 + 3))) → 0 ≤ o → d = d2) := by
  rcases a with ⟨a1, a2⟩ | ⟨j, a1, a2, a3, a4, a5⟩
  · rcases b with ⟨b1, b2⟩ | ⟨i, b1, b2, b3, b4, b5⟩
    · exact ⟨by omega, fun _ h => by omega⟩
    · have := a2 i b1
      omega
  · rcases b with ⟨b1, b2⟩ | ⟨i, b1, b2, b3, b4, b5⟩
    · have := b2 j a1
      omega
    · have e : i = j := by
        rcases Nat.lt_trichotomy i j with h | h | h
        · have := a4 i h
          omega
        · exact h
        · have := b4 j h
          omega
      subst e
      exact ⟨by omega, fun _ _ => a5.trans b5.symm⟩
theorem OUTR_b {N h : Int → Int} {φ : Int → Int → Int → Int} {l o d : Int} (a : OUTR N h φ l o d) (h0 : 0 ≤ (N (119 + (l * 7 + 3)))) : -1 ≤ o ∧ o ≤ 299 := by
  rcases a with ⟨a1, a2⟩ | ⟨j, a1, a2, a3, a4, a5⟩ <;> exact ⟨by omega, by omega⟩
/-- the ends are right -/
noncomputable def ENDS (N h : Int → Int) (φ : Int → Int → Int → Int) (M : gm_M) : Prop := M 220 3 = N 4 ∧ ∀ l, 0 ≤ l → l < N 4 → OUTR N h φ l (M 221 (l * 2 + 0)) (M 221 (l * 2 + 1))
section EN6
variable {X : Int → Int} {LX d bc bs n : Nat} {K : gm_K} {R : gm_R} {M : gm_M} {Q : gm_Q} {l o y p : Int} {N h : Int → Int} {sp : Int → Int → Int} {FI : gm_M → Prop} {φ : Int → Int → Int → Int}
theorem en_l (hd : 17 ≤ d) (hE : E0 n K R) (hT : TI N h sp M) (hN : NR N) (hfw : FLW X LX n K R N h sp FI φ) (hq : ∀ M2, fr [(206, some 2), (206, some 3), (206, some 4), (206, some 5), (206, some 6), (206, some 7), (206, some 8), (200, some 6), (204, none), (205, none), (220, some 3), (221, none), (1, some 15)] M M2 → FI M2 → M2 1 15 = 1 → ENDS N h φ M2 → Q (.inl none) n K R M2) : ∀ (u i : Nat) (M1 : gm_M), (i : Int) + (u : Int) = N 4 → fr [(206, some 2), (206, some 3), (206, some 4), (206, some 5), (206, some 6), (206, some 7), (206, some 8), (200, some 6), (204, none), (205, none), (220, some 3), (221, none), (1, some 15)] M M1 → FI M1 → M1 220 3 = N 4 → (∀ l : Int, 0 ≤ l → l < (i : Int) → OUTR N h φ l (M1 221 (l * 2 + 0)) (M1 221 (l * 2 + 1))) → gm_Wp X LX d bc bs 24 27 [some (gm_vr 1), some (gm_vi (i : Int))] [] n K R M1 Q := by
  obtain ⟨⟨⟨a0, b0⟩, ⟨a1, b1⟩, ⟨a10, b10⟩, ⟨a11, b11⟩, ⟨a12, b12⟩, a9, b9⟩, ⟨⟨a2, b2⟩, ⟨a5, b5⟩, ⟨a3, b3⟩, ⟨a4, b4⟩, ⟨a6, b6⟩, ⟨a14, b14⟩, ⟨a7, b7⟩, a13, b13⟩, rF, rP, rL⟩ := id hN
  intro u
  induction u with
  | zero =>
    intro i M1 hi hf hI1 h3 ho
    refine gm_sz (gm_p_load (pc := 27) (i := .iload_n 1) (sr := 0) (j := 1) (by decide +kernel) rfl rfl rfl) ?_
    refine gm_sz (gm_p_load (pc := 28) (i := .aload_n 0) (sr := 2) (j := 0) (by decide +kernel) rfl rfl rfl) ?_
    refine gm_sz (fw_gr (pc := 29) (ix := 97) (ci := 0) (j := 14) (r := 220) (by decide +kernel) (e0k hE (k := 1) (c := 0) (by decide +kernel)) (by decide +kernel) (by decide +kernel) (e0r hE (k := 1) (j := 14) (r := 220) (by decide +kernel))) ?_
    refine gm_c_virt (k := 220) (ci := 2) (mj := 9) (ix := 277) (pc := 32) (as := []) (st := [gm_vi (i : Int)]) (d' := d - 1) (bc' := 0) (bs' := 0) (by decide +kernel) (by decide +kernel) (by decide +kernel) (by decide +kernel) (e0k hE (k := 220) (c := 2) (by decide +kernel)).1 (e0k hE (k := 220) (c := 2) (by decide +kernel)).2 (by decide) (by decide +kernel) (show 0 = gm_na 9 by decide +kernel) fw_c0 (show 1 ≤ gm_ml 9 by decide +kernel) (Nat.le_of_ble_eq_true rfl) (by omega) (Nat.zero_le _) (Nat.zero_le _) ?_
    refine rw_size (s := N 4) (e0k hE (k := 220) (c := 2) (by decide +kernel)) h3 ?_
    show gm_Wp X LX d _ _ 24 35 _ [gm_vi (N 4), gm_vi (i : Int)] n K _ _ Q
    refine fw_ict (cc := .ge) (pc := 35) (off := 52) (by decide +kernel) (by decide) ⟨by omega, by omega⟩ ⟨by omega, by omega⟩ (show (N 4) ≤ (i : Int) by omega) ?_
    refine gm_sz (gm_p_load (pc := 87) (i := .aload_n 0) (sr := 2) (j := 0) (by decide +kernel) rfl rfl rfl) ?_
    refine gm_sz (gm_p_const (pc := 88) (i := .iconst 1) (v := gm_vi 1) (by decide +kernel) (by decide +kernel)) ?_
    refine gm_sz (fw_pz (pc := 89) (ix := 101) (ci := 0) (j := 15) (M' := gm_uM M1 1 15 1) (by decide +kernel) (e0k hE (k := 1) (c := 0) (by decide +kernel)) (by decide +kernel) (by decide +kernel) (by decide +kernel) (Or.inr rfl) rfl) ?_
    refine gm_r_void (pc := 92) (by decide +kernel) (by decide +kernel) (hq (gm_uM M1 1 15 1) (fr_p (fr_t fr_0 hf (by decide)) (Or.inr (by decide))) (hfw.2.1 [(1, some 15)] _ _ (by decide) (fr_p fr_0 (Or.inr (by decide))) hI1) uM_at ⟨((uM_ne (by omega)).trans h3), fun l l0 l1 => ?_⟩)
    rw [show (gm_uM M1 1 15 1) 221 (l * 2 + 0) = M1 221 (l * 2 + 0) from uM_ne (by omega), show (gm_uM M1 1 15 1) 221 (l * 2 + 1) = M1 221 (l * 2 + 1) from uM_ne (by omega)]
    exact ho l l0 (by omega)
  | succ u ih =>
    intro i M1 hi hf hI1 h3 ho
    obtain ⟨-, -, l2, l3, l4, -⟩ := rL (i : Int) (by omega) (by omega)
    have l5 : 0 ≤ (N (119 + ((i : Int) * 7 + 4))) ∧ (N (119 + ((i : Int) * 7 + 4))) ≤ 300 := ⟨l4.1, by have := l4.2; omega⟩
    have l4 := l5
    have rk9 : 0 ≤ (if (N (119 + ((i : Int) * 7 + 0))) = -1 then (1 : Int) else 0) ∧ (if (N (119 + ((i : Int) * 7 + 0))) = -1 then (1 : Int) else 0) ≤ 1 := by split <;> exact ⟨by decide, by decide⟩
    refine gm_sz (gm_p_load (pc := 27) (i := .iload_n 1) (sr := 0) (j := 1) (by decide +kernel) rfl rfl rfl) ?_
    refine gm_sz (gm_p_load (pc := 28) (i := .aload_n 0) (sr := 2) (j := 0) (by decide +kernel) rfl rfl rfl) ?_
    refine gm_sz (fw_gr (pc := 29) (ix := 97) (ci := 0) (j := 14) (r := 220) (by decide +kernel) (e0k hE (k := 1) (c := 0) (by decide +kernel)) (by decide +kernel) (by decide +kernel) (e0r hE (k := 1) (j := 14) (r := 220) (by decide +kernel))) ?_
    refine gm_c_virt (k := 220) (ci := 2) (mj := 9) (ix := 277) (pc := 32) (as := []) (st := [gm_vi (i : Int)]) (d' := d - 1) (bc' := 0) (bs' := 0) (by decide +kernel) (by decide +kernel) (by decide +kernel) (by decide +kernel) (e0k hE (k := 220) (c := 2) (by decide +kernel)).1 (e0k hE (k := 220) (c := 2) (by decide +kernel)).2 (by decide) (by decide +kernel) (show 0 = gm_na 9 by decide +kernel) fw_c0 (show 1 ≤ gm_ml 9 by decide +kernel) (Nat.le_of_ble_eq_true rfl) (by omega) (Nat.zero_le _) (Nat.zero_le _) ?_
    refine rw_size (s := N 4) (e0k hE (k := 220) (c := 2) (by decide +kernel)) h3 ?_
    show gm_Wp X LX d _ _ 24 35 _ [gm_vi (N 4), gm_vi (i : Int)] n K _ _ Q
    refine fw_icf (cc := .ge) (pc := 35) (off := 52) (by decide +kernel) (by decide) ⟨by omega, by omega⟩ ⟨by omega, by omega⟩ (show ¬ (N 4) ≤ (i : Int) by omega) ?_
    refine gm_sz (gm_p_load (pc := 38) (i := .aload_n 0) (sr := 2) (j := 0) (by decide +kernel) rfl rfl rfl) ?_
    refine gm_sz (fw_gr (pc := 39) (ix := 58) (ci := 0) (j := 9) (r := 206) (by decide +kernel) (e0k hE (k := 1) (c := 0) (by decide +kernel)) (by decide +kernel) (by decide +kernel) (e0r hE (k := 1) (j := 9) (r := 206) (by decide +kernel))) ?_
    refine gm_sz (gm_p_load (pc := 42) (i := .iload_n 1) (sr := 0) (j := 1) (by decide +kernel) rfl rfl rfl) ?_
    refine gm_c_virt (k := 206) (ci := 5) (mj := 27) (ix := 217) (pc := 43) (as := [gm_vi (i : Int)]) (st := []) (d' := d - 1) (bc' := 0) (bs' := 0) (by decide +kernel) (by decide +kernel) (by decide +kernel) (by decide +kernel) (e0k hE (k := 206) (c := 5) (by decide +kernel)).1 (e0k hE (k := 206) (c := 5) (by decide +kernel)).2 (by decide) (by decide +kernel) (show 1 = gm_na 27 by decide +kernel) (fw_c1 fw_si) (show 2 ≤ gm_ml 27 by decide +kernel) (Nat.le_of_ble_eq_true rfl) (by omega) (Nat.zero_le _) (Nat.zero_le _) ?_
    refine wy_let206 (by omega) hE (ti_fr (W := [(206, some 2), (206, some 3), (206, some 4), (206, some 5), (206, some 6), (206, some 7), (206, some 8), (200, some 6), (204, none), (205, none), (220, some 3), (221, none), (1, some 15)]) hT (fr_t fr_0 hf (by decide)) (by decide) (by decide +kernel)) hN ⟨by omega, by omega⟩ ?_
    show gm_Wp X LX d _ _ 24 46 _ [] n K _ _ Q
    refine gm_sz (gm_p_load (pc := 46) (i := .aload_n 0) (sr := 2) (j := 0) (by decide +kernel) rfl rfl rfl) ?_
    refine gm_sz (fw_gr (pc := 47) (ix := 97) (ci := 0) (j := 14) (r := 220) (by decide +kernel) (e0k hE (k := 1) (c := 0) (by decide +kernel)) (by decide +kernel) (by decide +kernel) (e0r hE (k := 1) (j := 14) (r := 220) (by decide +kernel))) ?_
    refine gm_sz (gm_p_load (pc := 50) (i := .iload_n 1) (sr := 0) (j := 1) (by decide +kernel) rfl rfl rfl) ?_
    refine gm_sz (gm_p_const (pc := 51) (i := .iconst 0) (v := gm_vi 0) (by decide +kernel) (by decide +kernel)) ?_
    refine gm_sz (gm_p_load (pc := 52) (i := .aload_n 0) (sr := 2) (j := 0) (by decide +kernel) rfl rfl rfl) ?_
    refine gm_sz (fw_gr (pc := 53) (ix := 58) (ci := 0) (j := 9) (r := 206) (by decide +kernel) (e0k hE (k := 1) (c := 0) (by decide +kernel)) (by decide +kernel) (by decide +kernel) (e0r hE (k := 1) (j := 9) (r := 206) (by decide +kernel))) ?_
    refine gm_sz (gm_p_const (pc := 56) (i := .sipush 299) (v := gm_vi 299) (by decide +kernel) (by decide +kernel)) ?_
    refine gm_c_virt (k := 206) (ci := 5) (mj := 30) (ix := 295) (pc := 59) (as := [gm_vi 299]) (st := [gm_vi 0, gm_vi (i : Int), gm_vr 220]) (d' := d - 1) (bc' := 0) (bs' := 0) (by decide +kernel) (by decide +kernel) (by decide +kernel) (by decide +kernel) (e0k hE (k := 206) (c := 5) (by decide +kernel)).1 (e0k hE (k := 206) (c := 5) (by decide +kernel)).2 (by decide) (by decide +kernel) (show 1 = gm_na 30 by decide +kernel) (fw_c1 fw_si) (show 2 ≤ gm_ml 30 by decide +kernel) (Nat.le_of_ble_eq_true rfl) (by omega) (Nat.zero_le _) (Nat.zero_le _) ?_
    refine wy_c30_206 (lane := (N (119 + ((i : Int) * 7 + 2)))) (rock := (if (N (119 + ((i : Int) * 7 + 0))) = -1 then 1 else 0)) (wo := -1) (r0 := (N (119 + ((i : Int) * 7 + 4)))) (y0 := (N (119 + ((i : Int) * 7 + 3)))) (lim := 299) (by omega) hE (ti_fr (W := [(206, some 2), (206, some 3), (206, some 4), (206, some 5), (206, some 6), (206, some 7), (206, some 8), (200, some 6), (204, none), (205, none), (220, some 3), (221, none), (1, some 15)]) hT (fr_p (fr_p (fr_p (fr_p (fr_p (fr_p (fr_p (fr_t fr_0 hf (by decide)) (Or.inr (by decide))) (Or.inr (by decide))) (Or.inr (by decide))) (Or.inr (by decide))) (Or.inr (by decide))) (Or.inr (by decide))) (Or.inr (by decide))) (by decide) (by decide +kernel)) hN hfw (hfw.2.1 [(206, some 2), (206, some 5), (206, some 7), (206, some 3), (206, some 4), (206, some 6), (206, some 8)] _ _ (by decide) (fr_p (fr_p (fr_p (fr_p (fr_p (fr_p (fr_p fr_0 (Or.inr (by decide))) (Or.inr (by decide))) (Or.inr (by decide))) (Or.inr (by decide))) (Or.inr (by decide))) (Or.inr (by decide))) (Or.inr (by decide))) hI1) ((uM_ne (by omega)).trans ((uM_ne (by omega)).trans ((uM_ne (by omega)).trans ((uM_ne (by omega)).trans ((uM_ne (by omega)).trans ((uM_ne (by omega)).trans uM_at)))))) ((uM_ne (by omega)).trans ((uM_ne (by omega)).trans ((uM_ne (by omega)).trans uM_at))) ((uM_ne (by omega)).trans ((uM_ne (by omega)).trans uM_at)) ((uM_ne (by omega)).trans ((uM_ne (by omega)).trans ((uM_ne (by omega)).trans ((uM_ne (by omega)).trans ((uM_ne (by omega)).trans uM_at))))) ((uM_ne (by omega)).trans uM_at) ((uM_ne (by omega)).trans ((uM_ne (by omega)).trans ((uM_ne (by omega)).trans ((uM_ne (by omega)).trans uM_at)))) l3.1 l2 rk9 ⟨by decide, by decide⟩ l4 (by have := l3.2; omega) (by decide) (by decide) (fun j9 M30 hf30 hI30 g1 g2 g3 g5 g6 => ?_) (fun M30 hf30 hI30 g1 => ?_)
    · show gm_Wp X LX d _ _ 24 62 _ [gm_vi ((N (119 + ((i : Int) * 7 + 3))) + (j9 : Int)), gm_vi 0, gm_vi (i : Int), gm_vr 220] n K _ _ Q
      refine gm_c_virt (k := 220) (ci := 2) (mj := 45) (ix := 250) (pc := 62) (as := [gm_vi (i : Int), gm_vi 0, gm_vi ((N (119 + ((i : Int) * 7 + 3))) + (j9 : Int))]) (st := []) (d' := d - 1) (bc' := 0) (bs' := 0) (by decide +kernel) (by decide +kernel) (by decide +kernel) (by decide +kernel) (e0k hE (k := 220) (c := 2) (by decide +kernel)).1 (e0k hE (k := 220) (c := 2) (by decide +kernel)).2 (by decide) (by decide +kernel) (show 3 = gm_na 45 by decide +kernel) (fw_c3 fw_si fw_si fw_si) (show 4 ≤ gm_ml 45 by decide +kernel) (Nat.le_of_ble_eq_true rfl) (by omega) (Nat.zero_le _) (Nat.zero_le _) ?_
      refine rw_put (s := N 4) (w := 2) (e0k hE (k := 220) (c := 2) (by decide +kernel)) (e0a hE (k := 221) (q := (0, 48)) (by decide +kernel)) (e0r hE (k := 220) (j := 2) (r := 221) (by decide +kernel)) (by decide) ((fr_c hf30 (by decide)).trans ((uM_ne (by omega)).trans ((uM_ne (by omega)).trans ((uM_ne (by omega)).trans ((uM_ne (by omega)).trans ((uM_ne (by omega)).trans ((uM_ne (by omega)).trans ((uM_ne (by omega)).trans h3)))))))) ((fr_c hf30 (by decide)).trans ((uM_ne (by omega)).trans ((uM_ne (by omega)).trans ((uM_ne (by omega)).trans ((uM_ne (by omega)).trans ((uM_ne (by omega)).trans ((uM_ne (by omega)).trans ((uM_ne (by omega)).trans ((fr_j hf (by decide)).trans (hT.1 (220, 1, 2) (by decide))))))))))) ⟨by omega, by omega⟩ ⟨by omega, by omega⟩ ⟨by omega, by omega⟩ ⟨by omega, by omega⟩ ?_
      show gm_Wp X LX d _ _ 24 65 _ [] n K _ _ Q
      refine gm_sz (gm_p_load (pc := 65) (i := .aload_n 0) (sr := 2) (j := 0) (by decide +kernel) rfl rfl rfl) ?_
      refine gm_sz (fw_gr (pc := 66) (ix := 97) (ci := 0) (j := 14) (r := 220) (by decide +kernel) (e0k hE (k := 1) (c := 0) (by decide +kernel)) (by decide +kernel) (by decide +kernel) (e0r hE (k := 1) (j := 14) (r := 220) (by decide +kernel))) ?_
      refine gm_sz (gm_p_load (pc := 69) (i := .iload_n 1) (sr := 0) (j := 1) (by decide +kernel) rfl rfl rfl) ?_
      refine gm_sz (gm_p_const (pc := 70) (i := .iconst 1) (v := gm_vi 1) (by decide +kernel) (by decide +kernel)) ?_
      refine gm_sz (gm_p_load (pc := 71) (i := .aload_n 0) (sr := 2) (j := 0) (by decide +kernel) rfl rfl rfl) ?_
      refine gm_sz (fw_gr (pc := 72) (ix := 58) (ci := 0) (j := 9) (r := 206) (by decide +kernel) (e0k hE (k := 1) (c := 0) (by decide +kernel)) (by decide +kernel) (by decide +kernel) (e0r hE (k := 1) (j := 9) (r := 206) (by decide +kernel))) ?_
      refine gm_sz (fw_gi (pc := 75) (ix := 209) (ci := 5) (j := 6) (x := (nwy N h φ ((N (119 + ((i : Int) * 7 + 2)))) (if (N (119 + ((i : Int) * 7 + 0))) = -1 then 1 else 0) (-1) ((N (119 + ((i : Int) * 7 + 3)))) ((N (119 + ((i : Int) * 7 + 4)))) j9).2) (by decide +kernel) (e0k hE (k := 206) (c := 5) (by decide +kernel)) (by decide +kernel) (by decide +kernel) ((uM_ne (by omega)).trans g6)) ?_
      refine gm_c_virt (k := 220) (ci := 2) (mj := 45) (ix := 250) (pc := 78) (as := [gm_vi (i : Int), gm_vi 1, gm_vi ((nwy N h φ ((N (119 + ((i : Int) * 7 + 2)))) (if (N (119 + ((i : Int) * 7 + 0))) = -1 then 1 else 0) (-1) ((N (119 + ((i : Int) * 7 + 3)))) ((N (119 + ((i : Int) * 7 + 4)))) j9).2)]) (st := []) (d' := d - 1) (bc' := 0) (bs' := 0) (by decide +kernel) (by decide +kernel) (by decide +kernel) (by decide +kernel) (e0k hE (k := 220) (c := 2) (by decide +kernel)).1 (e0k hE (k := 220) (c := 2) (by decide +kernel)).2 (by decide) (by decide +kernel) (show 3 = gm_na 45 by decide +kernel) (fw_c3 fw_si fw_si fw_si) (show 4 ≤ gm_ml 45 by decide +kernel) (Nat.le_of_ble_eq_true rfl) (by omega) (Nat.zero_le _) (Nat.zero_le _) ?_
      refine rw_put (s := N 4) (w := 2) (e0k hE (k := 220) (c := 2) (by decide +kernel)) (e0a hE (k := 221) (q := (0, 48)) (by decide +kernel)) (e0r hE (k := 220) (j := 2) (r := 221) (by decide +kernel)) (by decide) ((uM_ne (by omega)).trans ((fr_c hf30 (by decide)).trans ((uM_ne (by omega)).trans ((uM_ne (by omega)).trans ((uM_ne (by omega)).trans ((uM_ne (by omega)).trans ((uM_ne (by omega)).trans ((uM_ne (by omega)).trans ((uM_ne (by omega)).trans h3))))))))) ((uM_ne (by omega)).trans ((fr_c hf30 (by decide)).trans ((uM_ne (by omega)).trans ((uM_ne (by omega)).trans ((uM_ne (by omega)).trans ((uM_ne (by omega)).trans ((uM_ne (by omega)).trans ((uM_ne (by omega)).trans ((uM_ne (by omega)).trans ((fr_j hf (by decide)).trans (hT.1 (220, 1, 2) (by decide)))))))))))) ⟨by omega, by omega⟩ ⟨by omega, by omega⟩ ⟨by omega, by omega⟩ ⟨by omega, by omega⟩ ?_
      show gm_Wp X LX d _ _ 24 81 _ [] n K _ _ Q
      refine gm_sz (gm_p_iinc (pc := 81) (j := 1) (z := 1) (by decide +kernel) rfl) ?_
      refine gm_sz (gm_p_goto (pc := 84) (off := (-57)) (by decide +kernel) (by decide)) ?_
      refine ih (i + 1) _ (by omega) (fr_p (fr_p (fr_t (fr_p (fr_p (fr_p (fr_p (fr_p (fr_p (fr_p (fr_t fr_0 hf (by decide)) (Or.inr (by decide))) (Or.inr (by decide))) (Or.inr (by decide))) (Or.inr (by decide))) (Or.inr (by decide))) (Or.inr (by decide))) (Or.inr (by decide))) hf30 (by decide)) (Or.inl (by decide))) (Or.inl (by decide))) (hfw.2.1 [(221, none)] _ _ (by decide) (fr_p (fr_p fr_0 (Or.inl (by decide))) (Or.inl (by decide))) hI30) ((uM_ne (by omega)).trans ((uM_ne (by omega)).trans ((fr_c hf30 (by decide)).trans ((uM_ne (by omega)).trans ((uM_ne (by omega)).trans ((uM_ne (by omega)).trans ((uM_ne (by omega)).trans ((uM_ne (by omega)).trans ((uM_ne (by omega)).trans ((uM_ne (by omega)).trans h3)))))))))) (fun l l0 l1 => ?_)
      by_cases e : l = (i : Int)
      · subst e
        rw [show (gm_uM (gm_uM M30 221 ((i : Int) * 2 + 0) ((N (119 + ((i : Int) * 7 + 3))) + (j9 : Int))) 221 ((i : Int) * 2 + 1) ((nwy N h φ ((N (119 + ((i : Int) * 7 + 2)))) (if (N (119 + ((i : Int) * 7 + 0))) = -1 then 1 else 0) (-1) ((N (119 + ((i : Int) * 7 + 3)))) ((N (119 + ((i : Int) * 7 + 4)))) j9).2)) 221 ((i : Int) * 2 + 0) = (N (119 + ((i : Int) * 7 + 3))) + (j9 : Int) from ((uM_ne (by omega)).trans uM_at), show (gm_uM (gm_uM M30 221 ((i : Int) * 2 + 0) ((N (119 + ((i : Int) * 7 + 3))) + (j9 : Int))) 221 ((i : Int) * 2 + 1) ((nwy N h φ ((N (119 + ((i : Int) * 7 + 2)))) (if (N (119 + ((i : Int) * 7 + 0))) = -1 then 1 else 0) (-1) ((N (119 + ((i : Int) * 7 + 3)))) ((N (119 + ((i : Int) * 7 + 4)))) j9).2)) 221 ((i : Int) * 2 + 1) = (nwy N h φ ((N (119 + ((i : Int) * 7 + 2)))) (if (N (119 + ((i : Int) * 7 + 0))) = -1 then 1 else 0) (-1) ((N (119 + ((i : Int) * 7 + 3)))) ((N (119 + ((i : Int) * 7 + 4)))) j9).2 from uM_at]
        exact Or.inr ⟨j9, g1, rfl, g2, g3, rfl⟩
      · rw [show (gm_uM (gm_uM M30 221 ((i : Int) * 2 + 0) ((N (119 + ((i : Int) * 7 + 3))) + (j9 : Int))) 221 ((i : Int) * 2 + 1) ((nwy N h φ ((N (119 + ((i : Int) * 7 + 2)))) (if (N (119 + ((i : Int) * 7 + 0))) = -1 then 1 else 0) (-1) ((N (119 + ((i : Int) * 7 + 3)))) ((N (119 + ((i : Int) * 7 + 4)))) j9).2)) 221 (l * 2 + 0) = M1 221 (l * 2 + 0) from ((uM_ne (by omega)).trans ((uM_ne (by omega)).trans ((fr_c hf30 (by decide)).trans ((uM_ne (by omega)).trans ((uM_ne (by omega)).trans ((uM_ne (by omega)).trans ((uM_ne (by omega)).trans ((uM_ne (by omega)).trans ((uM_ne (by omega)).trans ((uM_ne (by omega)).trans rfl)))))))))), show (gm_uM (gm_uM M30 221 ((i : Int) * 2 + 0) ((N (119 + ((i : Int) * 7 + 3))) + (j9 : Int))) 221 ((i : Int) * 2 + 1) ((nwy N h φ ((N (119 + ((i : Int) * 7 + 2)))) (if (N (119 + ((i : Int) * 7 + 0))) = -1 then 1 else 0) (-1) ((N (119 + ((i : Int) * 7 + 3)))) ((N (119 + ((i : Int) * 7 + 4)))) j9).2)) 221 (l * 2 + 1) = M1 221 (l * 2 + 1) from ((uM_ne (by omega)).trans ((uM_ne (by omega)).trans ((fr_c hf30 (by decide)).trans ((uM_ne (by omega)).trans ((uM_ne (by omega)).trans ((uM_ne (by omega)).trans ((uM_ne (by omega)).trans ((uM_ne (by omega)).trans ((uM_ne (by omega)).trans ((uM_ne (by omega)).trans rfl))))))))))]
        exact ho l l0 (by omega)
    · show gm_Wp X LX d _ _ 24 62 _ [gm_vi (-1), gm_vi 0, gm_vi (i : Int), gm_vr 220] n K _ _ Q
      refine gm_c_virt (k := 220) (ci := 2) (mj := 45) (ix := 250) (pc := 62) (as := [gm_vi (i : Int), gm_vi 0, gm_vi (-1)]) (st := []) (d' := d - 1) (bc' := 0) (bs' := 0) (by decide +kernel) (by decide +kernel) (by decide +kernel) (by decide +kernel) (e0k hE (k := 220) (c := 2) (by decide +kernel)).1 (e0k hE (k := 220) (c := 2) (by decide +kernel)).2 (by decide) (by decide +kernel) (show 3 = gm_na 45 by decide +kernel) (fw_c3 fw_si fw_si fw_si) (show 4 ≤ gm_ml 45 by decide +kernel) (Nat.le_of_ble_eq_true rfl) (by omega) (Nat.zero_le _) (Nat.zero_le _) ?_
      refine rw_put (s := N 4) (w := 2) (e0k hE (k := 220) (c := 2) (by decide +kernel)) (e0a hE (k := 221) (q := (0, 48)) (by decide +kernel)) (e0r hE (k := 220) (j := 2) (r := 221) (by decide +kernel)) (by decide) ((fr_c hf30 (by decide)).trans ((uM_ne (by omega)).trans ((uM_ne (by omega)).trans ((uM_ne (by omega)).trans ((uM_ne (by omega)).trans ((uM_ne (by omega)).trans ((uM_ne (by omega)).trans ((uM_ne (by omega)).trans h3)))))))) ((fr_c hf30 (by decide)).trans ((uM_ne (by omega)).trans ((uM_ne (by omega)).trans ((uM_ne (by omega)).trans ((uM_ne (by omega)).trans ((uM_ne (by omega)).trans ((uM_ne (by omega)).trans ((uM_ne (by omega)).trans ((fr_j hf (by decide)).trans (hT.1 (220, 1, 2) (by decide))))))))))) ⟨by omega, by omega⟩ ⟨by omega, by omega⟩ ⟨by omega, by omega⟩ ⟨by omega, by omega⟩ ?_
      show gm_Wp X LX d _ _ 24 65 _ [] n K _ _ Q
      refine gm_sz (gm_p_load (pc := 65) (i := .aload_n 0) (sr := 2) (j := 0) (by decide +kernel) rfl rfl rfl) ?_
      refine gm_sz (fw_gr (pc := 66) (ix := 97) (ci := 0) (j := 14) (r := 220) (by decide +kernel) (e0k hE (k := 1) (c := 0) (by decide +kernel)) (by decide +kernel) (by decide +kernel) (e0r hE (k := 1) (j := 14) (r := 220) (by decide +kernel))) ?_
      refine gm_sz (gm_p_load (pc := 69) (i := .iload_n 1) (sr := 0) (j := 1) (by decide +kernel) rfl rfl rfl) ?_
      refine gm_sz (gm_p_const (pc := 70) (i := .iconst 1) (v := gm_vi 1) (by decide +kernel) (by decide +kernel)) ?_
      refine gm_sz (gm_p_load (pc := 71) (i := .aload_n 0) (sr := 2) (j := 0) (by decide +kernel) rfl rfl rfl) ?_
      refine gm_sz (fw_gr (pc := 72) (ix := 58) (ci := 0) (j := 9) (r := 206) (by decide +kernel) (e0k hE (k := 1) (c := 0) (by decide +kernel)) (by decide +kernel) (by decide +kernel) (e0r hE (k := 1) (j := 9) (r := 206) (by decide +kernel))) ?_
      refine gm_sz (fw_gi (pc := 75) (ix := 209) (ci := 5) (j := 6) (x := M30 206 6) (by decide +kernel) (e0k hE (k := 206) (c := 5) (by decide +kernel)) (by decide +kernel) (by decide +kernel) (uM_ne (by omega))) ?_
      refine gm_c_virt (k := 220) (ci := 2) (mj := 45) (ix := 250) (pc := 78) (as := [gm_vi (i : Int), gm_vi 1, gm_vi (M30 206 6)]) (st := []) (d' := d - 1) (bc' := 0) (bs' := 0) (by decide +kernel) (by decide +kernel) (by decide +kernel) (by decide +kernel) (e0k hE (k := 220) (c := 2) (by decide +kernel)).1 (e0k hE (k := 220) (c := 2) (by decide +kernel)).2 (by decide) (by decide +kernel) (show 3 = gm_na 45 by decide +kernel) (fw_c3 fw_si fw_si fw_si) (show 4 ≤ gm_ml 45 by decide +kernel) (Nat.le_of_ble_eq_true rfl) (by omega) (Nat.zero_le _) (Nat.zero_le _) ?_
      refine rw_put (s := N 4) (w := 2) (e0k hE (k := 220) (c := 2) (by decide +kernel)) (e0a hE (k := 221) (q := (0, 48)) (by decide +kernel)) (e0r hE (k := 220) (j := 2) (r := 221) (by decide +kernel)) (by decide) ((uM_ne (by omega)).trans ((fr_c hf30 (by decide)).trans ((uM_ne (by omega)).trans ((uM_ne (by omega)).trans ((uM_ne (by omega)).trans ((uM_ne (by omega)).trans ((uM_ne (by omega)).trans ((uM_ne (by omega)).trans ((uM_ne (by omega)).trans h3))))))))) ((uM_ne (by omega)).trans ((fr_c hf30 (by decide)).trans ((uM_ne (by omega)).trans ((uM_ne (by omega)).trans ((uM_ne (by omega)).trans ((uM_ne (by omega)).trans ((uM_ne (by omega)).trans ((uM_ne (by omega)).trans ((uM_ne (by omega)).trans ((fr_j hf (by decide)).trans (hT.1 (220, 1, 2) (by decide)))))))))))) ⟨by omega, by omega⟩ ⟨by omega, by omega⟩ ⟨by omega, by omega⟩ ⟨by omega, by omega⟩ ?_
      show gm_Wp X LX d _ _ 24 81 _ [] n K _ _ Q
      refine gm_sz (gm_p_iinc (pc := 81) (j := 1) (z := 1) (by decide +kernel) rfl) ?_
      refine gm_sz (gm_p_goto (pc := 84) (off := (-57)) (by decide +kernel) (by decide)) ?_
      refine ih (i + 1) _ (by omega) (fr_p (fr_p (fr_t (fr_p (fr_p (fr_p (fr_p (fr_p (fr_p (fr_p (fr_t fr_0 hf (by decide)) (Or.inr (by decide))) (Or.inr (by decide))) (Or.inr (by decide))) (Or.inr (by decide))) (Or.inr (by decide))) (Or.inr (by decide))) (Or.inr (by decide))) hf30 (by decide)) (Or.inl (by decide))) (Or.inl (by decide))) (hfw.2.1 [(221, none)] _ _ (by decide) (fr_p (fr_p fr_0 (Or.inl (by decide))) (Or.inl (by decide))) hI30) ((uM_ne (by omega)).trans ((uM_ne (by omega)).trans ((fr_c hf30 (by decide)).trans ((uM_ne (by omega)).trans ((uM_ne (by omega)).trans ((uM_ne (by omega)).trans ((uM_ne (by omega)).trans ((uM_ne (by omega)).trans ((uM_ne (by omega)).trans ((uM_ne (by omega)).trans h3)))))))))) (fun l l0 l1 => ?_)
      by_cases e : l = (i : Int)
      · subst e
        rw [show (gm_uM (gm_uM M30 221 ((i : Int) * 2 + 0) (-1)) 221 ((i : Int) * 2 + 1) (M30 206 6)) 221 ((i : Int) * 2 + 0) = (-1) from ((uM_ne (by omega)).trans uM_at), show (gm_uM (gm_uM M30 221 ((i : Int) * 2 + 0) (-1)) 221 ((i : Int) * 2 + 1) (M30 206 6)) 221 ((i : Int) * 2 + 1) = M30 206 6 from uM_at]
        exact Or.inl ⟨rfl, g1⟩
      · rw [show (gm_uM (gm_uM M30 221 ((i : Int) * 2 + 0) (-1)) 221 ((i : Int) * 2 + 1) (M30 206 6)) 221 (l * 2 + 0) = M1 221 (l * 2 + 0) from ((uM_ne (by omega)).trans ((uM_ne (by omega)).trans ((fr_c hf30 (by decide)).trans ((uM_ne (by omega)).trans ((uM_ne (by omega)).trans ((uM_ne (by omega)).trans ((uM_ne (by omega)).trans ((uM_ne (by omega)).trans ((uM_ne (by omega)).trans ((uM_ne (by omega)).trans rfl)))))))))), show (gm_uM (gm_uM M30 221 ((i : Int) * 2 + 0) (-1)) 221 ((i : Int) * 2 + 1) (M30 206 6)) 221 (l * 2 + 1) = M1 221 (l * 2 + 1) from ((uM_ne (by omega)).trans ((uM_ne (by omega)).trans ((fr_c hf30 (by decide)).trans ((uM_ne (by omega)).trans ((uM_ne (by omega)).trans ((uM_ne (by omega)).trans ((uM_ne (by omega)).trans ((uM_ne (by omega)).trans ((uM_ne (by omega)).trans ((uM_ne (by omega)).trans rfl))))))))))]
        exact ho l l0 (by omega)
theorem en_c24 (hd : 17 ≤ d) (hE : E0 n K R) (hT : TI N h sp M) (hN : NR N) (hfw : FLW X LX n K R N h sp FI φ) (hI : FI M) (hb : gm_ir (M 1 15)) (hk : ¬ M 1 15 = 0 → M 1 15 = 1 ∧ ENDS N h φ M) (hq : ∀ M2, fr [(206, some 2), (206, some 3), (206, some 4), (206, some 5), (206, some 6), (206, some 7), (206, some 8), (200, some 6), (204, none), (205, none), (220, some 3), (221, none), (1, some 15)] M M2 → FI M2 → M2 1 15 = 1 → ENDS N h φ M2 → Q (.inl none) n K R M2) : gm_Wp X LX d bc bs 24 0 (gm_ent 24 [gm_vr 1]) [] n K R M Q := by
  obtain ⟨⟨⟨a0, b0⟩, ⟨a1, b1⟩, ⟨a10, b10⟩, ⟨a11, b11⟩, ⟨a12, b12⟩, a9, b9⟩, ⟨⟨a2, b2⟩, ⟨a5, b5⟩, ⟨a3, b3⟩, ⟨a4, b4⟩, ⟨a6, b6⟩, ⟨a14, b14⟩, ⟨a7, b7⟩, a13, b13⟩, rF, rP, rL⟩ := id hN
  refine gm_sz (gm_p_load (pc := 0) (i := .aload_n 0) (sr := 2) (j := 0) (by decide +kernel) rfl rfl rfl) ?_
  refine gm_sz (fw_gi (pc := 1) (ix := 101) (ci := 0) (j := 15) (x := M 1 15) (by decide +kernel) (e0k hE (k := 1) (c := 0) (by decide +kernel)) (by decide +kernel) (by decide +kernel) rfl) ?_
  refine fw_if (cc := .eq) (pc := 4) (off := 4) (by decide +kernel) (by decide) hb (fun h4 => ?_) (fun h4 => ?_)
  · have h4 : (M 1 15) = 0 := h4
    refine gm_sz (gm_p_load (pc := 8) (i := .aload_n 0) (sr := 2) (j := 0) (by decide +kernel) rfl rfl rfl) ?_
    refine gm_sz (fw_gr (pc := 9) (ix := 97) (ci := 0) (j := 14) (r := 220) (by decide +kernel) (e0k hE (k := 1) (c := 0) (by decide +kernel)) (by decide +kernel) (by decide +kernel) (e0r hE (k := 1) (j := 14) (r := 220) (by decide +kernel))) ?_
    refine gm_sz (gm_p_load (pc := 12) (i := .aload_n 0) (sr := 2) (j := 0) (by decide +kernel) rfl rfl rfl) ?_
    refine gm_sz (fw_gr (pc := 13) (ix := 23) (ci := 0) (j := 3) (r := 3) (by decide +kernel) (e0k hE (k := 1) (c := 0) (by decide +kernel)) (by decide +kernel) (by decide +kernel) (e0r hE (k := 1) (j := 3) (r := 3) (by decide +kernel))) ?_
    refine gm_sz (fw_gr (pc := 16) (ix := 203) (ci := 1) (j := 12) (r := 10) (by decide +kernel) (e0k hE (k := 3) (c := 1) (by decide +kernel)) (by decide +kernel) (by decide +kernel) (e0r hE (k := 3) (j := 12) (r := 10) (by decide +kernel))) ?_
    refine gm_c_virt (k := 10) (ci := 2) (mj := 9) (ix := 277) (pc := 19) (as := []) (st := [gm_vr 220]) (d' := d - 1) (bc' := 0) (bs' := 0) (by decide +kernel) (by decide +kernel) (by decide +kernel) (by decide +kernel) (e0k hE (k := 10) (c := 2) (by decide +kernel)).1 (e0k hE (k := 10) (c := 2) (by decide +kernel)).2 (by decide) (by decide +kernel) (show 0 = gm_na 9 by decide +kernel) fw_c0 (show 1 ≤ gm_ml 9 by decide +kernel) (Nat.le_of_ble_eq_true rfl) (by omega) (Nat.zero_le _) (Nat.zero_le _) ?_
    refine rw_size (s := N 4) (e0k hE (k := 10) (c := 2) (by decide +kernel)) (ti_let hT) ?_
    show gm_Wp X LX d _ _ 24 22 _ [gm_vi (N 4), gm_vr 220] n K _ _ Q
    refine gm_c_virt (k := 220) (ci := 2) (mj := 25) (ix := 390) (pc := 22) (as := [gm_vi (N 4)]) (st := []) (d' := d - 1) (bc' := 0) (bs' := 0) (by decide +kernel) (by decide +kernel) (by decide +kernel) (by decide +kernel) (e0k hE (k := 220) (c := 2) (by decide +kernel)).1 (e0k hE (k := 220) (c := 2) (by decide +kernel)).2 (by decide) (by decide +kernel) (show 1 = gm_na 25 by decide +kernel) (fw_c1 fw_si) (show 2 ≤ gm_ml 25 by decide +kernel) (Nat.le_of_ble_eq_true rfl) (by omega) (Nat.zero_le _) (Nat.zero_le _) ?_
    refine rw_reset (m := 24) (by omega) (e0k hE (k := 220) (c := 2) (by decide +kernel)) (e0a hE (k := 221) (q := (0, 48)) (by decide +kernel)) (e0r hE (k := 220) (j := 2) (r := 221) (by decide +kernel)) (by decide) (hT.1 (220, 0, 24) (by decide)) ⟨by omega, by omega⟩ (by omega) ?_
    show gm_Wp X LX d _ _ 24 25 _ [] n K _ _ Q
    refine gm_sz (gm_p_const (pc := 25) (i := .iconst 0) (v := gm_vi 0) (by decide +kernel) (by decide +kernel)) ?_
    refine gm_sz (gm_p_stor (pc := 26) (i := .istore_n 1) (sr := 0) (j := 1) (by decide +kernel) rfl (show 2 ≤ _ from Nat.le_of_ble_eq_true rfl) rfl) ?_
    exact en_l hd hE hT hN hfw hq (N 4).toNat 0 _ (by omega) (fr_t (fr_p fr_0 (Or.inr (by decide))) gm_fil_fr (by decide)) (hfw.2.1 [(220, some 3), (221, none)] _ _ (by decide) (fr_t (fr_p fr_0 (Or.inr (by decide))) gm_fil_fr (by decide)) hI) ((fr_c gm_fil_fr (by decide)).trans uM_at) (fun l l0 l1 => by omega)
  · have h4 : ¬ (M 1 15) = 0 := h4
    exact gm_r_void (pc := 7) (by decide +kernel) (by decide +kernel) (hq M fr_0 hI (hk h4).1 (hk h4).2)
theorem wt_67 (i1 : gm_ir o) (i2 : gm_ir y) (q0 : o = (-1) → Q (.inl (some (gm_vi 0))) n K R (M)) (q1 : ¬ o = (-1) → y < o → Q (.inl (some (gm_vi 0))) n K R (M)) (q2 : ¬ o = (-1) → ¬ y < o → Q (.inl (some (gm_vi 1))) n K R (M)) : gm_Wp X LX d bc bs 67 0 (gm_ent 67 [gm_vr 1, gm_vi o, gm_vi y]) [] n K R M Q := by
  refine gm_sz (gm_p_load (pc := 0) (i := .iload_n 1) (sr := 0) (j := 1) (by decide +kernel) rfl rfl rfl) ?_
  refine gm_sz (gm_p_const (pc := 1) (i := .iconst (-1)) (v := gm_vi (-1)) (by decide +kernel) (by decide +kernel)) ?_
  refine fw_ic (cc := .eq) (pc := 2) (off := 12) (by decide +kernel) (by decide) i1 ⟨by decide, by decide⟩ (fun h2 => ?_) (fun h2 => ?_)
  · have h2 : o = (-1) := h2
    refine gm_sz (gm_p_const (pc := 14) (i := .iconst 0) (v := gm_vi 0) (by decide +kernel) (by decide +kernel)) ?_
    exact gm_r_int (pc := 15) (by decide +kernel) (Or.inr ⟨(by decide +kernel), Or.inl rfl⟩) (q0 h2)
  · have h2 : ¬ o = (-1) := h2
    refine gm_sz (gm_p_load (pc := 5) (i := .iload_n 1) (sr := 0) (j := 1) (by decide +kernel) rfl rfl rfl) ?_
    refine gm_sz (gm_p_load (pc := 6) (i := .iload_n 2) (sr := 0) (j := 2) (by decide +kernel) rfl rfl rfl) ?_
    refine fw_ic (cc := .gt) (pc := 7) (off := 7) (by decide +kernel) (by decide) i1 i2 (fun h7 => ?_) (fun h7 => ?_)
    · have h7 : y < o := h7
      refine gm_sz (gm_p_const (pc := 14) (i := .iconst 0) (v := gm_vi 0) (by decide +kernel) (by decide +kernel)) ?_
      exact gm_r_int (pc := 15) (by decide +kernel) (Or.inr ⟨(by decide +kernel), Or.inl rfl⟩) (q1 h2 h7)
    · have h7 : ¬ y < o := h7
      refine gm_sz (gm_p_const (pc := 10) (i := .iconst 1) (v := gm_vi 1) (by decide +kernel) (by decide +kernel)) ?_
      refine gm_sz (gm_p_goto (pc := 11) (off := 4) (by decide +kernel) (by decide)) ?_
      exact gm_r_int (pc := 15) (by decide +kernel) (Or.inr ⟨(by decide +kernel), Or.inr rfl⟩) (q2 h2 h7)
/-- whether it waits -/
noncomputable def WTS (N : Int → Int) (l o : Int) : Prop := ¬ (N (119 + (l * 7 + 0))) = -1 ∧ (N (119 + (l * 7 + 5))) = -1 ∧ ¬ o = -1 ∧ o ≤ N 9
theorem wt_c66 (hd : 2 ≤ d) (hE : E0 n K R) (hT : TI N h sp M) (hN : NR N) (h1 : 0 ≤ l ∧ l < N 4) (h3 : M 220 3 = N 4) (ho : M 221 (l * 2 + 0) = o) (hb : -1 ≤ o ∧ o ≤ 299) (q1 : WTS N l o → Q (.inl (some (gm_vi 1))) n K R M) (q0 : ¬ WTS N l o → Q (.inl (some (gm_vi 0))) n K R M) : gm_Wp X LX d bc bs 66 0 (gm_ent 66 [gm_vr 1, gm_vi l]) [] n K R M Q := by
  obtain ⟨⟨⟨a0, b0⟩, ⟨a1, b1⟩, ⟨a10, b10⟩, ⟨a11, b11⟩, ⟨a12, b12⟩, a9, b9⟩, ⟨⟨a2, b2⟩, ⟨a5, b5⟩, ⟨a3, b3⟩, ⟨a4, b4⟩, ⟨a6, b6⟩, ⟨a14, b14⟩, ⟨a7, b7⟩, a13, b13⟩, rF, rP, rL⟩ := id hN
  obtain ⟨r0, r1, -, -, -, r5, -⟩ := rL l h1.1 h1.2
  have rk9 : (if (N (119 + (l * 7 + 0))) = -1 then (1 : Int) else 0) = 1 ∧ (N (119 + (l * 7 + 0))) = -1 ∨ (if (N (119 + (l * 7 + 0))) = -1 then (1 : Int) else 0) = 0 ∧ ¬ (N (119 + (l * 7 + 0))) = -1 := by
    by_cases hh : (N (119 + (l * 7 + 0))) = -1
    · exact Or.inl ⟨if_pos hh, hh⟩
    · exact Or.inr ⟨if_neg hh, hh⟩
  refine gm_sz (gm_p_load (pc := 0) (i := .aload_n 0) (sr := 2) (j := 0) (by decide +kernel) rfl rfl rfl) ?_
  refine gm_sz (fw_gr (pc := 1) (ix := 23) (ci := 0) (j := 3) (r := 3) (by decide +kernel) (e0k hE (k := 1) (c := 0) (by decide +kernel)) (by decide +kernel) (by decide +kernel) (e0r hE (k := 1) (j := 3) (r := 3) (by decide +kernel))) ?_
  refine gm_sz (gm_p_load (pc := 4) (i := .iload_n 1) (sr := 0) (j := 1) (by decide +kernel) rfl rfl rfl) ?_
  refine gm_c_virt (k := 3) (ci := 1) (mj := 28) (ix := 450) (pc := 5) (as := [gm_vi l]) (st := []) (d' := d - 1) (bc' := 0) (bs' := 0) (by decide +kernel) (by decide +kernel) (by decide +kernel) (by decide +kernel) (e0k hE (k := 3) (c := 1) (by decide +kernel)).1 (e0k hE (k := 3) (c := 1) (by decide +kernel)).2 (by decide) (by decide +kernel) (show 1 = gm_na 28 by decide +kernel) (fw_c1 fw_si) (show 2 ≤ gm_ml 28 by decide +kernel) (Nat.le_of_ble_eq_true rfl) (by omega) (Nat.zero_le _) (Nat.zero_le _) ?_
  refine cs_rock9 (by omega) hE hT hN ⟨by omega, by omega⟩ ?_
  show gm_Wp X LX d _ _ 66 8 _ [gm_vi (if (N (119 + (l * 7 + 0))) = -1 then (1 : Int) else 0)] n K _ _ Q
  refine fw_if (cc := .ne) (pc := 8) (off := 23) (by decide +kernel) (by decide) ⟨by omega, by omega⟩ (fun h8 => ?_) (fun h8 => ?_)
  · have h8 : ¬ (if (N (119 + (l * 7 + 0))) = -1 then (1 : Int) else 0) = 0 := h8
    refine gm_sz (gm_p_const (pc := 31) (i := .iconst 0) (v := gm_vi 0) (by decide +kernel) (by decide +kernel)) ?_
    refine gm_sz (gm_p_stor (pc := 32) (i := .istore_n 2) (sr := 0) (j := 2) (by decide +kernel) rfl (show 3 ≤ _ from Nat.le_of_ble_eq_true rfl) rfl) ?_
    refine gm_sz (gm_p_load (pc := 33) (i := .iload_n 2) (sr := 0) (j := 2) (by decide +kernel) rfl rfl rfl) ?_
    refine fw_iftd (cc := .eq) (pc := 34) (off := 30) (by decide +kernel) (by decide) ⟨by decide, by decide⟩ (by decide) ?_
    refine gm_sz (gm_p_const (pc := 64) (i := .iconst 0) (v := gm_vi 0) (by decide +kernel) (by decide +kernel)) ?_
    have a9 : ¬ WTS N l o := fun ⟨a1, a2, a3, a4⟩ => by omega
    exact gm_r_int (pc := 65) (by decide +kernel) (Or.inr ⟨(by decide +kernel), Or.inl rfl⟩) (q0 a9)
  · have h8 : (if (N (119 + (l * 7 + 0))) = -1 then (1 : Int) else 0) = 0 := Classical.not_not.mp h8
    refine gm_sz (gm_p_load (pc := 11) (i := .aload_n 0) (sr := 2) (j := 0) (by decide +kernel) rfl rfl rfl) ?_
    refine gm_sz (fw_gr (pc := 12) (ix := 23) (ci := 0) (j := 3) (r := 3) (by decide +kernel) (e0k hE (k := 1) (c := 0) (by decide +kernel)) (by decide +kernel) (by decide +kernel) (e0r hE (k := 1) (j := 3) (r := 3) (by decide +kernel))) ?_
    refine gm_sz (fw_gr (pc := 15) (ix := 203) (ci := 1) (j := 12) (r := 10) (by decide +kernel) (e0k hE (k := 3) (c := 1) (by decide +kernel)) (by decide +kernel) (by decide +kernel) (e0r hE (k := 3) (j := 12) (r := 10) (by decide +kernel))) ?_
    refine gm_sz (gm_p_load (pc := 18) (i := .iload_n 1) (sr := 0) (j := 1) (by decide +kernel) rfl rfl rfl) ?_
    refine gm_sz (gm_p_const (pc := 19) (i := .iconst 5) (v := gm_vi 5) (by decide +kernel) (by decide +kernel)) ?_
    refine gm_c_virt (k := 10) (ci := 2) (mj := 10) (ix := 186) (pc := 20) (as := [gm_vi l, gm_vi 5]) (st := []) (d' := d - 1) (bc' := 0) (bs' := 0) (by decide +kernel) (by decide +kernel) (by decide +kernel) (by decide +kernel) (e0k hE (k := 10) (c := 2) (by decide +kernel)).1 (e0k hE (k := 10) (c := 2) (by decide +kernel)).2 (by decide) (by decide +kernel) (show 2 = gm_na 10 by decide +kernel) (fw_c2 fw_si fw_si) (show 3 ≤ gm_ml 10 by decide +kernel) (Nat.le_of_ble_eq_true rfl) (by omega) (Nat.zero_le _) (Nat.zero_le _) ?_
    refine rw_get (s := N 4) (w := 7) (x := N (119 + (l * 7 + 5))) (e0k hE (k := 10) (c := 2) (by decide +kernel)) (e0a hE (k := 11) (q := (0, 168)) (by decide +kernel)) (e0r hE (k := 10) (j := 2) (r := 11) (by decide +kernel)) (by decide) (ti_let hT) (hT.1 (10, 1, 7) (by decide)) ⟨by omega, by omega⟩ ⟨by omega, by omega⟩ ⟨by omega, by omega⟩ ⟨by omega, by omega⟩ (ti_aL hT (by omega) (by omega)) ?_
    show gm_Wp X LX d _ _ 66 23 _ [gm_vi (N (119 + (l * 7 + 5)))] n K _ _ Q
    refine gm_sz (gm_p_const (pc := 23) (i := .iconst (-1)) (v := gm_vi (-1)) (by decide +kernel) (by decide +kernel)) ?_
    refine fw_ic (cc := .ne) (pc := 24) (off := 7) (by decide +kernel) (by decide) ⟨by omega, by omega⟩ ⟨by decide, by decide⟩ (fun h24 => ?_) (fun h24 => ?_)
    · have h24 : ¬ (N (119 + (l * 7 + 5))) = (-1) := h24
      refine gm_sz (gm_p_const (pc := 31) (i := .iconst 0) (v := gm_vi 0) (by decide +kernel) (by decide +kernel)) ?_
      refine gm_sz (gm_p_stor (pc := 32) (i := .istore_n 2) (sr := 0) (j := 2) (by decide +kernel) rfl (show 3 ≤ _ from Nat.le_of_ble_eq_true rfl) rfl) ?_
      refine gm_sz (gm_p_load (pc := 33) (i := .iload_n 2) (sr := 0) (j := 2) (by decide +kernel) rfl rfl rfl) ?_
      refine fw_iftd (cc := .eq) (pc := 34) (off := 30) (by decide +kernel) (by decide) ⟨by decide, by decide⟩ (by decide) ?_
      refine gm_sz (gm_p_const (pc := 64) (i := .iconst 0) (v := gm_vi 0) (by decide +kernel) (by decide +kernel)) ?_
      have a9 : ¬ WTS N l o := fun ⟨a1, a2, a3, a4⟩ => by omega
      exact gm_r_int (pc := 65) (by decide +kernel) (Or.inr ⟨(by decide +kernel), Or.inl rfl⟩) (q0 a9)
    · have h24 : (N (119 + (l * 7 + 5))) = (-1) := Classical.not_not.mp h24
      refine gm_sz (gm_p_const (pc := 27) (i := .iconst 1) (v := gm_vi 1) (by decide +kernel) (by decide +kernel)) ?_
      refine gm_sz (gm_p_goto (pc := 28) (off := 4) (by decide +kernel) (by decide)) ?_
      refine gm_sz (gm_p_stor (pc := 32) (i := .istore_n 2) (sr := 0) (j := 2) (by decide +kernel) rfl (show 3 ≤ _ from Nat.le_of_ble_eq_true rfl) rfl) ?_
      refine gm_sz (gm_p_load (pc := 33) (i := .iload_n 2) (sr := 0) (j := 2) (by decide +kernel) rfl rfl rfl) ?_
      refine fw_iffd (cc := .eq) (pc := 34) (off := 30) (by decide +kernel) (by decide) ⟨by decide, by decide⟩ (by decide) ?_
      refine gm_sz (gm_p_load (pc := 37) (i := .aload_n 0) (sr := 2) (j := 0) (by decide +kernel) rfl rfl rfl) ?_
      refine gm_sz (gm_p_load (pc := 38) (i := .aload_n 0) (sr := 2) (j := 0) (by decide +kernel) rfl rfl rfl) ?_
      refine gm_sz (fw_gr (pc := 39) (ix := 97) (ci := 0) (j := 14) (r := 220) (by decide +kernel) (e0k hE (k := 1) (c := 0) (by decide +kernel)) (by decide +kernel) (by decide +kernel) (e0r hE (k := 1) (j := 14) (r := 220) (by decide +kernel))) ?_
      refine gm_sz (gm_p_load (pc := 42) (i := .iload_n 1) (sr := 0) (j := 1) (by decide +kernel) rfl rfl rfl) ?_
      refine gm_sz (gm_p_const (pc := 43) (i := .iconst 0) (v := gm_vi 0) (by decide +kernel) (by decide +kernel)) ?_
      refine gm_c_virt (k := 220) (ci := 2) (mj := 10) (ix := 186) (pc := 44) (as := [gm_vi l, gm_vi 0]) (st := [gm_vr 1]) (d' := d - 1) (bc' := 0) (bs' := 0) (by decide +kernel) (by decide +kernel) (by decide +kernel) (by decide +kernel) (e0k hE (k := 220) (c := 2) (by decide +kernel)).1 (e0k hE (k := 220) (c := 2) (by decide +kernel)).2 (by decide) (by decide +kernel) (show 2 = gm_na 10 by decide +kernel) (fw_c2 fw_si fw_si) (show 3 ≤ gm_ml 10 by decide +kernel) (Nat.le_of_ble_eq_true rfl) (by omega) (Nat.zero_le _) (Nat.zero_le _) ?_
      refine rw_get (s := N 4) (w := 2) (x := o) (e0k hE (k := 220) (c := 2) (by decide +kernel)) (e0a hE (k := 221) (q := (0, 48)) (by decide +kernel)) (e0r hE (k := 220) (j := 2) (r := 221) (by decide +kernel)) (by decide) h3 (hT.1 (220, 1, 2) (by decide)) ⟨by omega, by omega⟩ ⟨by omega, by omega⟩ ⟨by omega, by omega⟩ ⟨by omega, by omega⟩ ho ?_
      show gm_Wp X LX d _ _ 66 47 _ [gm_vi o, gm_vr 1] n K _ _ Q
      refine gm_sz (gm_p_load (pc := 47) (i := .aload_n 0) (sr := 2) (j := 0) (by decide +kernel) rfl rfl rfl) ?_
      refine gm_sz (fw_gr (pc := 48) (ix := 23) (ci := 0) (j := 3) (r := 3) (by decide +kernel) (e0k hE (k := 1) (c := 0) (by decide +kernel)) (by decide +kernel) (by decide +kernel) (e0r hE (k := 1) (j := 3) (r := 3) (by decide +kernel))) ?_
      refine gm_sz (fw_gi (pc := 51) (ix := 269) (ci := 1) (j := 6) (x := N 9) (by decide +kernel) (e0k hE (k := 3) (c := 1) (by decide +kernel)) (by decide +kernel) (by decide +kernel) (ti_now hT)) ?_
      refine gm_c_virt (k := 1) (ci := 0) (mj := 67) (ix := 408) (pc := 54) (as := [gm_vi o, gm_vi (N 9)]) (st := []) (d' := d - 1) (bc' := 0) (bs' := 0) (by decide +kernel) (by decide +kernel) (by decide +kernel) (by decide +kernel) (e0k hE (k := 1) (c := 0) (by decide +kernel)).1 (e0k hE (k := 1) (c := 0) (by decide +kernel)).2 (by decide) (by decide +kernel) (show 2 = gm_na 67 by decide +kernel) (fw_c2 fw_si fw_si) (show 3 ≤ gm_ml 67 by decide +kernel) (Nat.le_of_ble_eq_true rfl) (by omega) (Nat.zero_le _) (Nat.zero_le _) ?_
      refine wt_67 ⟨by omega, by omega⟩ ⟨by omega, by omega⟩ (fun u54 => ?_) (fun u54 v54 => ?_) (fun u54 v54 => ?_)
      · show gm_Wp X LX d _ _ 66 57 _ [gm_vi 0] n K _ _ Q
        refine fw_iftd (cc := .eq) (pc := 57) (off := 7) (by decide +kernel) (by decide) ⟨by decide, by decide⟩ (by decide) ?_
        refine gm_sz (gm_p_const (pc := 64) (i := .iconst 0) (v := gm_vi 0) (by decide +kernel) (by decide +kernel)) ?_
        have a9 : ¬ WTS N l o := fun ⟨a1, a2, a3, a4⟩ => by omega
        exact gm_r_int (pc := 65) (by decide +kernel) (Or.inr ⟨(by decide +kernel), Or.inl rfl⟩) (q0 a9)
      · show gm_Wp X LX d _ _ 66 57 _ [gm_vi 0] n K _ _ Q
        refine fw_iftd (cc := .eq) (pc := 57) (off := 7) (by decide +kernel) (by decide) ⟨by decide, by decide⟩ (by decide) ?_
        refine gm_sz (gm_p_const (pc := 64) (i := .iconst 0) (v := gm_vi 0) (by decide +kernel) (by decide +kernel)) ?_
        have a9 : ¬ WTS N l o := fun ⟨a1, a2, a3, a4⟩ => by omega
        exact gm_r_int (pc := 65) (by decide +kernel) (Or.inr ⟨(by decide +kernel), Or.inl rfl⟩) (q0 a9)
      · show gm_Wp X LX d _ _ 66 57 _ [gm_vi 1] n K _ _ Q
        refine fw_iffd (cc := .eq) (pc := 57) (off := 7) (by decide +kernel) (by decide) ⟨by decide, by decide⟩ (by decide) ?_
        refine gm_sz (gm_p_const (pc := 60) (i := .iconst 1) (v := gm_vi 1) (by decide +kernel) (by decide +kernel)) ?_
        refine gm_sz (gm_p_goto (pc := 61) (off := 4) (by decide +kernel) (by decide)) ?_
        have a9 : WTS N l o := ⟨by omega, by omega, by omega, by omega⟩
        exact gm_r_int (pc := 65) (by decide +kernel) (Or.inr ⟨(by decide +kernel), Or.inr rfl⟩) (q1 a9)
end EN6
end
/-! 7a15.c7yr -/
section
/-! THE CLASS: by whom a LETTER is opened, a YEAR more (laid by wip/core/c7.py). -/
/-- the first of u from i on -/
noncomputable def fo (C : Int → Prop) : Nat → Int → Int
  | 0, _ => -1
  | u + 1, i => tif (C i) i (fo C u (i + 1))
theorem fo_b {C : Int → Prop} : ∀ (u : Nat) (i : Int), 0 ≤ i → -1 ≤ fo C u i ∧ fo C u i < i + (u : Int) ∧ (fo C u i = -1 ∨ i ≤ fo C u i) := by
  intro u
  induction u with
  | zero => exact fun i h => ⟨Int.le_refl _, by show (-1 : Int) < _; omega, Or.inl rfl⟩
  | succ u ih =>
    intro i h
    unfold fo
    by_cases hc : C i
    · rw [tif_t hc]
      exact ⟨by omega, by omega, Or.inr (Int.le_refl _)⟩
    · rw [tif_f hc]
      obtain ⟨a, b, c⟩ := ih (i + 1) (by omega)
      exact ⟨a, by omega, by omega⟩
/-- whether one who watches that lane may -/
noncomputable def wop (N : Int → Int) (ψ : Int → Int → Int → Int → Prop) (l dp p : Int) : Prop := (N (95 + (p * 3 + 2))) = (N (119 + (l * 7 + 2))) ∧ ψ p ((N (119 + (l * 7 + 2)))) (N 9 - (N (119 + (l * 7 + 3)))) dp
/-- by whom it is opened (-1: by nobody) -/
noncomputable def opf (N : Int → Int) (ψ : Int → Int → Int → Int → Prop) (l dp : Int) : Int := tif ((N (95 + (((N (119 + (l * 7 + 1)))) * 3 + 2))) = (N (119 + (l * 7 + 2)))) ((N (119 + (l * 7 + 1)))) (fo (wop N ψ l dp) (N 3).toNat 0)
section YR7
variable {X : Int → Int} {LX d bc bs n : Nat} {K : gm_K} {R : gm_R} {M : gm_M} {Q : gm_Q} {l o y p dp : Int} {N h : Int → Int} {sp : Int → Int → Int} {FI : gm_M → Prop} {φ : Int → Int → Int → Int} {ψ : Int → Int → Int → Int → Prop}
theorem op_l (hd : 4 ≤ d) (hE : E0 n K R) (hT : TI N h sp M) (hN : NR N) (hst : FSt FI) (hmo : MOW X LX n K R N h sp FI ψ) (hI : FI M) (h1 : 0 ≤ l ∧ l < N 4) (hr : 0 ≤ (N (119 + (l * 7 + 0)))) (h3 : M 220 3 = N 4) (hdp : M 221 (l * 2 + 1) = dp) (hne : ¬ (N (95 + (((N (119 + (l * 7 + 1)))) * 3 + 2))) = (N (119 + (l * 7 + 2)))) (hq : ∀ M2, fr [(204, none)] M M2 → Q (.inl (some (gm_vi (opf N ψ l dp)))) n K R M2) : ∀ (u i : Nat) (M1 : gm_M), (i : Int) + (u : Int) = N 3 → fr [(204, none)] M M1 → fo (wop N ψ l dp) (N 3).toNat 0 = fo (wop N ψ l dp) u (i : Int) → gm_Wp X LX d bc bs 163 69 [some (gm_vr 1), some (gm_vi l), some (gm_vi (N (119 + (l * 7 + 2)))), some (gm_vi (N (119 + (l * 7 + 1)))), some (gm_vi (N 9 - N (119 + (l * 7 + 3)))), some (gm_vi (i : Int))] [] n K R M1 Q := by
  obtain ⟨⟨⟨a0, b0⟩, ⟨a1, b1⟩, ⟨a10, b10⟩, ⟨a11, b11⟩, ⟨a12, b12⟩, a9, b9⟩, ⟨⟨a2, b2⟩, ⟨a5, b5⟩, ⟨a3, b3⟩, ⟨a4, b4⟩, ⟨a6, b6⟩, ⟨a14, b14⟩, ⟨a7, b7⟩, a13, b13⟩, rF, rP, rL⟩ := id hN
  obtain ⟨r0, r1, r2, r3, -, -, -, r7⟩ := rL l h1.1 h1.2
  have r8 := r7 hr
  have to9 : 0 ≤ N (119 + (l * 7 + 1)) ∧ N (119 + (l * 7 + 1)) < N 3 := ⟨r8, r1.2⟩
  have ln9 : 0 ≤ N (119 + (l * 7 + 2)) ∧ N (119 + (l * 7 + 2)) < N 0 := r2
  have yr9 : 0 ≤ N (119 + (l * 7 + 3)) ∧ N (119 + (l * 7 + 3)) ≤ N 9 := r3
  have e9 : opf N ψ l dp = fo (wop N ψ l dp) (N 3).toNat 0 := tif_f hne
  rw [e9] at hq
  intro u
  induction u with
  | zero =>
    intro i M1 hi hf he
    have he : fo (wop N ψ l dp) (N 3).toNat 0 = -1 := he
    rw [he] at hq
    refine gm_sz (gm_p_load (pc := 69) (i := .iload 5) (sr := 0) (j := 5) (by decide +kernel) rfl rfl rfl) ?_
    refine gm_sz (gm_p_load (pc := 71) (i := .aload_n 0) (sr := 2) (j := 0) (by decide +kernel) rfl rfl rfl) ?_
    refine gm_sz (fw_gr (pc := 72) (ix := 23) (ci := 0) (j := 3) (r := 3) (by decide +kernel) (e0k hE (k := 1) (c := 0) (by decide +kernel)) (by decide +kernel) (by decide +kernel) (e0r hE (k := 1) (j := 3) (r := 3) (by decide +kernel))) ?_
    refine gm_sz (fw_gr (pc := 75) (ix := 183) (ci := 1) (j := 11) (r := 8) (by decide +kernel) (e0k hE (k := 3) (c := 1) (by decide +kernel)) (by decide +kernel) (by decide +kernel) (e0r hE (k := 3) (j := 11) (r := 8) (by decide +kernel))) ?_
    refine gm_c_virt (k := 8) (ci := 2) (mj := 9) (ix := 277) (pc := 78) (as := []) (st := [gm_vi (i : Int)]) (d' := d - 1) (bc' := 0) (bs' := 0) (by decide +kernel) (by decide +kernel) (by decide +kernel) (by decide +kernel) (e0k hE (k := 8) (c := 2) (by decide +kernel)).1 (e0k hE (k := 8) (c := 2) (by decide +kernel)).2 (by decide) (by decide +kernel) (show 0 = gm_na 9 by decide +kernel) fw_c0 (show 1 ≤ gm_ml 9 by decide +kernel) (Nat.le_of_ble_eq_true rfl) (by omega) (Nat.zero_le _) (Nat.zero_le _) ?_
    refine rw_size (s := N 3) (e0k hE (k := 8) (c := 2) (by decide +kernel)) ((fr_c hf (by decide)).trans (ti_peo hT)) ?_
    show gm_Wp X LX d _ _ 163 81 _ [gm_vi (N 3), gm_vi (i : Int)] n K _ _ Q
    refine fw_ict (cc := .ge) (pc := 81) (off := 53) (by decide +kernel) (by decide) ⟨by omega, by omega⟩ ⟨by omega, by omega⟩ (show (N 3) ≤ (i : Int) by omega) ?_
    refine gm_sz (gm_p_const (pc := 134) (i := .iconst (-1)) (v := gm_vi (-1)) (by decide +kernel) (by decide +kernel)) ?_
    exact gm_r_int (pc := 135) (by decide +kernel) (Or.inl (by decide +kernel)) (hq M1 hf)
  | succ u ih =>
    intro i M1 hi hf he
    obtain ⟨-, -, p2⟩ := rP (i : Int) (by omega) (by omega)
    have p9 : -1 ≤ N (95 + ((i : Int) * 3 + 2)) ∧ N (95 + ((i : Int) * 3 + 2)) < N 0 := p2
    have he : fo (wop N ψ l dp) (N 3).toNat 0 = tif ((wop N ψ l dp) (i : Int)) (i : Int) (fo (wop N ψ l dp) u ((i : Int) + 1)) := he
    refine gm_sz (gm_p_load (pc := 69) (i := .iload 5) (sr := 0) (j := 5) (by decide +kernel) rfl rfl rfl) ?_
    refine gm_sz (gm_p_load (pc := 71) (i := .aload_n 0) (sr := 2) (j := 0) (by decide +kernel) rfl rfl rfl) ?_
    refine gm_sz (fw_gr (pc := 72) (ix := 23) (ci := 0) (j := 3) (r := 3) (by decide +kernel) (e0k hE (k := 1) (c := 0) (by decide +kernel)) (by decide +kernel) (by decide +kernel) (e0r hE (k := 1) (j := 3) (r := 3) (by decide +kernel))) ?_
    refine gm_sz (fw_gr (pc := 75) (ix := 183) (ci := 1) (j := 11) (r := 8) (by decide +kernel) (e0k hE (k := 3) (c := 1) (by decide +kernel)) (by decide +kernel) (by decide +kernel) (e0r hE (k := 3) (j := 11) (r := 8) (by decide +kernel))) ?_
    refine gm_c_virt (k := 8) (ci := 2) (mj := 9) (ix := 277) (pc := 78) (as := []) (st := [gm_vi (i : Int)]) (d' := d - 1) (bc' := 0) (bs' := 0) (by decide +kernel) (by decide +kernel) (by decide +kernel) (by decide +kernel) (e0k hE (k := 8) (c := 2) (by decide +kernel)).1 (e0k hE (k := 8) (c := 2) (by decide +kernel)).2 (by decide) (by decide +kernel) (show 0 = gm_na 9 by decide +kernel) fw_c0 (show 1 ≤ gm_ml 9 by decide +kernel) (Nat.le_of_ble_eq_true rfl) (by omega) (Nat.zero_le _) (Nat.zero_le _) ?_
    refine rw_size (s := N 3) (e0k hE (k := 8) (c := 2) (by decide +kernel)) ((fr_c hf (by decide)).trans (ti_peo hT)) ?_
    show gm_Wp X LX d _ _ 163 81 _ [gm_vi (N 3), gm_vi (i : Int)] n K _ _ Q
    refine fw_icf (cc := .ge) (pc := 81) (off := 53) (by decide +kernel) (by decide) ⟨by omega, by omega⟩ ⟨by omega, by omega⟩ (show ¬ (N 3) ≤ (i : Int) by omega) ?_
    refine gm_sz (gm_p_load (pc := 84) (i := .aload_n 0) (sr := 2) (j := 0) (by decide +kernel) rfl rfl rfl) ?_
    refine gm_sz (fw_gr (pc := 85) (ix := 23) (ci := 0) (j := 3) (r := 3) (by decide +kernel) (e0k hE (k := 1) (c := 0) (by decide +kernel)) (by decide +kernel) (by decide +kernel) (e0r hE (k := 1) (j := 3) (r := 3) (by decide +kernel))) ?_
    refine gm_sz (fw_gr (pc := 88) (ix := 183) (ci := 1) (j := 11) (r := 8) (by decide +kernel) (e0k hE (k := 3) (c := 1) (by decide +kernel)) (by decide +kernel) (by decide +kernel) (e0r hE (k := 3) (j := 11) (r := 8) (by decide +kernel))) ?_
    refine gm_sz (gm_p_load (pc := 91) (i := .iload 5) (sr := 0) (j := 5) (by decide +kernel) rfl rfl rfl) ?_
    refine gm_sz (gm_p_const (pc := 93) (i := .iconst 2) (v := gm_vi 2) (by decide +kernel) (by decide +kernel)) ?_
    refine gm_c_virt (k := 8) (ci := 2) (mj := 10) (ix := 186) (pc := 94) (as := [gm_vi (i : Int), gm_vi 2]) (st := []) (d' := d - 1) (bc' := 0) (bs' := 0) (by decide +kernel) (by decide +kernel) (by decide +kernel) (by decide +kernel) (e0k hE (k := 8) (c := 2) (by decide +kernel)).1 (e0k hE (k := 8) (c := 2) (by decide +kernel)).2 (by decide) (by decide +kernel) (show 2 = gm_na 10 by decide +kernel) (fw_c2 fw_si fw_si) (show 3 ≤ gm_ml 10 by decide +kernel) (Nat.le_of_ble_eq_true rfl) (by omega) (Nat.zero_le _) (Nat.zero_le _) ?_
    refine rw_get (s := N 3) (w := 3) (x := N (95 + ((i : Int) * 3 + 2))) (e0k hE (k := 8) (c := 2) (by decide +kernel)) (e0a hE (k := 9) (q := (0, 24)) (by decide +kernel)) (e0r hE (k := 8) (j := 2) (r := 9) (by decide +kernel)) (by decide) ((fr_c hf (by decide)).trans (ti_peo hT)) ((fr_c hf (by decide)).trans (hT.1 (8, 1, 3) (by decide))) ⟨by omega, by omega⟩ ⟨by omega, by omega⟩ ⟨by omega, by omega⟩ ⟨by omega, by omega⟩ ((fr_c hf (by decide)).trans (ti_aP hT (by omega) (by omega))) ?_
    show gm_Wp X LX d _ _ 163 97 _ [gm_vi (N (95 + ((i : Int) * 3 + 2)))] n K _ _ Q
    refine gm_sz (gm_p_load (pc := 97) (i := .iload_n 2) (sr := 0) (j := 2) (by decide +kernel) rfl rfl rfl) ?_
    refine fw_ic (cc := .ne) (pc := 98) (off := 30) (by decide +kernel) (by decide) ⟨by omega, by omega⟩ ⟨by omega, by omega⟩ (fun h98 => ?_) (fun h98 => ?_)
    · have h98 : ¬ (N (95 + ((i : Int) * 3 + 2))) = (N (119 + (l * 7 + 2))) := h98
      refine gm_sz (gm_p_iinc (pc := 128) (j := 5) (z := 1) (by decide +kernel) rfl) ?_
      refine gm_sz (gm_p_goto (pc := 131) (off := (-62)) (by decide +kernel) (by decide)) ?_
      rw [tif_f (show ¬ (wop N ψ l dp) (i : Int) from (fun hh => h98 hh.1))] at he
      exact ih (i + 1) _ (by omega) (fr_t fr_0 hf (by decide)) he
    · have h98 : (N (95 + ((i : Int) * 3 + 2))) = (N (119 + (l * 7 + 2))) := Classical.not_not.mp h98
      refine gm_sz (gm_p_load (pc := 101) (i := .aload_n 0) (sr := 2) (j := 0) (by decide +kernel) rfl rfl rfl) ?_
      refine gm_sz (fw_gr (pc := 102) (ix := 49) (ci := 0) (j := 8) (r := 200) (by decide +kernel) (e0k hE (k := 1) (c := 0) (by decide +kernel)) (by decide +kernel) (by decide +kernel) (e0r hE (k := 1) (j := 8) (r := 200) (by decide +kernel))) ?_
      refine gm_sz (gm_p_load (pc := 105) (i := .iload 5) (sr := 0) (j := 5) (by decide +kernel) rfl rfl rfl) ?_
      refine gm_sz (gm_p_load (pc := 107) (i := .iload_n 2) (sr := 0) (j := 2) (by decide +kernel) rfl rfl rfl) ?_
      refine gm_sz (gm_p_load (pc := 108) (i := .iload 4) (sr := 0) (j := 4) (by decide +kernel) rfl rfl rfl) ?_
      refine gm_sz (gm_p_load (pc := 110) (i := .aload_n 0) (sr := 2) (j := 0) (by decide +kernel) rfl rfl rfl) ?_
      refine gm_sz (fw_gr (pc := 111) (ix := 97) (ci := 0) (j := 14) (r := 220) (by decide +kernel) (e0k hE (k := 1) (c := 0) (by decide +kernel)) (by decide +kernel) (by decide +kernel) (e0r hE (k := 1) (j := 14) (r := 220) (by decide +kernel))) ?_
      refine gm_sz (gm_p_load (pc := 114) (i := .iload_n 1) (sr := 0) (j := 1) (by decide +kernel) rfl rfl rfl) ?_
      refine gm_sz (gm_p_const (pc := 115) (i := .iconst 1) (v := gm_vi 1) (by decide +kernel) (by decide +kernel)) ?_
      refine gm_c_virt (k := 220) (ci := 2) (mj := 10) (ix := 186) (pc := 116) (as := [gm_vi l, gm_vi 1]) (st := [gm_vi (N 9 - N (119 + (l * 7 + 3))), gm_vi (N (119 + (l * 7 + 2))), gm_vi (i : Int), gm_vr 200]) (d' := d - 1) (bc' := 0) (bs' := 0) (by decide +kernel) (by decide +kernel) (by decide +kernel) (by decide +kernel) (e0k hE (k := 220) (c := 2) (by decide +kernel)).1 (e0k hE (k := 220) (c := 2) (by decide +kernel)).2 (by decide) (by decide +kernel) (show 2 = gm_na 10 by decide +kernel) (fw_c2 fw_si fw_si) (show 3 ≤ gm_ml 10 by decide +kernel) (Nat.le_of_ble_eq_true rfl) (by omega) (Nat.zero_le _) (Nat.zero_le _) ?_
      refine rw_get (s := N 4) (w := 2) (x := dp) (e0k hE (k := 220) (c := 2) (by decide +kernel)) (e0a hE (k := 221) (q := (0, 48)) (by decide +kernel)) (e0r hE (k := 220) (j := 2) (r := 221) (by decide +kernel)) (by decide) ((fr_c hf (by decide)).trans h3) ((fr_c hf (by decide)).trans (hT.1 (220, 1, 2) (by decide))) ⟨by omega, by omega⟩ ⟨by omega, by omega⟩ ⟨by omega, by omega⟩ ⟨by omega, by omega⟩ ((fr_c hf (by decide)).trans hdp) ?_
      show gm_Wp X LX d _ _ 163 119 _ [gm_vi dp, gm_vi (N 9 - N (119 + (l * 7 + 3))), gm_vi (N (119 + (l * 7 + 2))), gm_vi (i : Int), gm_vr 200] n K _ _ Q
      refine gm_c_virt (k := 200) (ci := 4) (mj := 164) (ix := 283) (pc := 119) (as := [gm_vi (i : Int), gm_vi (N (119 + (l * 7 + 2))), gm_vi (N 9 - N (119 + (l * 7 + 3))), gm_vi dp]) (st := []) (d' := d - 1) (bc' := 0) (bs' := 0) (by decide +kernel) (by decide +kernel) (by decide +kernel) (by decide +kernel) (e0k hE (k := 200) (c := 4) (by decide +kernel)).1 (e0k hE (k := 200) (c := 4) (by decide +kernel)).2 (by decide) (by decide +kernel) (show 4 = gm_na 164 by decide +kernel) (fw_c4 fw_si fw_si fw_si fw_si) (show 5 ≤ gm_ml 164 by decide +kernel) (Nat.le_of_ble_eq_true rfl) (by omega) (Nat.zero_le _) (Nat.zero_le _) ?_
      refine hmo _ _ _ _ _ (i : Int) (N (119 + (l * 7 + 2))) (N 9 - N (119 + (l * 7 + 3))) dp (by omega) ⟨by omega, by omega⟩ (ti_fr (W := [(204, none)]) hT (fr_t fr_0 hf (by decide)) (by decide) (by decide +kernel)) (hst [(204, none)] _ _ (by decide) (fr_t fr_0 hf (by decide)) hI) (fun v119 M119 hf119 => ?_) (fun v119 M119 hf119 => ?_)
      · show gm_Wp X LX d _ _ 163 122 _ [gm_vi 1] n K _ _ Q
        refine fw_iffd (cc := .eq) (pc := 122) (off := 6) (by decide +kernel) (by decide) ⟨by decide, by decide⟩ (by decide) ?_
        refine gm_sz (gm_p_load (pc := 125) (i := .iload 5) (sr := 0) (j := 5) (by decide +kernel) rfl rfl rfl) ?_
        rw [tif_t (show (wop N ψ l dp) (i : Int) from ⟨h98, v119⟩)] at he
        rw [he] at hq
        exact gm_r_int (pc := 127) (by decide +kernel) (Or.inl (by decide +kernel)) (hq _ (fr_t (fr_t fr_0 hf (by decide)) hf119 (by decide)))
      · show gm_Wp X LX d _ _ 163 122 _ [gm_vi 0] n K _ _ Q
        refine fw_iftd (cc := .eq) (pc := 122) (off := 6) (by decide +kernel) (by decide) ⟨by decide, by decide⟩ (by decide) ?_
        refine gm_sz (gm_p_iinc (pc := 128) (j := 5) (z := 1) (by decide +kernel) rfl) ?_
        refine gm_sz (gm_p_goto (pc := 131) (off := (-62)) (by decide +kernel) (by decide)) ?_
        rw [tif_f (show ¬ (wop N ψ l dp) (i : Int) from (fun hh => v119 hh.2))] at he
        exact ih (i + 1) _ (by omega) (fr_t (fr_t fr_0 hf (by decide)) hf119 (by decide)) he
theorem op_c163 (hd : 4 ≤ d) (hE : E0 n K R) (hT : TI N h sp M) (hN : NR N) (hst : FSt FI) (hmo : MOW X LX n K R N h sp FI ψ) (hI : FI M) (h1 : 0 ≤ l ∧ l < N 4) (hr : 0 ≤ (N (119 + (l * 7 + 0)))) (h3 : M 220 3 = N 4) (hdp : M 221 (l * 2 + 1) = dp) (hq : ∀ M2, fr [(204, none)] M M2 → Q (.inl (some (gm_vi (opf N ψ l dp)))) n K R M2) : gm_Wp X LX d bc bs 163 0 (gm_ent 163 [gm_vr 1, gm_vi l]) [] n K R M Q := by
  obtain ⟨⟨⟨a0, b0⟩, ⟨a1, b1⟩, ⟨a10, b10⟩, ⟨a11, b11⟩, ⟨a12, b12⟩, a9, b9⟩, ⟨⟨a2, b2⟩, ⟨a5, b5⟩, ⟨a3, b3⟩, ⟨a4, b4⟩, ⟨a6, b6⟩, ⟨a14, b14⟩, ⟨a7, b7⟩, a13, b13⟩, rF, rP, rL⟩ := id hN
  obtain ⟨r0, r1, r2, r3, -, -, -, r7⟩ := rL l h1.1 h1.2
  have r8 := r7 hr
  have to9 : 0 ≤ N (119 + (l * 7 + 1)) ∧ N (119 + (l * 7 + 1)) < N 3 := ⟨r8, r1.2⟩
  have ln9 : 0 ≤ N (119 + (l * 7 + 2)) ∧ N (119 + (l * 7 + 2)) < N 0 := r2
  have yr9 : 0 ≤ N (119 + (l * 7 + 3)) ∧ N (119 + (l * 7 + 3)) ≤ N 9 := r3
  obtain ⟨-, -, p2⟩ := rP _ to9.1 to9.2
  have p9 : -1 ≤ N (95 + (N (119 + (l * 7 + 1)) * 3 + 2)) ∧ N (95 + (N (119 + (l * 7 + 1)) * 3 + 2)) < N 0 := p2
  refine gm_sz (gm_p_load (pc := 0) (i := .aload_n 0) (sr := 2) (j := 0) (by decide +kernel) rfl rfl rfl) ?_
  refine gm_sz (fw_gr (pc := 1) (ix := 23) (ci := 0) (j := 3) (r := 3) (by decide +kernel) (e0k hE (k := 1) (c := 0) (by decide +kernel)) (by decide +kernel) (by decide +kernel) (e0r hE (k := 1) (j := 3) (r := 3) (by decide +kernel))) ?_
  refine gm_sz (fw_gr (pc := 4) (ix := 203) (ci := 1) (j := 12) (r := 10) (by decide +kernel) (e0k hE (k := 3) (c := 1) (by decide +kernel)) (by decide +kernel) (by decide +kernel) (e0r hE (k := 3) (j := 12) (r := 10) (by decide +kernel))) ?_
  refine gm_sz (gm_p_load (pc := 7) (i := .iload_n 1) (sr := 0) (j := 1) (by decide +kernel) rfl rfl rfl) ?_
  refine gm_sz (gm_p_const (pc := 8) (i := .iconst 2) (v := gm_vi 2) (by decide +kernel) (by decide +kernel)) ?_
  refine gm_c_virt (k := 10) (ci := 2) (mj := 10) (ix := 186) (pc := 9) (as := [gm_vi l, gm_vi 2]) (st := []) (d' := d - 1) (bc' := 0) (bs' := 0) (by decide +kernel) (by decide +kernel) (by decide +kernel) (by decide +kernel) (e0k hE (k := 10) (c := 2) (by decide +kernel)).1 (e0k hE (k := 10) (c := 2) (by decide +kernel)).2 (by decide) (by decide +kernel) (show 2 = gm_na 10 by decide +kernel) (fw_c2 fw_si fw_si) (show 3 ≤ gm_ml 10 by decide +kernel) (Nat.le_of_ble_eq_true rfl) (by omega) (Nat.zero_le _) (Nat.zero_le _) ?_
  refine rw_get (s := N 4) (w := 7) (x := N (119 + (l * 7 + 2))) (e0k hE (k := 10) (c := 2) (by decide +kernel)) (e0a hE (k := 11) (q := (0, 168)) (by decide +kernel)) (e0r hE (k := 10) (j := 2) (r := 11) (by decide +kernel)) (by decide) (ti_let hT) (hT.1 (10, 1, 7) (by decide)) ⟨by omega, by omega⟩ ⟨by omega, by omega⟩ ⟨by omega, by omega⟩ ⟨by omega, by omega⟩ (ti_aL hT (by omega) (by omega)) ?_
  show gm_Wp X LX d _ _ 163 12 _ [gm_vi (N (119 + (l * 7 + 2)))] n K _ _ Q
  refine gm_sz (gm_p_stor (pc := 12) (i := .istore_n 2) (sr := 0) (j := 2) (by decide +kernel) rfl (show 3 ≤ _ from Nat.le_of_ble_eq_true rfl) rfl) ?_
  refine gm_sz (gm_p_load (pc := 13) (i := .aload_n 0) (sr := 2) (j := 0) (by decide +kernel) rfl rfl rfl) ?_
  refine gm_sz (fw_gr (pc := 14) (ix := 23) (ci := 0) (j := 3) (r := 3) (by decide +kernel) (e0k hE (k := 1) (c := 0) (by decide +kernel)) (by decide +kernel) (by decide +kernel) (e0r hE (k := 1) (j := 3) (r := 3) (by decide +kernel))) ?_
  refine gm_sz (fw_gr (pc := 17) (ix := 203) (ci := 1) (j := 12) (r := 10) (by decide +kernel) (e0k hE (k := 3) (c := 1) (by decide +kernel)) (by decide +kernel) (by decide +kernel) (e0r hE (k := 3) (j := 12) (r := 10) (by decide +kernel))) ?_
  refine gm_sz (gm_p_load (pc := 20) (i := .iload_n 1) (sr := 0) (j := 1) (by decide +kernel) rfl rfl rfl) ?_
  refine gm_sz (gm_p_const (pc := 21) (i := .iconst 1) (v := gm_vi 1) (by decide +kernel) (by decide +kernel)) ?_
  refine gm_c_virt (k := 10) (ci := 2) (mj := 10) (ix := 186) (pc := 22) (as := [gm_vi l, gm_vi 1]) (st := []) (d' := d - 1) (bc' := 0) (bs' := 0) (by decide +kernel) (by decide +kernel) (by decide +kernel) (by decide +kernel) (e0k hE (k := 10) (c := 2) (by decide +kernel)).1 (e0k hE (k := 10) (c := 2) (by decide +kernel)).2 (by decide) (by decide +kernel) (show 2 = gm_na 10 by decide +kernel) (fw_c2 fw_si fw_si) (show 3 ≤ gm_ml 10 by decide +kernel) (Nat.le_of_ble_eq_true rfl) (by omega) (Nat.zero_le _) (Nat.zero_le _) ?_
  refine rw_get (s := N 4) (w := 7) (x := N (119 + (l * 7 + 1))) (e0k hE (k := 10) (c := 2) (by decide +kernel)) (e0a hE (k := 11) (q := (0, 168)) (by decide +kernel)) (e0r hE (k := 10) (j := 2) (r := 11) (by decide +kernel)) (by decide) (ti_let hT) (hT.1 (10, 1, 7) (by decide)) ⟨by omega, by omega⟩ ⟨by omega, by omega⟩ ⟨by omega, by omega⟩ ⟨by omega, by omega⟩ (ti_aL hT (by omega) (by omega)) ?_
  show gm_Wp X LX d _ _ 163 25 _ [gm_vi (N (119 + (l * 7 + 1)))] n K _ _ Q
  refine gm_sz (gm_p_stor (pc := 25) (i := .istore_n 3) (sr := 0) (j := 3) (by decide +kernel) rfl (show 4 ≤ _ from Nat.le_of_ble_eq_true rfl) rfl) ?_
  refine gm_sz (gm_p_load (pc := 26) (i := .aload_n 0) (sr := 2) (j := 0) (by decide +kernel) rfl rfl rfl) ?_
  refine gm_sz (fw_gr (pc := 27) (ix := 23) (ci := 0) (j := 3) (r := 3) (by decide +kernel) (e0k hE (k := 1) (c := 0) (by decide +kernel)) (by decide +kernel) (by decide +kernel) (e0r hE (k := 1) (j := 3) (r := 3) (by decide +kernel))) ?_
  refine gm_sz (fw_gr (pc := 30) (ix := 183) (ci := 1) (j := 11) (r := 8) (by decide +kernel) (e0k hE (k := 3) (c := 1) (by decide +kernel)) (by decide +kernel) (by decide +kernel) (e0r hE (k := 3) (j := 11) (r := 8) (by decide +kernel))) ?_
  refine gm_sz (gm_p_load (pc := 33) (i := .iload_n 3) (sr := 0) (j := 3) (by decide +kernel) rfl rfl rfl) ?_
  refine gm_sz (gm_p_const (pc := 34) (i := .iconst 2) (v := gm_vi 2) (by decide +kernel) (by decide +kernel)) ?_
  refine gm_c_virt (k := 8) (ci := 2) (mj := 10) (ix := 186) (pc := 35) (as := [gm_vi (N (119 + (l * 7 + 1))), gm_vi 2]) (st := []) (d' := d - 1) (bc' := 0) (bs' := 0) (by decide +kernel) (by decide +kernel) (by decide +kernel) (by decide +kernel) (e0k hE (k := 8) (c := 2) (by decide +kernel)).1 (e0k hE (k := 8) (c := 2) (by decide +kernel)).2 (by decide) (by decide +kernel) (show 2 = gm_na 10 by decide +kernel) (fw_c2 fw_si fw_si) (show 3 ≤ gm_ml 10 by decide +kernel) (Nat.le_of_ble_eq_true rfl) (by omega) (Nat.zero_le _) (Nat.zero_le _) ?_
  refine rw_get (s := N 3) (w := 3) (x := N (95 + ((N (119 + (l * 7 + 1))) * 3 + 2))) (e0k hE (k := 8) (c := 2) (by decide +kernel)) (e0a hE (k := 9) (q := (0, 24)) (by decide +kernel)) (e0r hE (k := 8) (j := 2) (r := 9) (by decide +kernel)) (by decide) (ti_peo hT) (hT.1 (8, 1, 3) (by decide)) ⟨by omega, by omega⟩ ⟨by omega, by omega⟩ ⟨by omega, by omega⟩ ⟨by omega, by omega⟩ (ti_aP hT (by omega) (by omega)) ?_
  show gm_Wp X LX d _ _ 163 38 _ [gm_vi (N (95 + ((N (119 + (l * 7 + 1))) * 3 + 2)))] n K _ _ Q
  refine gm_sz (gm_p_load (pc := 38) (i := .iload_n 2) (sr := 0) (j := 2) (by decide +kernel) rfl rfl rfl) ?_
  refine fw_ic (cc := .ne) (pc := 39) (off := 5) (by decide +kernel) (by decide) ⟨by omega, by omega⟩ ⟨by omega, by omega⟩ (fun h39 => ?_) (fun h39 => ?_)
  · have h39 : ¬ (N (95 + ((N (119 + (l * 7 + 1))) * 3 + 2))) = (N (119 + (l * 7 + 2))) := h39
    refine gm_sz (gm_p_load (pc := 44) (i := .aload_n 0) (sr := 2) (j := 0) (by decide +kernel) rfl rfl rfl) ?_
    refine gm_sz (fw_gr (pc := 45) (ix := 23) (ci := 0) (j := 3) (r := 3) (by decide +kernel) (e0k hE (k := 1) (c := 0) (by decide +kernel)) (by decide +kernel) (by decide +kernel) (e0r hE (k := 1) (j := 3) (r := 3) (by decide +kernel))) ?_
    refine gm_sz (fw_gi (pc := 48) (ix := 269) (ci := 1) (j := 6) (x := N 9) (by decide +kernel) (e0k hE (k := 3) (c := 1) (by decide +kernel)) (by decide +kernel) (by decide +kernel) (ti_now hT)) ?_
    refine gm_sz (gm_p_load (pc := 51) (i := .aload_n 0) (sr := 2) (j := 0) (by decide +kernel) rfl rfl rfl) ?_
    refine gm_sz (fw_gr (pc := 52) (ix := 23) (ci := 0) (j := 3) (r := 3) (by decide +kernel) (e0k hE (k := 1) (c := 0) (by decide +kernel)) (by decide +kernel) (by decide +kernel) (e0r hE (k := 1) (j := 3) (r := 3) (by decide +kernel))) ?_
    refine gm_sz (fw_gr (pc := 55) (ix := 203) (ci := 1) (j := 12) (r := 10) (by decide +kernel) (e0k hE (k := 3) (c := 1) (by decide +kernel)) (by decide +kernel) (by decide +kernel) (e0r hE (k := 3) (j := 12) (r := 10) (by decide +kernel))) ?_
    refine gm_sz (gm_p_load (pc := 58) (i := .iload_n 1) (sr := 0) (j := 1) (by decide +kernel) rfl rfl rfl) ?_
    refine gm_sz (gm_p_const (pc := 59) (i := .iconst 3) (v := gm_vi 3) (by decide +kernel) (by decide +kernel)) ?_
    refine gm_c_virt (k := 10) (ci := 2) (mj := 10) (ix := 186) (pc := 60) (as := [gm_vi l, gm_vi 3]) (st := [gm_vi (N 9)]) (d' := d - 1) (bc' := 0) (bs' := 0) (by decide +kernel) (by decide +kernel) (by decide +kernel) (by decide +kernel) (e0k hE (k := 10) (c := 2) (by decide +kernel)).1 (e0k hE (k := 10) (c := 2) (by decide +kernel)).2 (by decide) (by decide +kernel) (show 2 = gm_na 10 by decide +kernel) (fw_c2 fw_si fw_si) (show 3 ≤ gm_ml 10 by decide +kernel) (Nat.le_of_ble_eq_true rfl) (by omega) (Nat.zero_le _) (Nat.zero_le _) ?_
    refine rw_get (s := N 4) (w := 7) (x := N (119 + (l * 7 + 3))) (e0k hE (k := 10) (c := 2) (by decide +kernel)) (e0a hE (k := 11) (q := (0, 168)) (by decide +kernel)) (e0r hE (k := 10) (j := 2) (r := 11) (by decide +kernel)) (by decide) (ti_let hT) (hT.1 (10, 1, 7) (by decide)) ⟨by omega, by omega⟩ ⟨by omega, by omega⟩ ⟨by omega, by omega⟩ ⟨by omega, by omega⟩ (ti_aL hT (by omega) (by omega)) ?_
    show gm_Wp X LX d _ _ 163 63 _ [gm_vi (N (119 + (l * 7 + 3))), gm_vi (N 9)] n K _ _ Q
    refine gm_sz (gm_p_bin (pc := 63) (i := .isub) (f := fun x y => x - y) (by decide +kernel) rfl) ?_
    refine gm_sz (gm_p_stor (pc := 64) (i := .istore 4) (sr := 0) (j := 4) (by decide +kernel) rfl (show 5 ≤ _ from Nat.le_of_ble_eq_true rfl) rfl) ?_
    refine gm_sz (gm_p_const (pc := 66) (i := .iconst 0) (v := gm_vi 0) (by decide +kernel) (by decide +kernel)) ?_
    refine gm_sz (gm_p_stor (pc := 67) (i := .istore 5) (sr := 0) (j := 5) (by decide +kernel) rfl (show 6 ≤ _ from Nat.le_of_ble_eq_true rfl) rfl) ?_
    exact op_l hd hE hT hN hst hmo hI h1 hr h3 hdp h39 hq (N 3).toNat 0 M (by omega) fr_0 rfl
  · have h39 : (N (95 + ((N (119 + (l * 7 + 1))) * 3 + 2))) = (N (119 + (l * 7 + 2))) := Classical.not_not.mp h39
    refine gm_sz (gm_p_load (pc := 42) (i := .iload_n 3) (sr := 0) (j := 3) (by decide +kernel) rfl rfl rfl) ?_
    have e9 : opf N ψ l dp = N (119 + (l * 7 + 1)) := tif_t h39
    rw [e9] at hq
    exact gm_r_int (pc := 43) (by decide +kernel) (Or.inl (by decide +kernel)) (hq M fr_0)
end YR7
end
/-! 7a16.r3op -/
section
/-! THE REFERENCE: who waits, by whom it is opened (laid by wip/core/r3.py). -/
/-- may open, as the reference has it -/
noncomputable def rpsi (N h : Int → Int) (H : (Int → Int) → Int → Prop) (G : Int → Int) (m : Int) (person lane age deep : Int) : Prop := 0 < rsum H (fcts N h lane (N 1) (N 9) 0 person age deep) G 2 m.toNat
section RO3
variable {X : Int → Int} {LX d bc bs n : Nat} {K : gm_K} {R : gm_R} {M M2 : gm_M} {Q : gm_Q} {l o dp p m : Int} {N h G : Int → Int} {H : (Int → Int) → Int → Prop} {FI : gm_M → Prop} {φ : Int → Int → Int → Int} {ψ : Int → Int → Int → Int → Prop}
/-- mayOpen of the reference, by what it answers -/
noncomputable def MOR (X : Int → Int) (LX n : Nat) (K : gm_K) (R : gm_R) (N h : Int → Int) (FI : gm_M → Prop) (ψ : Int → Int → Int → Int → Prop) : Prop := ∀ (d bc bs : Nat) (M : gm_M) (Q : gm_Q) (person l dp : Int), 5 ≤ d → 0 ≤ l ∧ l < N 4 → TR N h M → FI M → (0 ≤ M 226 29 ∧ M 226 29 < 300) → M 237 (M 226 29) = dp → (ψ person ((N (119 + (l * 7 + 2)))) (N 9 - (N (119 + (l * 7 + 3)))) dp → ∀ M2, fr [(226, some 17), (226, some 18), (226, some 19), (226, some 20), (226, some 21), (226, some 22), (226, some 23), (233, none)] M M2 → Q (.inl (some (gm_vi 1))) n K R M2) → (¬ ψ person ((N (119 + (l * 7 + 2)))) (N 9 - (N (119 + (l * 7 + 3)))) dp → ∀ M2, fr [(226, some 17), (226, some 18), (226, some 19), (226, some 20), (226, some 21), (226, some 22), (226, some 23), (233, none)] M M2 → Q (.inl (some (gm_vi 0))) n K R M2) → gm_Wp X LX d bc bs 323 0 (gm_ent 323 [gm_vr 226, gm_vi person, gm_vi l]) [] n K R M Q
theorem re_mor (hE : E0 n K R) (hN : NR N) (hL : LG G m) (hH : HHL H G m) : MOR X LX n K R N h (fun M => ∀ j, (395 ≤ j ∨ j = 8) → M 227 j = G j) (rpsi N h H G m) := by
  intro d bc bs M Q person l dp hd h1 hT hG ho hdp q1 q0
  obtain ⟨⟨⟨a0, b0⟩, ⟨a1, b1⟩, ⟨a10, b10⟩, ⟨a11, b11⟩, ⟨a12, b12⟩, a9, b9⟩, ⟨⟨a2, b2⟩, ⟨a5, b5⟩, ⟨a3, b3⟩, ⟨a4, b4⟩, ⟨a6, b6⟩, ⟨a14, b14⟩, ⟨a7, b7⟩, a13, b13⟩, rF, rP, rL⟩ := id hN
  obtain ⟨-, -, r2, r3, -⟩ := rL l h1.1 h1.2
  have ln9 : 0 ≤ N (119 + (l * 7 + 2)) ∧ N (119 + (l * 7 + 2)) < N 0 := r2
  have yr9 : 0 ≤ N (119 + (l * 7 + 3)) ∧ N (119 + (l * 7 + 3)) ≤ N 9 := r3
  obtain ⟨m0, m1⟩ := hL.1.2.2
  refine gm_sz (gm_p_load (pc := 0) (i := .aload_n 0) (sr := 2) (j := 0) (by decide +kernel) rfl rfl rfl) ?_
  refine gm_sz (gm_p_load (pc := 1) (i := .aload_n 0) (sr := 2) (j := 0) (by decide +kernel) rfl rfl rfl) ?_
  refine gm_sz (gm_p_load (pc := 2) (i := .iload_n 2) (sr := 0) (j := 2) (by decide +kernel) rfl rfl rfl) ?_
  refine gm_sz (gm_p_const (pc := 3) (i := .iconst 2) (v := gm_vi 2) (by decide +kernel) (by decide +kernel)) ?_
  refine gm_c_virt (k := 226) (ci := 11) (mj := 301) (ix := 82) (pc := 4) (as := [gm_vi l, gm_vi 2]) (st := [gm_vr 226]) (d' := d - 1) (bc' := 0) (bs' := 0) (by decide +kernel) (by decide +kernel) (by decide +kernel) (by decide +kernel) (e0k hE (k := 226) (c := 11) (by decide +kernel)).1 (e0k hE (k := 226) (c := 11) (by decide +kernel)).2 (by decide) (by decide +kernel) (show 2 = gm_na 301 by decide +kernel) (fw_c2 fw_si fw_si) (show 3 ≤ gm_ml 301 by decide +kernel) (Nat.le_of_ble_eq_true rfl) (by omega) (Nat.zero_le _) (Nat.zero_le _) ?_
  refine re_ol hE hT hN ⟨by omega, by omega⟩ ⟨by omega, by omega⟩ ?_
  show gm_Wp X LX d _ _ 323 7 _ [gm_vi (N (119 + (l * 7 + 2))), gm_vr 226] n K _ _ Q
  refine gm_sz (fw_pi (pc := 7) (ix := 303) (ci := 11) (j := 17) (M' := gm_uM M 226 17 (N (119 + (l * 7 + 2)))) (by decide +kernel) (e0k hE (k := 226) (c := 11) (by decide +kernel)) (by decide +kernel) (by decide +kernel) (by decide +kernel) rfl) ?_
  refine gm_sz (gm_p_load (pc := 10) (i := .aload_n 0) (sr := 2) (j := 0) (by decide +kernel) rfl rfl rfl) ?_
  refine gm_sz (gm_p_load (pc := 11) (i := .aload_n 0) (sr := 2) (j := 0) (by decide +kernel) rfl rfl rfl) ?_
  refine gm_c_virt (k := 226) (ci := 11) (mj := 259) (ix := 94) (pc := 12) (as := []) (st := [gm_vr 226]) (d' := d - 1) (bc' := 0) (bs' := 0) (by decide +kernel) (by decide +kernel) (by decide +kernel) (by decide +kernel) (e0k hE (k := 226) (c := 11) (by decide +kernel)).1 (e0k hE (k := 226) (c := 11) (by decide +kernel)).2 (by decide) (by decide +kernel) (show 0 = gm_na 259 by decide +kernel) fw_c0 (show 1 ≤ gm_ml 259 by decide +kernel) (Nat.le_of_ble_eq_true rfl) (by omega) (Nat.zero_le _) (Nat.zero_le _) ?_
  refine re_lip hE (tr_fr (W := [(226, some 17)]) hT (fr_p fr_0 (Or.inr (by decide))) (by decide)) hN ?_
  show gm_Wp X LX d _ _ 323 15 _ [gm_vi (N 1), gm_vr 226] n K _ _ Q
  refine gm_sz (fw_pi (pc := 15) (ix := 306) (ci := 11) (j := 18) (M' := gm_uM (gm_uM M 226 17 (N (119 + (l * 7 + 2)))) 226 18 (N 1)) (by decide +kernel) (e0k hE (k := 226) (c := 11) (by decide +kernel)) (by decide +kernel) (by decide +kernel) (by decide +kernel) rfl) ?_
  refine gm_sz (gm_p_load (pc := 18) (i := .aload_n 0) (sr := 2) (j := 0) (by decide +kernel) rfl rfl rfl) ?_
  refine gm_sz (gm_p_load (pc := 19) (i := .aload_n 0) (sr := 2) (j := 0) (by decide +kernel) rfl rfl rfl) ?_
  refine gm_c_virt (k := 226) (ci := 11) (mj := 266) (ix := 162) (pc := 20) (as := []) (st := [gm_vr 226]) (d' := d - 1) (bc' := 0) (bs' := 0) (by decide +kernel) (by decide +kernel) (by decide +kernel) (by decide +kernel) (e0k hE (k := 226) (c := 11) (by decide +kernel)).1 (e0k hE (k := 226) (c := 11) (by decide +kernel)).2 (by decide) (by decide +kernel) (show 0 = gm_na 266 by decide +kernel) fw_c0 (show 1 ≤ gm_ml 266 by decide +kernel) (Nat.le_of_ble_eq_true rfl) (by omega) (Nat.zero_le _) (Nat.zero_le _) ?_
  refine re_now hE (tr_fr (W := [(226, some 17), (226, some 18)]) hT (fr_p (fr_p fr_0 (Or.inr (by decide))) (Or.inr (by decide))) (by decide)) hN ?_
  show gm_Wp X LX d _ _ 323 23 _ [gm_vi (N 9), gm_vr 226] n K _ _ Q
  refine gm_sz (fw_pi (pc := 23) (ix := 309) (ci := 11) (j := 19) (M' := gm_uM (gm_uM (gm_uM M 226 17 (N (119 + (l * 7 + 2)))) 226 18 (N 1)) 226 19 (N 9)) (by decide +kernel) (e0k hE (k := 226) (c := 11) (by decide +kernel)) (by decide +kernel) (by decide +kernel) (by decide +kernel) rfl) ?_
  refine gm_sz (gm_p_load (pc := 26) (i := .aload_n 0) (sr := 2) (j := 0) (by decide +kernel) rfl rfl rfl) ?_
  refine gm_sz (gm_p_const (pc := 27) (i := .iconst 0) (v := gm_vi 0) (by decide +kernel) (by decide +kernel)) ?_
  refine gm_sz (fw_pi (pc := 28) (ix := 312) (ci := 11) (j := 20) (M' := gm_uM (gm_uM (gm_uM (gm_uM M 226 17 (N (119 + (l * 7 + 2)))) 226 18 (N 1)) 226 19 (N 9)) 226 20 0) (by decide +kernel) (e0k hE (k := 226) (c := 11) (by decide +kernel)) (by decide +kernel) (by decide +kernel) (by decide +kernel) rfl) ?_
  refine gm_sz (gm_p_load (pc := 31) (i := .aload_n 0) (sr := 2) (j := 0) (by decide +kernel) rfl rfl rfl) ?_
  refine gm_sz (gm_p_load (pc := 32) (i := .iload_n 1) (sr := 0) (j := 1) (by decide +kernel) rfl rfl rfl) ?_
  refine gm_sz (fw_pi (pc := 33) (ix := 315) (ci := 11) (j := 21) (M' := gm_uM (gm_uM (gm_uM (gm_uM (gm_uM M 226 17 (N (119 + (l * 7 + 2)))) 226 18 (N 1)) 226 19 (N 9)) 226 20 0) 226 21 person) (by decide +kernel) (e0k hE (k := 226) (c := 11) (by decide +kernel)) (by decide +kernel) (by decide +kernel) (by decide +kernel) rfl) ?_
  refine gm_sz (gm_p_load (pc := 36) (i := .aload_n 0) (sr := 2) (j := 0) (by decide +kernel) rfl rfl rfl) ?_
  refine gm_sz (gm_p_load (pc := 37) (i := .aload_n 0) (sr := 2) (j := 0) (by decide +kernel) rfl rfl rfl) ?_
  refine gm_c_virt (k := 226) (ci := 11) (mj := 266) (ix := 162) (pc := 38) (as := []) (st := [gm_vr 226]) (d' := d - 1) (bc' := 0) (bs' := 0) (by decide +kernel) (by decide +kernel) (by decide +kernel) (by decide +kernel) (e0k hE (k := 226) (c := 11) (by decide +kernel)).1 (e0k hE (k := 226) (c := 11) (by decide +kernel)).2 (by decide) (by decide +kernel) (show 0 = gm_na 266 by decide +kernel) fw_c0 (show 1 ≤ gm_ml 266 by decide +kernel) (Nat.le_of_ble_eq_true rfl) (by omega) (Nat.zero_le _) (Nat.zero_le _) ?_
  refine re_now hE (tr_fr (W := [(226, some 17), (226, some 18), (226, some 19), (226, some 20), (226, some 21)]) hT (fr_p (fr_p (fr_p (fr_p (fr_p fr_0 (Or.inr (by decide))) (Or.inr (by decide))) (Or.inr (by decide))) (Or.inr (by decide))) (Or.inr (by decide))) (by decide)) hN ?_
  show gm_Wp X LX d _ _ 323 41 _ [gm_vi (N 9), gm_vr 226] n K _ _ Q
  refine gm_sz (gm_p_load (pc := 41) (i := .aload_n 0) (sr := 2) (j := 0) (by decide +kernel) rfl rfl rfl) ?_
  refine gm_sz (gm_p_load (pc := 42) (i := .iload_n 2) (sr := 0) (j := 2) (by decide +kernel) rfl rfl rfl) ?_
  refine gm_sz (gm_p_const (pc := 43) (i := .iconst 3) (v := gm_vi 3) (by decide +kernel) (by decide +kernel)) ?_
  refine gm_c_virt (k := 226) (ci := 11) (mj := 301) (ix := 82) (pc := 44) (as := [gm_vi l, gm_vi 3]) (st := [gm_vi (N 9), gm_vr 226]) (d' := d - 1) (bc' := 0) (bs' := 0) (by decide +kernel) (by decide +kernel) (by decide +kernel) (by decide +kernel) (e0k hE (k := 226) (c := 11) (by decide +kernel)).1 (e0k hE (k := 226) (c := 11) (by decide +kernel)).2 (by decide) (by decide +kernel) (show 2 = gm_na 301 by decide +kernel) (fw_c2 fw_si fw_si) (show 3 ≤ gm_ml 301 by decide +kernel) (Nat.le_of_ble_eq_true rfl) (by omega) (Nat.zero_le _) (Nat.zero_le _) ?_
  refine re_ol hE (tr_fr (W := [(226, some 17), (226, some 18), (226, some 19), (226, some 20), (226, some 21)]) hT (fr_p (fr_p (fr_p (fr_p (fr_p fr_0 (Or.inr (by decide))) (Or.inr (by decide))) (Or.inr (by decide))) (Or.inr (by decide))) (Or.inr (by decide))) (by decide)) hN ⟨by omega, by omega⟩ ⟨by omega, by omega⟩ ?_
  show gm_Wp X LX d _ _ 323 47 _ [gm_vi (N (119 + (l * 7 + 3))), gm_vi (N 9), gm_vr 226] n K _ _ Q
  refine gm_sz (gm_p_bin (pc := 47) (i := .isub) (f := fun x y => x - y) (by decide +kernel) rfl) ?_
  refine gm_sz (fw_pi (pc := 48) (ix := 318) (ci := 11) (j := 22) (M' := gm_uM (gm_uM (gm_uM (gm_uM (gm_uM (gm_uM M 226 17 (N (119 + (l * 7 + 2)))) 226 18 (N 1)) 226 19 (N 9)) 226 20 0) 226 21 person) 226 22 ((N 9) - (N (119 + (l * 7 + 3))))) (by decide +kernel) (e0k hE (k := 226) (c := 11) (by decide +kernel)) (by decide +kernel) (by decide +kernel) (by decide +kernel) rfl) ?_
  refine gm_sz (gm_p_load (pc := 51) (i := .aload_n 0) (sr := 2) (j := 0) (by decide +kernel) rfl rfl rfl) ?_
  refine gm_sz (gm_p_load (pc := 52) (i := .aload_n 0) (sr := 2) (j := 0) (by decide +kernel) rfl rfl rfl) ?_
  refine gm_sz (fw_gr (pc := 53) (ix := 48) (ci := 11) (j := 28) (r := 237) (by decide +kernel) (e0k hE (k := 226) (c := 11) (by decide +kernel)) (by decide +kernel) (by decide +kernel) (e0r hE (k := 226) (j := 28) (r := 237) (by decide +kernel))) ?_
  refine gm_sz (gm_p_load (pc := 56) (i := .aload_n 0) (sr := 2) (j := 0) (by decide +kernel) rfl rfl rfl) ?_
  refine gm_sz (fw_gi (pc := 57) (ix := 368) (ci := 11) (j := 29) (x := M 226 29) (by decide +kernel) (e0k hE (k := 226) (c := 11) (by decide +kernel)) (by decide +kernel) (by decide +kernel) ((uM_ne (by omega)).trans ((uM_ne (by omega)).trans ((uM_ne (by omega)).trans ((uM_ne (by omega)).trans ((uM_ne (by omega)).trans ((uM_ne (by omega)).trans rfl))))))) ?_
  refine gm_sz (fw_ia (pc := 60) (k := 237) (len := 300) (e0 := M 226 29) (x := dp) (by decide +kernel) (e0a hE (k := 237) (q := (0, 300)) (by decide +kernel)).1 (e0a hE (k := 237) (q := (0, 300)) (by decide +kernel)).2 (by decide) ⟨by omega, by omega⟩ ((uM_ne (by omega)).trans ((uM_ne (by omega)).trans ((uM_ne (by omega)).trans ((uM_ne (by omega)).trans ((uM_ne (by omega)).trans ((uM_ne (by omega)).trans hdp))))))) ?_
  refine gm_sz (fw_pi (pc := 61) (ix := 321) (ci := 11) (j := 23) (M' := gm_uM (gm_uM (gm_uM (gm_uM (gm_uM (gm_uM (gm_uM M 226 17 (N (119 + (l * 7 + 2)))) 226 18 (N 1)) 226 19 (N 9)) 226 20 0) 226 21 person) 226 22 ((N 9) - (N (119 + (l * 7 + 3))))) 226 23 dp) (by decide +kernel) (e0k hE (k := 226) (c := 11) (by decide +kernel)) (by decide +kernel) (by decide +kernel) (by decide +kernel) rfl) ?_
  refine gm_sz (gm_p_load (pc := 64) (i := .aload_n 0) (sr := 2) (j := 0) (by decide +kernel) rfl rfl rfl) ?_
  refine gm_sz (gm_p_const (pc := 65) (i := .iconst 2) (v := gm_vi 2) (by decide +kernel) (by decide +kernel)) ?_
  refine gm_c_virt (k := 226) (ci := 11) (mj := 294) (ix := 341) (pc := 66) (as := [gm_vi 2]) (st := []) (d' := d - 1) (bc' := 0) (bs' := 0) (by decide +kernel) (by decide +kernel) (by decide +kernel) (by decide +kernel) (e0k hE (k := 226) (c := 11) (by decide +kernel)).1 (e0k hE (k := 226) (c := 11) (by decide +kernel)).2 (by decide) (by decide +kernel) (show 1 = gm_na 294 by decide +kernel) (fw_c1 fw_si) (show 2 ≤ gm_ml 294 by decide +kernel) (Nat.le_of_ble_eq_true rfl) (by omega) (Nat.zero_le _) (Nat.zero_le _) ?_
  refine re_c294 (kd := 2) (m := m) (H := H) (by omega) hE (tr_fr (W := [(226, some 17), (226, some 18), (226, some 19), (226, some 20), (226, some 21), (226, some 22), (226, some 23)]) hT (fr_p (fr_p (fr_p (fr_p (fr_p (fr_p (fr_p fr_0 (Or.inr (by decide))) (Or.inr (by decide))) (Or.inr (by decide))) (Or.inr (by decide))) (Or.inr (by decide))) (Or.inr (by decide))) (Or.inr (by decide))) (by decide)) hN (fun j hj => ((uM_ne (by omega)).trans ((uM_ne (by omega)).trans ((uM_ne (by omega)).trans ((uM_ne (by omega)).trans ((uM_ne (by omega)).trans ((uM_ne (by omega)).trans ((uM_ne (by omega)).trans (hG j hj))))))))) ((uM_ne (by omega)).trans ((uM_ne (by omega)).trans ((uM_ne (by omega)).trans ((uM_ne (by omega)).trans ((uM_ne (by omega)).trans ((uM_ne (by omega)).trans uM_at)))))) ((uM_ne (by omega)).trans ((uM_ne (by omega)).trans ((uM_ne (by omega)).trans ((uM_ne (by omega)).trans ((uM_ne (by omega)).trans uM_at))))) ((uM_ne (by omega)).trans ((uM_ne (by omega)).trans ((uM_ne (by omega)).trans ((uM_ne (by omega)).trans uM_at)))) ((uM_ne (by omega)).trans ((uM_ne (by omega)).trans ((uM_ne (by omega)).trans uM_at))) ((uM_ne (by omega)).trans ((uM_ne (by omega)).trans uM_at)) ((uM_ne (by omega)).trans uM_at) uM_at ⟨by omega, by omega⟩ ⟨by omega, by omega⟩ hL hH ⟨by decide, by decide⟩ (fun M66 hf66 => ?_)
  show gm_Wp X LX d _ _ 323 69 _ [gm_vi (rsum H (fcts N h (N (119 + (l * 7 + 2))) (N 1) (N 9) 0 person (N 9 - N (119 + (l * 7 + 3))) dp) G 2 m.toNat)] n K _ _ Q
  have hb66 := rsum_b (H := H) (F := (fcts N h (N (119 + (l * 7 + 2))) (N 1) (N 9) 0 person (N 9 - N (119 + (l * 7 + 3))) dp)) (kd := 2) hL m.toNat (by omega)
  refine fw_if (cc := .le) (pc := 69) (off := 7) (by decide +kernel) (by decide) ⟨by omega, by omega⟩ (fun h69 => ?_) (fun h69 => ?_)
  · have h69 : (rsum H (fcts N h (N (119 + (l * 7 + 2))) (N 1) (N 9) 0 person (N 9 - N (119 + (l * 7 + 3))) dp) G 2 m.toNat) ≤ 0 := h69
    refine gm_sz (gm_p_const (pc := 76) (i := .iconst 0) (v := gm_vi 0) (by decide +kernel) (by decide +kernel)) ?_
    exact gm_r_int (pc := 77) (by decide +kernel) (Or.inr ⟨(by decide +kernel), Or.inl rfl⟩) (q0 (fun hh => by have hh : 0 < rsum H (fcts N h (N (119 + (l * 7 + 2))) (N 1) (N 9) 0 person (N 9 - N (119 + (l * 7 + 3))) dp) G 2 m.toNat := hh; omega) _ (fr_t (fr_p (fr_p (fr_p (fr_p (fr_p (fr_p (fr_p fr_0 (Or.inr (by decide))) (Or.inr (by decide))) (Or.inr (by decide))) (Or.inr (by decide))) (Or.inr (by decide))) (Or.inr (by decide))) (Or.inr (by decide))) hf66 (by decide)))
  · have h69 : ¬ (rsum H (fcts N h (N (119 + (l * 7 + 2))) (N 1) (N 9) 0 person (N 9 - N (119 + (l * 7 + 3))) dp) G 2 m.toNat) ≤ 0 := h69
    refine gm_sz (gm_p_const (pc := 72) (i := .iconst 1) (v := gm_vi 1) (by decide +kernel) (by decide +kernel)) ?_
    refine gm_sz (gm_p_goto (pc := 73) (off := 4) (by decide +kernel) (by decide)) ?_
    exact gm_r_int (pc := 77) (by decide +kernel) (Or.inr ⟨(by decide +kernel), Or.inr rfl⟩) (q1 (show rpsi N h H G m person ((N (119 + (l * 7 + 2)))) (N 9 - (N (119 + (l * 7 + 3)))) dp from (by have := h69; show 0 < _; omega)) _ (fr_t (fr_p (fr_p (fr_p (fr_p (fr_p (fr_p (fr_p fr_0 (Or.inr (by decide))) (Or.inr (by decide))) (Or.inr (by decide))) (Or.inr (by decide))) (Or.inr (by decide))) (Or.inr (by decide))) (Or.inr (by decide))) hf66 (by decide)))
theorem re_mor0 (hE : E0 n K R) (hN : NR N) (h8 : G 8 = 0) : MOR X LX n K R N h (fun M => ∀ j, (395 ≤ j ∨ j = 8) → M 227 j = G j) (fun _ _ _ _ => False) := by
  intro d bc bs M Q person l dp hd h1 hT hG ho hdp q1 q0
  obtain ⟨⟨⟨a0, b0⟩, ⟨a1, b1⟩, ⟨a10, b10⟩, ⟨a11, b11⟩, ⟨a12, b12⟩, a9, b9⟩, ⟨⟨a2, b2⟩, ⟨a5, b5⟩, ⟨a3, b3⟩, ⟨a4, b4⟩, ⟨a6, b6⟩, ⟨a14, b14⟩, ⟨a7, b7⟩, a13, b13⟩, rF, rP, rL⟩ := id hN
  obtain ⟨-, -, r2, r3, -⟩ := rL l h1.1 h1.2
  have ln9 : 0 ≤ N (119 + (l * 7 + 2)) ∧ N (119 + (l * 7 + 2)) < N 0 := r2
  have yr9 : 0 ≤ N (119 + (l * 7 + 3)) ∧ N (119 + (l * 7 + 3)) ≤ N 9 := r3
  refine gm_sz (gm_p_load (pc := 0) (i := .aload_n 0) (sr := 2) (j := 0) (by decide +kernel) rfl rfl rfl) ?_
  refine gm_sz (gm_p_load (pc := 1) (i := .aload_n 0) (sr := 2) (j := 0) (by decide +kernel) rfl rfl rfl) ?_
  refine gm_sz (gm_p_load (pc := 2) (i := .iload_n 2) (sr := 0) (j := 2) (by decide +kernel) rfl rfl rfl) ?_
  refine gm_sz (gm_p_const (pc := 3) (i := .iconst 2) (v := gm_vi 2) (by decide +kernel) (by decide +kernel)) ?_
  refine gm_c_virt (k := 226) (ci := 11) (mj := 301) (ix := 82) (pc := 4) (as := [gm_vi l, gm_vi 2]) (st := [gm_vr 226]) (d' := d - 1) (bc' := 0) (bs' := 0) (by decide +kernel) (by decide +kernel) (by decide +kernel) (by decide +kernel) (e0k hE (k := 226) (c := 11) (by decide +kernel)).1 (e0k hE (k := 226) (c := 11) (by decide +kernel)).2 (by decide) (by decide +kernel) (show 2 = gm_na 301 by decide +kernel) (fw_c2 fw_si fw_si) (show 3 ≤ gm_ml 301 by decide +kernel) (Nat.le_of_ble_eq_true rfl) (by omega) (Nat.zero_le _) (Nat.zero_le _) ?_
  refine re_ol hE hT hN ⟨by omega, by omega⟩ ⟨by omega, by omega⟩ ?_
  show gm_Wp X LX d _ _ 323 7 _ [gm_vi (N (119 + (l * 7 + 2))), gm_vr 226] n K _ _ Q
  refine gm_sz (fw_pi (pc := 7) (ix := 303) (ci := 11) (j := 17) (M' := gm_uM M 226 17 (N (119 + (l * 7 + 2)))) (by decide +kernel) (e0k hE (k := 226) (c := 11) (by decide +kernel)) (by decide +kernel) (by decide +kernel) (by decide +kernel) rfl) ?_
  refine gm_sz (gm_p_load (pc := 10) (i := .aload_n 0) (sr := 2) (j := 0) (by decide +kernel) rfl rfl rfl) ?_
  refine gm_sz (gm_p_load (pc := 11) (i := .aload_n 0) (sr := 2) (j := 0) (by decide +kernel) rfl rfl rfl) ?_
  refine gm_c_virt (k := 226) (ci := 11) (mj := 259) (ix := 94) (pc := 12) (as := []) (st := [gm_vr 226]) (d' := d - 1) (bc' := 0) (bs' := 0) (by decide +kernel) (by decide +kernel) (by decide +kernel) (by decide +kernel) (e0k hE (k := 226) (c := 11) (by decide +kernel)).1 (e0k hE (k := 226) (c := 11) (by decide +kernel)).2 (by decide) (by decide +kernel) (show 0 = gm_na 259 by decide +kernel) fw_c0 (show 1 ≤ gm_ml 259 by decide +kernel) (Nat.le_of_ble_eq_true rfl) (by omega) (Nat.zero_le _) (Nat.zero_le _) ?_
  refine re_lip hE (tr_fr (W := [(226, some 17)]) hT (fr_p fr_0 (Or.inr (by decide))) (by decide)) hN ?_
  show gm_Wp X LX d _ _ 323 15 _ [gm_vi (N 1), gm_vr 226] n K _ _ Q
  refine gm_sz (fw_pi (pc := 15) (ix := 306) (ci := 11) (j := 18) (M' := gm_uM (gm_uM M 226 17 (N (119 + (l * 7 + 2)))) 226 18 (N 1)) (by decide +kernel) (e0k hE (k := 226) (c := 11) (by decide +kernel)) (by decide +kernel) (by decide +kernel) (by decide +kernel) rfl) ?_
  refine gm_sz (gm_p_load (pc := 18) (i := .aload_n 0) (sr := 2) (j := 0) (by decide +kernel) rfl rfl rfl) ?_
  refine gm_sz (gm_p_load (pc := 19) (i := .aload_n 0) (sr := 2) (j := 0) (by decide +kernel) rfl rfl rfl) ?_
  refine gm_c_virt (k := 226) (ci := 11) (mj := 266) (ix := 162) (pc := 20) (as := []) (st := [gm_vr 226]) (d' := d - 1) (bc' := 0) (bs' := 0) (by decide +kernel) (by decide +kernel) (by decide +kernel) (by decide +kernel) (e0k hE (k := 226) (c := 11) (by decide +kernel)).1 (e0k hE (k := 226) (c := 11) (by decide +kernel)).2 (by decide) (by decide +kernel) (show 0 = gm_na 266 by decide +kernel) fw_c0 (show 1 ≤ gm_ml 266 by decide +kernel) (Nat.le_of_ble_eq_true rfl) (by omega) (Nat.zero_le _) (Nat.zero_le _) ?_
  refine re_now hE (tr_fr (W := [(226, some 17), (226, some 18)]) hT (fr_p (fr_p fr_0 (Or.inr (by decide))) (Or.inr (by decide))) (by decide)) hN ?_
  show gm_Wp X LX d _ _ 323 23 _ [gm_vi (N 9), gm_vr 226] n K _ _ Q
  refine gm_sz (fw_pi (pc := 23) (ix := 309) (ci := 11) (j := 19) (M' := gm_uM (gm_uM (gm_uM M 226 17 (N (119 + (l * 7 + 2)))) 226 18 (N 1)) 226 19 (N 9)) (by decide +kernel) (e0k hE (k := 226) (c := 11) (by decide +kernel)) (by decide +kernel) (by decide +kernel) (by decide +kernel) rfl) ?_
  refine gm_sz (gm_p_load (pc := 26) (i := .aload_n 0) (sr := 2) (j := 0) (by decide +kernel) rfl rfl rfl) ?_
  refine gm_sz (gm_p_const (pc := 27) (i := .iconst 0) (v := gm_vi 0) (by decide +kernel) (by decide +kernel)) ?_
  refine gm_sz (fw_pi (pc := 28) (ix := 312) (ci := 11) (j := 20) (M' := gm_uM (gm_uM (gm_uM (gm_uM M 226 17 (N (119 + (l * 7 + 2)))) 226 18 (N 1)) 226 19 (N 9)) 226 20 0) (by decide +kernel) (e0k hE (k := 226) (c := 11) (by decide +kernel)) (by decide +kernel) (by decide +kernel) (by decide +kernel) rfl) ?_
  refine gm_sz (gm_p_load (pc := 31) (i := .aload_n 0) (sr := 2) (j := 0) (by decide +kernel) rfl rfl rfl) ?_
  refine gm_sz (gm_p_load (pc := 32) (i := .iload_n 1) (sr := 0) (j := 1) (by decide +kernel) rfl rfl rfl) ?_
  refine gm_sz (fw_pi (pc := 33) (ix := 315) (ci := 11) (j := 21) (M' := gm_uM (gm_uM (gm_uM (gm_uM (gm_uM M 226 17 (N (119 + (l * 7 + 2)))) 226 18 (N 1)) 226 19 (N 9)) 226 20 0) 226 21 person) (by decide +kernel) (e0k hE (k := 226) (c := 11) (by decide +kernel)) (by decide +kernel) (by decide +kernel) (by decide +kernel) rfl) ?_
  refine gm_sz (gm_p_load (pc := 36) (i := .aload_n 0) (sr := 2) (j := 0) (by decide +kernel) rfl rfl rfl) ?_
  refine gm_sz (gm_p_load (pc := 37) (i := .aload_n 0) (sr := 2) (j := 0) (by decide +kernel) rfl rfl rfl) ?_
  refine gm_c_virt (k := 226) (ci := 11) (mj := 266) (ix := 162) (pc := 38) (as := []) (st := [gm_vr 226]) (d' := d - 1) (bc' := 0) (bs' := 0) (by decide +kernel) (by decide +kernel) (by decide +kernel) (by decide +kernel) (e0k hE (k := 226) (c := 11) (by decide +kernel)).1 (e0k hE (k := 226) (c := 11) (by decide +kernel)).2 (by decide) (by decide +kernel) (show 0 = gm_na 266 by decide +kernel) fw_c0 (show 1 ≤ gm_ml 266 by decide +kernel) (Nat.le_of_ble_eq_true rfl) (by omega) (Nat.zero_le _) (Nat.zero_le _) ?_
  refine re_now hE (tr_fr (W := [(226, some 17), (226, some 18), (226, some 19), (226, some 20), (226, some 21)]) hT (fr_p (fr_p (fr_p (fr_p (fr_p fr_0 (Or.inr (by decide))) (Or.inr (by decide))) (Or.inr (by decide))) (Or.inr (by decide))) (Or.inr (by decide))) (by decide)) hN ?_
  show gm_Wp X LX d _ _ 323 41 _ [gm_vi (N 9), gm_vr 226] n K _ _ Q
  refine gm_sz (gm_p_load (pc := 41) (i := .aload_n 0) (sr := 2) (j := 0) (by decide +kernel) rfl rfl rfl) ?_
  refine gm_sz (gm_p_load (pc := 42) (i := .iload_n 2) (sr := 0) (j := 2) (by decide +kernel) rfl rfl rfl) ?_
  refine gm_sz (gm_p_const (pc := 43) (i := .iconst 3) (v := gm_vi 3) (by decide +kernel) (by decide +kernel)) ?_
  refine gm_c_virt (k := 226) (ci := 11) (mj := 301) (ix := 82) (pc := 44) (as := [gm_vi l, gm_vi 3]) (st := [gm_vi (N 9), gm_vr 226]) (d' := d - 1) (bc' := 0) (bs' := 0) (by decide +kernel) (by decide +kernel) (by decide +kernel) (by decide +kernel) (e0k hE (k := 226) (c := 11) (by decide +kernel)).1 (e0k hE (k := 226) (c := 11) (by decide +kernel)).2 (by decide) (by decide +kernel) (show 2 = gm_na 301 by decide +kernel) (fw_c2 fw_si fw_si) (show 3 ≤ gm_ml 301 by decide +kernel) (Nat.le_of_ble_eq_true rfl) (by omega) (Nat.zero_le _) (Nat.zero_le _) ?_
  refine re_ol hE (tr_fr (W := [(226, some 17), (226, some 18), (226, some 19), (226, some 20), (226, some 21)]) hT (fr_p (fr_p (fr_p (fr_p (fr_p fr_0 (Or.inr (by decide))) (Or.inr (by decide))) (Or.inr (by decide))) (Or.inr (by decide))) (Or.inr (by decide))) (by decide)) hN ⟨by omega, by omega⟩ ⟨by omega, by omega⟩ ?_
  show gm_Wp X LX d _ _ 323 47 _ [gm_vi (N (119 + (l * 7 + 3))), gm_vi (N 9), gm_vr 226] n K _ _ Q
  refine gm_sz (gm_p_bin (pc := 47) (i := .isub) (f := fun x y => x - y) (by decide +kernel) rfl) ?_
  refine gm_sz (fw_pi (pc := 48) (ix := 318) (ci := 11) (j := 22) (M' := gm_uM (gm_uM (gm_uM (gm_uM (gm_uM (gm_uM M 226 17 (N (119 + (l * 7 + 2)))) 226 18 (N 1)) 226 19 (N 9)) 226 20 0) 226 21 person) 226 22 ((N 9) - (N (119 + (l * 7 + 3))))) (by decide +kernel) (e0k hE (k := 226) (c := 11) (by decide +kernel)) (by decide +kernel) (by decide +kernel) (by decide +kernel) rfl) ?_
  refine gm_sz (gm_p_load (pc := 51) (i := .aload_n 0) (sr := 2) (j := 0) (by decide +kernel) rfl rfl rfl) ?_
  refine gm_sz (gm_p_load (pc := 52) (i := .aload_n 0) (sr := 2) (j := 0) (by decide +kernel) rfl rfl rfl) ?_
  refine gm_sz (fw_gr (pc := 53) (ix := 48) (ci := 11) (j := 28) (r := 237) (by decide +kernel) (e0k hE (k := 226) (c := 11) (by decide +kernel)) (by decide +kernel) (by decide +kernel) (e0r hE (k := 226) (j := 28) (r := 237) (by decide +kernel))) ?_
  refine gm_sz (gm_p_load (pc := 56) (i := .aload_n 0) (sr := 2) (j := 0) (by decide +kernel) rfl rfl rfl) ?_
  refine gm_sz (fw_gi (pc := 57) (ix := 368) (ci := 11) (j := 29) (x := M 226 29) (by decide +kernel) (e0k hE (k := 226) (c := 11) (by decide +kernel)) (by decide +kernel) (by decide +kernel) ((uM_ne (by omega)).trans ((uM_ne (by omega)).trans ((uM_ne (by omega)).trans ((uM_ne (by omega)).trans ((uM_ne (by omega)).trans ((uM_ne (by omega)).trans rfl))))))) ?_
  refine gm_sz (fw_ia (pc := 60) (k := 237) (len := 300) (e0 := M 226 29) (x := dp) (by decide +kernel) (e0a hE (k := 237) (q := (0, 300)) (by decide +kernel)).1 (e0a hE (k := 237) (q := (0, 300)) (by decide +kernel)).2 (by decide) ⟨by omega, by omega⟩ ((uM_ne (by omega)).trans ((uM_ne (by omega)).trans ((uM_ne (by omega)).trans ((uM_ne (by omega)).trans ((uM_ne (by omega)).trans ((uM_ne (by omega)).trans hdp))))))) ?_
  refine gm_sz (fw_pi (pc := 61) (ix := 321) (ci := 11) (j := 23) (M' := gm_uM (gm_uM (gm_uM (gm_uM (gm_uM (gm_uM (gm_uM M 226 17 (N (119 + (l * 7 + 2)))) 226 18 (N 1)) 226 19 (N 9)) 226 20 0) 226 21 person) 226 22 ((N 9) - (N (119 + (l * 7 + 3))))) 226 23 dp) (by decide +kernel) (e0k hE (k := 226) (c := 11) (by decide +kernel)) (by decide +kernel) (by decide +kernel) (by decide +kernel) rfl) ?_
  refine gm_sz (gm_p_load (pc := 64) (i := .aload_n 0) (sr := 2) (j := 0) (by decide +kernel) rfl rfl rfl) ?_
  refine gm_sz (gm_p_const (pc := 65) (i := .iconst 2) (v := gm_vi 2) (by decide +kernel) (by decide +kernel)) ?_
  refine gm_c_virt (k := 226) (ci := 11) (mj := 294) (ix := 341) (pc := 66) (as := [gm_vi 2]) (st := []) (d' := d - 1) (bc' := 0) (bs' := 0) (by decide +kernel) (by decide +kernel) (by decide +kernel) (by decide +kernel) (e0k hE (k := 226) (c := 11) (by decide +kernel)).1 (e0k hE (k := 226) (c := 11) (by decide +kernel)).2 (by decide) (by decide +kernel) (show 1 = gm_na 294 by decide +kernel) (fw_c1 fw_si) (show 2 ≤ gm_ml 294 by decide +kernel) (Nat.le_of_ble_eq_true rfl) (by omega) (Nat.zero_le _) (Nat.zero_le _) ?_
  refine re_c294n (kd := 2) hE ((uM_ne (by omega)).trans ((uM_ne (by omega)).trans ((uM_ne (by omega)).trans ((uM_ne (by omega)).trans ((uM_ne (by omega)).trans ((uM_ne (by omega)).trans ((uM_ne (by omega)).trans ((hG _ (by omega)).trans h8)))))))) ?_
  show gm_Wp X LX d _ _ 323 69 _ [gm_vi 0] n K _ _ Q
  refine fw_iftd (cc := .le) (pc := 69) (off := 7) (by decide +kernel) (by decide) ⟨by decide, by decide⟩ (by decide) ?_
  refine gm_sz (gm_p_const (pc := 76) (i := .iconst 0) (v := gm_vi 0) (by decide +kernel) (by decide +kernel)) ?_
  exact gm_r_int (pc := 77) (by decide +kernel) (Or.inr ⟨(by decide +kernel), Or.inl rfl⟩) (q0 (fun hh => hh) _ (fr_p (fr_p (fr_p (fr_p (fr_p (fr_p (fr_p fr_0 (Or.inr (by decide))) (Or.inr (by decide))) (Or.inr (by decide))) (Or.inr (by decide))) (Or.inr (by decide))) (Or.inr (by decide))) (Or.inr (by decide))))
theorem ro_l (hd : 6 ≤ d) (hE : E0 n K R) (hT : TR N h M) (hN : NR N) (hst : RSt FI) (hmo : MOR X LX n K R N h FI ψ) (hI : FI M) (h1 : 0 ≤ l ∧ l < N 4) (hr : 0 ≤ (N (119 + (l * 7 + 0)))) (h29 : 0 ≤ M 226 29 ∧ M 226 29 < 300) (hdp : M 237 (M 226 29) = dp) (hne : ¬ (N (95 + (((N (119 + (l * 7 + 1)))) * 3 + 2))) = (N (119 + (l * 7 + 2)))) (hq : ∀ M2, fr [(226, some 17), (226, some 18), (226, some 19), (226, some 20), (226, some 21), (226, some 22), (226, some 23), (233, none)] M M2 → Q (.inl (some (gm_vi (opf N ψ l dp)))) n K R M2) : ∀ (u i : Nat) (M1 : gm_M), (i : Int) + (u : Int) = N 3 → fr [(226, some 17), (226, some 18), (226, some 19), (226, some 20), (226, some 21), (226, some 22), (226, some 23), (233, none)] M M1 → fo (wop N ψ l dp) (N 3).toNat 0 = fo (wop N ψ l dp) u (i : Int) → gm_Wp X LX d bc bs 322 31 [some (gm_vr 226), some (gm_vi l), some (gm_vi (N (119 + (l * 7 + 2)))), some (gm_vi (i : Int))] [] n K R M1 Q := by
  obtain ⟨⟨⟨a0, b0⟩, ⟨a1, b1⟩, ⟨a10, b10⟩, ⟨a11, b11⟩, ⟨a12, b12⟩, a9, b9⟩, ⟨⟨a2, b2⟩, ⟨a5, b5⟩, ⟨a3, b3⟩, ⟨a4, b4⟩, ⟨a6, b6⟩, ⟨a14, b14⟩, ⟨a7, b7⟩, a13, b13⟩, rF, rP, rL⟩ := id hN
  obtain ⟨r0, r1, r2, r3, -, -, -, r7⟩ := rL l h1.1 h1.2
  have r8 := r7 hr
  have to9 : 0 ≤ N (119 + (l * 7 + 1)) ∧ N (119 + (l * 7 + 1)) < N 3 := ⟨r8, r1.2⟩
  have ln9 : 0 ≤ N (119 + (l * 7 + 2)) ∧ N (119 + (l * 7 + 2)) < N 0 := r2
  have e9 : opf N ψ l dp = fo (wop N ψ l dp) (N 3).toNat 0 := tif_f hne
  rw [e9] at hq
  intro u
  induction u with
  | zero =>
    intro i M1 hi hf he
    have he : fo (wop N ψ l dp) (N 3).toNat 0 = -1 := he
    rw [he] at hq
    refine gm_sz (gm_p_load (pc := 31) (i := .iload_n 3) (sr := 0) (j := 3) (by decide +kernel) rfl rfl rfl) ?_
    refine gm_sz (gm_p_load (pc := 32) (i := .aload_n 0) (sr := 2) (j := 0) (by decide +kernel) rfl rfl rfl) ?_
    refine gm_c_virt (k := 226) (ci := 11) (mj := 253) (ix := 97) (pc := 33) (as := []) (st := [gm_vi (i : Int)]) (d' := d - 1) (bc' := 0) (bs' := 0) (by decide +kernel) (by decide +kernel) (by decide +kernel) (by decide +kernel) (e0k hE (k := 226) (c := 11) (by decide +kernel)).1 (e0k hE (k := 226) (c := 11) (by decide +kernel)).2 (by decide) (by decide +kernel) (show 0 = gm_na 253 by decide +kernel) fw_c0 (show 1 ≤ gm_ml 253 by decide +kernel) (Nat.le_of_ble_eq_true rfl) (by omega) (Nat.zero_le _) (Nat.zero_le _) ?_
    refine re_peo hE (tr_fr (W := [(226, some 17), (226, some 18), (226, some 19), (226, some 20), (226, some 21), (226, some 22), (226, some 23), (233, none)]) hT (fr_t fr_0 hf (by decide)) (by decide)) hN ?_
    show gm_Wp X LX d _ _ 322 36 _ [gm_vi (N 3), gm_vi (i : Int)] n K _ _ Q
    refine fw_ict (cc := .ge) (pc := 36) (off := 30) (by decide +kernel) (by decide) ⟨by omega, by omega⟩ ⟨by omega, by omega⟩ (show (N 3) ≤ (i : Int) by omega) ?_
    refine gm_sz (gm_p_const (pc := 66) (i := .iconst (-1)) (v := gm_vi (-1)) (by decide +kernel) (by decide +kernel)) ?_
    exact gm_r_int (pc := 67) (by decide +kernel) (Or.inl (by decide +kernel)) (hq M1 hf)
  | succ u ih =>
    intro i M1 hi hf he
    obtain ⟨-, -, p2⟩ := rP (i : Int) (by omega) (by omega)
    have p9 : -1 ≤ N (95 + ((i : Int) * 3 + 2)) ∧ N (95 + ((i : Int) * 3 + 2)) < N 0 := p2
    have he : fo (wop N ψ l dp) (N 3).toNat 0 = tif ((wop N ψ l dp) (i : Int)) (i : Int) (fo (wop N ψ l dp) u ((i : Int) + 1)) := he
    refine gm_sz (gm_p_load (pc := 31) (i := .iload_n 3) (sr := 0) (j := 3) (by decide +kernel) rfl rfl rfl) ?_
    refine gm_sz (gm_p_load (pc := 32) (i := .aload_n 0) (sr := 2) (j := 0) (by decide +kernel) rfl rfl rfl) ?_
    refine gm_c_virt (k := 226) (ci := 11) (mj := 253) (ix := 97) (pc := 33) (as := []) (st := [gm_vi (i : Int)]) (d' := d - 1) (bc' := 0) (bs' := 0) (by decide +kernel) (by decide +kernel) (by decide +kernel) (by decide +kernel) (e0k hE (k := 226) (c := 11) (by decide +kernel)).1 (e0k hE (k := 226) (c := 11) (by decide +kernel)).2 (by decide) (by decide +kernel) (show 0 = gm_na 253 by decide +kernel) fw_c0 (show 1 ≤ gm_ml 253 by decide +kernel) (Nat.le_of_ble_eq_true rfl) (by omega) (Nat.zero_le _) (Nat.zero_le _) ?_
    refine re_peo hE (tr_fr (W := [(226, some 17), (226, some 18), (226, some 19), (226, some 20), (226, some 21), (226, some 22), (226, some 23), (233, none)]) hT (fr_t fr_0 hf (by decide)) (by decide)) hN ?_
    show gm_Wp X LX d _ _ 322 36 _ [gm_vi (N 3), gm_vi (i : Int)] n K _ _ Q
    refine fw_icf (cc := .ge) (pc := 36) (off := 30) (by decide +kernel) (by decide) ⟨by omega, by omega⟩ ⟨by omega, by omega⟩ (show ¬ (N 3) ≤ (i : Int) by omega) ?_
    refine gm_sz (gm_p_load (pc := 39) (i := .aload_n 0) (sr := 2) (j := 0) (by decide +kernel) rfl rfl rfl) ?_
    refine gm_sz (gm_p_load (pc := 40) (i := .iload_n 3) (sr := 0) (j := 3) (by decide +kernel) rfl rfl rfl) ?_
    refine gm_sz (gm_p_const (pc := 41) (i := .iconst 2) (v := gm_vi 2) (by decide +kernel) (by decide +kernel)) ?_
    refine gm_c_virt (k := 226) (ci := 11) (mj := 299) (ix := 396) (pc := 42) (as := [gm_vi (i : Int), gm_vi 2]) (st := []) (d' := d - 1) (bc' := 0) (bs' := 0) (by decide +kernel) (by decide +kernel) (by decide +kernel) (by decide +kernel) (e0k hE (k := 226) (c := 11) (by decide +kernel)).1 (e0k hE (k := 226) (c := 11) (by decide +kernel)).2 (by decide) (by decide +kernel) (show 2 = gm_na 299 by decide +kernel) (fw_c2 fw_si fw_si) (show 3 ≤ gm_ml 299 by decide +kernel) (Nat.le_of_ble_eq_true rfl) (by omega) (Nat.zero_le _) (Nat.zero_le _) ?_
    refine re_of hE (tr_fr (W := [(226, some 17), (226, some 18), (226, some 19), (226, some 20), (226, some 21), (226, some 22), (226, some 23), (233, none)]) hT (fr_t fr_0 hf (by decide)) (by decide)) hN ⟨by omega, by omega⟩ ⟨by omega, by omega⟩ ?_
    show gm_Wp X LX d _ _ 322 45 _ [gm_vi (N (95 + ((i : Int) * 3 + 2)))] n K _ _ Q
    refine gm_sz (gm_p_load (pc := 45) (i := .iload_n 2) (sr := 0) (j := 2) (by decide +kernel) rfl rfl rfl) ?_
    refine fw_ic (cc := .ne) (pc := 46) (off := 14) (by decide +kernel) (by decide) ⟨by omega, by omega⟩ ⟨by omega, by omega⟩ (fun h46 => ?_) (fun h46 => ?_)
    · have h46 : ¬ (N (95 + ((i : Int) * 3 + 2))) = (N (119 + (l * 7 + 2))) := h46
      refine gm_sz (gm_p_iinc (pc := 60) (j := 3) (z := 1) (by decide +kernel) rfl) ?_
      refine gm_sz (gm_p_goto (pc := 63) (off := (-32)) (by decide +kernel) (by decide)) ?_
      rw [tif_f (show ¬ (wop N ψ l dp) (i : Int) from (fun hh => h46 hh.1))] at he
      exact ih (i + 1) _ (by omega) (fr_t fr_0 hf (by decide)) he
    · have h46 : (N (95 + ((i : Int) * 3 + 2))) = (N (119 + (l * 7 + 2))) := Classical.not_not.mp h46
      refine gm_sz (gm_p_load (pc := 49) (i := .aload_n 0) (sr := 2) (j := 0) (by decide +kernel) rfl rfl rfl) ?_
      refine gm_sz (gm_p_load (pc := 50) (i := .iload_n 3) (sr := 0) (j := 3) (by decide +kernel) rfl rfl rfl) ?_
      refine gm_sz (gm_p_load (pc := 51) (i := .iload_n 1) (sr := 0) (j := 1) (by decide +kernel) rfl rfl rfl) ?_
      refine gm_c_virt (k := 226) (ci := 11) (mj := 323) (ix := 417) (pc := 52) (as := [gm_vi (i : Int), gm_vi l]) (st := []) (d' := d - 1) (bc' := 0) (bs' := 0) (by decide +kernel) (by decide +kernel) (by decide +kernel) (by decide +kernel) (e0k hE (k := 226) (c := 11) (by decide +kernel)).1 (e0k hE (k := 226) (c := 11) (by decide +kernel)).2 (by decide) (by decide +kernel) (show 2 = gm_na 323 by decide +kernel) (fw_c2 fw_si fw_si) (show 3 ≤ gm_ml 323 by decide +kernel) (Nat.le_of_ble_eq_true rfl) (by omega) (Nat.zero_le _) (Nat.zero_le _) ?_
      refine hmo _ _ _ _ _ (i : Int) l dp (by omega) ⟨by omega, by omega⟩ (tr_fr (W := [(226, some 17), (226, some 18), (226, some 19), (226, some 20), (226, some 21), (226, some 22), (226, some 23), (233, none)]) hT (fr_t fr_0 hf (by decide)) (by decide)) (hst [(226, some 17), (226, some 18), (226, some 19), (226, some 20), (226, some 21), (226, some 22), (226, some 23), (233, none)] _ _ (by decide) (fr_t fr_0 hf (by decide)) hI) (by rw [show M1 226 29 = M 226 29 from (fr_j hf (by decide))]; exact h29) (by rw [show M1 226 29 = M 226 29 from (fr_j hf (by decide)), show M1 237 (M 226 29) = M 237 (M 226 29) from ((fr_c hf (by decide)).trans rfl)]; exact hdp) (fun v52 M52 hf52 => ?_) (fun v52 M52 hf52 => ?_)
      · show gm_Wp X LX d _ _ 322 55 _ [gm_vi 1] n K _ _ Q
        refine fw_iffd (cc := .eq) (pc := 55) (off := 5) (by decide +kernel) (by decide) ⟨by decide, by decide⟩ (by decide) ?_
        refine gm_sz (gm_p_load (pc := 58) (i := .iload_n 3) (sr := 0) (j := 3) (by decide +kernel) rfl rfl rfl) ?_
        rw [tif_t (show (wop N ψ l dp) (i : Int) from ⟨h46, v52⟩)] at he
        rw [he] at hq
        exact gm_r_int (pc := 59) (by decide +kernel) (Or.inl (by decide +kernel)) (hq _ (fr_t (fr_t fr_0 hf (by decide)) hf52 (by decide)))
      · show gm_Wp X LX d _ _ 322 55 _ [gm_vi 0] n K _ _ Q
        refine fw_iftd (cc := .eq) (pc := 55) (off := 5) (by decide +kernel) (by decide) ⟨by decide, by decide⟩ (by decide) ?_
        refine gm_sz (gm_p_iinc (pc := 60) (j := 3) (z := 1) (by decide +kernel) rfl) ?_
        refine gm_sz (gm_p_goto (pc := 63) (off := (-32)) (by decide +kernel) (by decide)) ?_
        rw [tif_f (show ¬ (wop N ψ l dp) (i : Int) from (fun hh => v52 hh.2))] at he
        exact ih (i + 1) _ (by omega) (fr_t (fr_t fr_0 hf (by decide)) hf52 (by decide)) he
theorem ro_c322 (hd : 6 ≤ d) (hE : E0 n K R) (hT : TR N h M) (hN : NR N) (hst : RSt FI) (hmo : MOR X LX n K R N h FI ψ) (hI : FI M) (h1 : 0 ≤ l ∧ l < N 4) (hr : 0 ≤ (N (119 + (l * 7 + 0)))) (h29 : 0 ≤ M 226 29 ∧ M 226 29 < 300) (hdp : M 237 (M 226 29) = dp) (hq : ∀ M2, fr [(226, some 17), (226, some 18), (226, some 19), (226, some 20), (226, some 21), (226, some 22), (226, some 23), (233, none)] M M2 → Q (.inl (some (gm_vi (opf N ψ l dp)))) n K R M2) : gm_Wp X LX d bc bs 322 0 (gm_ent 322 [gm_vr 226, gm_vi l]) [] n K R M Q := by
  obtain ⟨⟨⟨a0, b0⟩, ⟨a1, b1⟩, ⟨a10, b10⟩, ⟨a11, b11⟩, ⟨a12, b12⟩, a9, b9⟩, ⟨⟨a2, b2⟩, ⟨a5, b5⟩, ⟨a3, b3⟩, ⟨a4, b4⟩, ⟨a6, b6⟩, ⟨a14, b14⟩, ⟨a7, b7⟩, a13, b13⟩, rF, rP, rL⟩ := id hN
  obtain ⟨r0, r1, r2, r3, -, -, -, r7⟩ := rL l h1.1 h1.2
  have r8 := r7 hr
  have to9 : 0 ≤ N (119 + (l * 7 + 1)) ∧ N (119 + (l * 7 + 1)) < N 3 := ⟨r8, r1.2⟩
  have ln9 : 0 ≤ N (119 + (l * 7 + 2)) ∧ N (119 + (l * 7 + 2)) < N 0 := r2
  obtain ⟨-, -, p2⟩ := rP _ to9.1 to9.2
  have p9 : -1 ≤ N (95 + (N (119 + (l * 7 + 1)) * 3 + 2)) ∧ N (95 + (N (119 + (l * 7 + 1)) * 3 + 2)) < N 0 := p2
  refine gm_sz (gm_p_load (pc := 0) (i := .aload_n 0) (sr := 2) (j := 0) (by decide +kernel) rfl rfl rfl) ?_
  refine gm_sz (gm_p_load (pc := 1) (i := .iload_n 1) (sr := 0) (j := 1) (by decide +kernel) rfl rfl rfl) ?_
  refine gm_sz (gm_p_const (pc := 2) (i := .iconst 2) (v := gm_vi 2) (by decide +kernel) (by decide +kernel)) ?_
  refine gm_c_virt (k := 226) (ci := 11) (mj := 301) (ix := 82) (pc := 3) (as := [gm_vi l, gm_vi 2]) (st := []) (d' := d - 1) (bc' := 0) (bs' := 0) (by decide +kernel) (by decide +kernel) (by decide +kernel) (by decide +kernel) (e0k hE (k := 226) (c := 11) (by decide +kernel)).1 (e0k hE (k := 226) (c := 11) (by decide +kernel)).2 (by decide) (by decide +kernel) (show 2 = gm_na 301 by decide +kernel) (fw_c2 fw_si fw_si) (show 3 ≤ gm_ml 301 by decide +kernel) (Nat.le_of_ble_eq_true rfl) (by omega) (Nat.zero_le _) (Nat.zero_le _) ?_
  refine re_ol hE hT hN ⟨by omega, by omega⟩ ⟨by omega, by omega⟩ ?_
  show gm_Wp X LX d _ _ 322 6 _ [gm_vi (N (119 + (l * 7 + 2)))] n K _ _ Q
  refine gm_sz (gm_p_stor (pc := 6) (i := .istore_n 2) (sr := 0) (j := 2) (by decide +kernel) rfl (show 3 ≤ _ from Nat.le_of_ble_eq_true rfl) rfl) ?_
  refine gm_sz (gm_p_load (pc := 7) (i := .aload_n 0) (sr := 2) (j := 0) (by decide +kernel) rfl rfl rfl) ?_
  refine gm_sz (gm_p_load (pc := 8) (i := .aload_n 0) (sr := 2) (j := 0) (by decide +kernel) rfl rfl rfl) ?_
  refine gm_sz (gm_p_load (pc := 9) (i := .iload_n 1) (sr := 0) (j := 1) (by decide +kernel) rfl rfl rfl) ?_
  refine gm_sz (gm_p_const (pc := 10) (i := .iconst 1) (v := gm_vi 1) (by decide +kernel) (by decide +kernel)) ?_
  refine gm_c_virt (k := 226) (ci := 11) (mj := 301) (ix := 82) (pc := 11) (as := [gm_vi l, gm_vi 1]) (st := [gm_vr 226]) (d' := d - 1) (bc' := 0) (bs' := 0) (by decide +kernel) (by decide +kernel) (by decide +kernel) (by decide +kernel) (e0k hE (k := 226) (c := 11) (by decide +kernel)).1 (e0k hE (k := 226) (c := 11) (by decide +kernel)).2 (by decide) (by decide +kernel) (show 2 = gm_na 301 by decide +kernel) (fw_c2 fw_si fw_si) (show 3 ≤ gm_ml 301 by decide +kernel) (Nat.le_of_ble_eq_true rfl) (by omega) (Nat.zero_le _) (Nat.zero_le _) ?_
  refine re_ol hE hT hN ⟨by omega, by omega⟩ ⟨by omega, by omega⟩ ?_
  show gm_Wp X LX d _ _ 322 14 _ [gm_vi (N (119 + (l * 7 + 1))), gm_vr 226] n K _ _ Q
  refine gm_sz (gm_p_const (pc := 14) (i := .iconst 2) (v := gm_vi 2) (by decide +kernel) (by decide +kernel)) ?_
  refine gm_c_virt (k := 226) (ci := 11) (mj := 299) (ix := 396) (pc := 15) (as := [gm_vi (N (119 + (l * 7 + 1))), gm_vi 2]) (st := []) (d' := d - 1) (bc' := 0) (bs' := 0) (by decide +kernel) (by decide +kernel) (by decide +kernel) (by decide +kernel) (e0k hE (k := 226) (c := 11) (by decide +kernel)).1 (e0k hE (k := 226) (c := 11) (by decide +kernel)).2 (by decide) (by decide +kernel) (show 2 = gm_na 299 by decide +kernel) (fw_c2 fw_si fw_si) (show 3 ≤ gm_ml 299 by decide +kernel) (Nat.le_of_ble_eq_true rfl) (by omega) (Nat.zero_le _) (Nat.zero_le _) ?_
  refine re_of hE hT hN ⟨by omega, by omega⟩ ⟨by omega, by omega⟩ ?_
  show gm_Wp X LX d _ _ 322 18 _ [gm_vi (N (95 + ((N (119 + (l * 7 + 1))) * 3 + 2)))] n K _ _ Q
  refine gm_sz (gm_p_load (pc := 18) (i := .iload_n 2) (sr := 0) (j := 2) (by decide +kernel) rfl rfl rfl) ?_
  refine fw_ic (cc := .ne) (pc := 19) (off := 10) (by decide +kernel) (by decide) ⟨by omega, by omega⟩ ⟨by omega, by omega⟩ (fun h19 => ?_) (fun h19 => ?_)
  · have h19 : ¬ (N (95 + ((N (119 + (l * 7 + 1))) * 3 + 2))) = (N (119 + (l * 7 + 2))) := h19
    refine gm_sz (gm_p_const (pc := 29) (i := .iconst 0) (v := gm_vi 0) (by decide +kernel) (by decide +kernel)) ?_
    refine gm_sz (gm_p_stor (pc := 30) (i := .istore_n 3) (sr := 0) (j := 3) (by decide +kernel) rfl (show 4 ≤ _ from Nat.le_of_ble_eq_true rfl) rfl) ?_
    exact ro_l hd hE hT hN hst hmo hI h1 hr h29 hdp h19 hq (N 3).toNat 0 M (by omega) fr_0 rfl
  · have h19 : (N (95 + ((N (119 + (l * 7 + 1))) * 3 + 2))) = (N (119 + (l * 7 + 2))) := Classical.not_not.mp h19
    refine gm_sz (gm_p_load (pc := 22) (i := .aload_n 0) (sr := 2) (j := 0) (by decide +kernel) rfl rfl rfl) ?_
    refine gm_sz (gm_p_load (pc := 23) (i := .iload_n 1) (sr := 0) (j := 1) (by decide +kernel) rfl rfl rfl) ?_
    refine gm_sz (gm_p_const (pc := 24) (i := .iconst 1) (v := gm_vi 1) (by decide +kernel) (by decide +kernel)) ?_
    refine gm_c_virt (k := 226) (ci := 11) (mj := 301) (ix := 82) (pc := 25) (as := [gm_vi l, gm_vi 1]) (st := []) (d' := d - 1) (bc' := 0) (bs' := 0) (by decide +kernel) (by decide +kernel) (by decide +kernel) (by decide +kernel) (e0k hE (k := 226) (c := 11) (by decide +kernel)).1 (e0k hE (k := 226) (c := 11) (by decide +kernel)).2 (by decide) (by decide +kernel) (show 2 = gm_na 301 by decide +kernel) (fw_c2 fw_si fw_si) (show 3 ≤ gm_ml 301 by decide +kernel) (Nat.le_of_ble_eq_true rfl) (by omega) (Nat.zero_le _) (Nat.zero_le _) ?_
    refine re_ol hE hT hN ⟨by omega, by omega⟩ ⟨by omega, by omega⟩ ?_
    show gm_Wp X LX d _ _ 322 28 _ [gm_vi (N (119 + (l * 7 + 1)))] n K _ _ Q
    have e9 : opf N ψ l dp = N (119 + (l * 7 + 1)) := tif_t h19
    rw [e9] at hq
    exact gm_r_int (pc := 28) (by decide +kernel) (Or.inl (by decide +kernel)) (hq M fr_0)
end RO3
end
/-! 7a17.c8a -/
section
/-! WHAT AN ACT LEAVES ALONE: ways don't hang on who watches, who opened, NOW. -/
/-- the same valley, the same throws -/
noncomputable def geo (N N2 : Int → Int) : Prop := (∀ i, 0 ≤ i → i < 95 → ¬ i = 9 → ¬ i = 14 → N2 i = N i) ∧ ∀ l c, 0 ≤ l → l < 24 → 0 ≤ c → c < 5 → (N2 (119 + (l * 7 + c))) = (N (119 + (l * 7 + c)))
section GE
variable {N N2 N3 h : Int → Int} {sp : Int → Int → Int} {φ : Int → Int → Int → Int} {l o d : Int}
theorem geo_r : geo N N := ⟨fun _ _ _ _ _ => rfl, fun _ _ _ _ _ _ => rfl⟩
theorem geo_t (a : geo N N2) (b : geo N2 N3) : geo N N3 := ⟨fun i h1 h2 h3 h4 => (b.1 i h1 h2 h3 h4).trans (a.1 i h1 h2 h3 h4), fun l c h1 h2 h3 h4 => (b.2 l c h1 h2 h3 h4).trans (a.2 l c h1 h2 h3 h4)⟩
theorem nfl_geo (g : geo N N2) {y wo : Int} : ∀ (t : Nat) (r : Int), t ≤ 8 → nfl N2 y wo t r = nfl N y wo t r := by
  intro t
  induction t with
  | zero => intro r _; rfl
  | succ t ih =>
    intro r ht
    have e0 : (N2 (71 + ((t : Int) * 3 + 0))) = (N (71 + ((t : Int) * 3 + 0))) := g.1 _ (by omega) (by omega) (by omega) (by omega)
    have e1 : (N2 (71 + ((t : Int) * 3 + 1))) = (N (71 + ((t : Int) * 3 + 1))) := g.1 _ (by omega) (by omega) (by omega) (by omega)
    have e2 : (N2 (71 + ((t : Int) * 3 + 2))) = (N (71 + ((t : Int) * 3 + 2))) := g.1 _ (by omega) (by omega) (by omega) (by omega)
    show (if ¬ (t : Int) = wo ∧ (N2 (71 + ((t : Int) * 3 + 0))) = y ∧ (N2 (71 + ((t : Int) * 3 + 1))) ≤ nfl N2 y wo t r then nfl N2 y wo t r + (N2 (71 + ((t : Int) * 3 + 2))) else nfl N2 y wo t r) = (if ¬ (t : Int) = wo ∧ (N (71 + ((t : Int) * 3 + 0))) = y ∧ (N (71 + ((t : Int) * 3 + 1))) ≤ nfl N y wo t r then nfl N y wo t r + (N (71 + ((t : Int) * 3 + 2))) else nfl N y wo t r)
    rw [ih r (by omega), e0, e1, e2]
theorem nwy_geo (g : geo N N2) (h5 : 0 ≤ N 5 ∧ N 5 ≤ 8) {lane rk wo y0 r0 : Int} : ∀ k : Nat, nwy N2 h φ lane rk wo y0 r0 k = nwy N h φ lane rk wo y0 r0 k := by
  have e1 : N2 1 = N 1 := g.1 1 (by decide) (by decide) (by decide) (by decide)
  have e5 : N2 5 = N 5 := g.1 5 (by decide) (by decide) (by decide) (by decide)
  have e10 : N2 10 = N 10 := g.1 10 (by decide) (by decide) (by decide) (by decide)
  have e11 : N2 11 = N 11 := g.1 11 (by decide) (by decide) (by decide) (by decide)
  intro k
  induction k with
  | zero => rfl
  | succ k ih =>
    show nst N2 h φ lane rk wo (y0 + (k : Int)) (nwy N2 h φ lane rk wo y0 r0 k) = nst N h φ lane rk wo (y0 + (k : Int)) (nwy N h φ lane rk wo y0 r0 k)
    rw [ih]
    unfold nst ndp
    rw [e1, e5, e10, e11, nfl_geo g _ _ (by omega)]
theorem OUTR_geo (g : geo N N2) (h5 : 0 ≤ N 5 ∧ N 5 ≤ 8) (hl : 0 ≤ l ∧ l < 24) (a : OUTR N h φ l o d) : OUTR N2 h φ l o d := by
  have e1 : N2 1 = N 1 := g.1 1 (by decide) (by decide) (by decide) (by decide)
  have l0 := g.2 l 0 hl.1 hl.2 (by decide) (by decide)
  have l2 := g.2 l 2 hl.1 hl.2 (by decide) (by decide)
  have l3 := g.2 l 3 hl.1 hl.2 (by decide) (by decide)
  have l4 := g.2 l 4 hl.1 hl.2 (by decide) (by decide)
  unfold OUTR at a ⊢
  rw [l0, l2, l3, l4, e1]
  rcases a with ⟨a1, a2⟩ | ⟨j, a1, a2, a3, a4, a5⟩
  · exact Or.inl ⟨a1, fun j hj => by rw [nwy_geo g h5]; exact a2 j hj⟩
  · exact Or.inr ⟨j, a1, a2, by rw [nwy_geo g h5]; exact a3, fun i hi => by rw [nwy_geo g h5]; exact a4 i hi, by rw [nwy_geo g h5]; exact a5⟩
theorem fbit_geo (g : geo N N2) {y b : Int} (a : fbit N y b) : fbit N2 y b := by
  have e5 : N2 5 = N 5 := g.1 5 (by decide) (by decide) (by decide) (by decide)
  intro f hf
  have e : (N2 (71 + ((f : Int) * 3 + 0))) = (N (71 + ((f : Int) * 3 + 0))) := g.1 _ (by omega) (by omega) (by omega) (by omega)
  rw [e5, e]
  exact a f hf
theorem ti_geo (g : geo N N2) {M M2 : gm_M} (hT : TI N h sp M) (hC : CST M2) (hc : cs M2 3 = N2) (he : ∀ k j, 201 ≤ k → k ≤ 203 → M2 k j = M k j) : TI N2 h sp M2 := by
  refine ⟨hC, hc, fun y y1 y2 => ?_, fun l r l1 l2 r1 r2 => ?_⟩
  · rw [he 201 y (by decide) (by decide), he 203 y (by decide) (by decide)]
    obtain ⟨a, b, c, e⟩ := hT.2.2.1 y y1 y2
    exact ⟨a, b, c, fbit_geo g e⟩
  · rw [he 202 _ (by decide) (by decide)]
    exact hT.2.2.2 l r l1 l2 r1 r2
-- the acts
theorem geo_nyr : geo N (nyr N) := ⟨fun i h1 h2 h3 h4 => nup_ne h3, fun l c h1 h2 h3 h4 => nup_ne (by omega)⟩
theorem geo_nopn {p : Int} (hl : 0 ≤ l ∧ l < 24) (ho : 0 ≤ N 14 ∧ N 14 < 24) : geo N (nopn N l p) := by
  refine ⟨fun i h1 h2 h3 h4 => ?_, fun k c h1 h2 h3 h4 => ?_⟩
  · unfold nopn
    rw [nup_ne (by omega), nup_ne (by omega), nup_ne (by omega), nup_ne h4, nup_ne (by omega), nup_ne (by omega)]
  · show nopn N l p (119 + (k * 7 + c)) = N (119 + (k * 7 + c))
    unfold nopn
    rw [nup_ne (by omega), nup_ne (by omega), nup_ne (by omega), nup_ne (by omega), nup_ne (by omega), nup_ne (by omega)]
theorem geo_nwat {p w : Int} (hp : 0 ≤ p ∧ p < 8) : geo N (nwat N p w) := ⟨fun i h1 h2 h3 h4 => nup_ne (by omega), fun l c h1 h2 h3 h4 => nup_ne (by omega)⟩
theorem nopn_L {p k c : Int} (hl : 0 ≤ l ∧ l < 24) (ho : 0 ≤ N 14 ∧ N 14 < 24) (hk : 0 ≤ k ∧ k < 24) (hc : 0 ≤ c ∧ c < 7) : ((nopn N l p) (119 + (k * 7 + c))) = if k = l ∧ c = 5 then p else if k = l ∧ c = 6 then N 9 else (N (119 + (k * 7 + c))) := by
  show nopn N l p (119 + (k * 7 + c)) = _
  unfold nopn
  rw [nup_ne (by omega), nup_ne (by omega), nup_ne (by omega), nup_ne (by omega)]
  by_cases h6 : k = l ∧ c = 6
  · obtain ⟨rfl, rfl⟩ := h6
    rw [nup_at, if_neg (by omega), if_pos ⟨rfl, rfl⟩]
  · rw [nup_ne (by omega)]
    by_cases h5 : k = l ∧ c = 5
    · obtain ⟨rfl, rfl⟩ := h5
      rw [nup_at, if_pos ⟨rfl, rfl⟩]
    · rw [nup_ne (by omega), if_neg h5, if_neg h6]
theorem nopn_o {p i : Int} (h0 : 0 ≤ i ∧ i < 119) (h14 : ¬ i = 14) (hl : 0 ≤ l ∧ l < 24) (ho : 0 ≤ N 14 ∧ N 14 < 24) : nopn N l p i = N i := by
  unfold nopn
  rw [nup_ne (by omega), nup_ne (by omega), nup_ne (by omega), nup_ne h14, nup_ne (by omega), nup_ne (by omega)]
theorem nopn_14 {p : Int} (hl : 0 ≤ l ∧ l < 24) (ho : 0 ≤ N 14 ∧ N 14 < 24) : nopn N l p 14 = N 14 + 1 := by
  unfold nopn
  rw [nup_ne (by omega), nup_ne (by omega), nup_ne (by omega), nup_at]
/-- how many of the first k are opened -/
noncomputable def nop (N : Int → Int) : Nat → Int
  | 0 => 0
  | k + 1 => nop N k + (if (N (119 + ((k : Int) * 7 + 5))) = -1 then 0 else 1)
/-- the log holds them all -/
noncomputable def LOGI (N : Int → Int) : Prop := N 14 = nop N (N 4).toNat
theorem nop_b : ∀ k : Nat, 0 ≤ nop N k ∧ nop N k ≤ (k : Int) := by
  intro k
  induction k with
  | zero => exact ⟨Int.le_refl _, Int.le_refl _⟩
  | succ k ih =>
    unfold nop
    split <;> exact ⟨by omega, by omega⟩
theorem nop_lt {u : Nat} (h : (N (119 + ((u : Int) * 7 + 5))) = -1) : ∀ k : Nat, u < k → nop N k + 1 ≤ (k : Int) := by
  intro k
  induction k with
  | zero => intro hu; omega
  | succ k ih =>
    intro hu
    have b := nop_b (N := N) k
    unfold nop
    by_cases e : u = k
    · subst e
      rw [if_pos h]
      omega
    · have := ih (by omega)
      split <;> omega
theorem nop_e : ∀ k : Nat, (∀ u : Nat, u < k → ((N2 (119 + ((u : Int) * 7 + 5))) = -1 ↔ (N (119 + ((u : Int) * 7 + 5))) = -1)) → nop N2 k = nop N k := by
  intro k
  induction k with
  | zero => intro _; rfl
  | succ k ih =>
    intro h
    unfold nop
    rw [ih (fun u hu => h u (by omega))]
    by_cases e : (N (119 + ((k : Int) * 7 + 5))) = -1
    · rw [if_pos e, if_pos ((h k (by omega)).mpr e)]
    · rw [if_neg e, if_neg (fun hh => e ((h k (by omega)).mp hh))]
theorem nop_o {p : Int} {u : Nat} (hu : u < 24) (ho : 0 ≤ N 14 ∧ N 14 < 24) (h : (N (119 + ((u : Int) * 7 + 5))) = -1) (hp : ¬ p = -1) : ∀ k : Nat, k ≤ 24 → nop (nopn N (u : Int) p) k = nop N k + (if u < k then 1 else 0) := by
  intro k
  induction k with
  | zero => intro _; rfl
  | succ k ih =>
    intro hk
    have e := nopn_L (N := N) (l := (u : Int)) (p := p) (k := (k : Int)) (c := 5) ⟨by omega, by omega⟩ ho ⟨by omega, by omega⟩ (by decide)
    show nop (nopn N (u : Int) p) k + (if ((nopn N (u : Int) p) (119 + ((k : Int) * 7 + 5))) = -1 then 0 else 1) = nop N k + (if (N (119 + ((k : Int) * 7 + 5))) = -1 then 0 else 1) + _
    rw [ih (by omega), e]
    by_cases e9 : u = k
    · subst e9
      rw [if_pos (show (u : Int) = (u : Int) ∧ (5 : Int) = 5 from ⟨rfl, rfl⟩), if_neg hp, if_pos h, if_neg (Nat.lt_irrefl u), if_pos (Nat.lt_succ_self u)]
    · rw [if_neg (show ¬ ((k : Int) = (u : Int) ∧ (5 : Int) = 5) by omega), if_neg (show ¬ ((k : Int) = (u : Int) ∧ (5 : Int) = 6) by omega)]
      by_cases e8 : u < k
      · rw [if_pos e8, if_pos (show u < k + 1 by omega)]
        omega
      · rw [if_neg e8, if_neg (show ¬ u < k + 1 by omega)]
        omega
theorem logi_lt (hN : NR N) (hg : LOGI N) (hl : 0 ≤ l ∧ l < N 4) (h : (N (119 + (l * 7 + 5))) = -1) : 0 ≤ N 14 ∧ N 14 < 24 := by
  obtain ⟨u, rfl⟩ : ∃ u : Nat, l = (u : Int) := ⟨l.toNat, by omega⟩
  have b4 := hN.2.1.2.2.2.1
  have := nop_lt h (N 4).toNat (by omega)
  have b := nop_b (N := N) (N 4).toNat
  have hg : N 14 = nop N (N 4).toNat := hg
  exact ⟨by omega, by omega⟩
theorem logi_nopn {p : Int} (hN : NR N) (hg : LOGI N) (hl : 0 ≤ l ∧ l < N 4) (h : (N (119 + (l * 7 + 5))) = -1) (hp : ¬ p = -1) : LOGI (nopn N l p) := by
  have ho := logi_lt hN hg hl h
  have b4 := hN.2.1.2.2.2.1
  have hg : N 14 = nop N (N 4).toNat := hg
  have hl9 : 0 ≤ l ∧ l < 24 := ⟨hl.1, by omega⟩
  unfold LOGI
  rw [nopn_14 hl9 ho, nopn_o (i := 4) (by decide) (by decide) hl9 ho]
  obtain ⟨u, rfl⟩ : ∃ u : Nat, l = (u : Int) := ⟨l.toNat, by omega⟩
  rw [nop_o (by omega) ho h hp _ (by omega), if_pos (by omega)]
  omega
theorem nr_nopn {p : Int} (hN : NR N) (hl : 0 ≤ l ∧ l < N 4) (ho : 0 ≤ N 14 ∧ N 14 < 24) (hp : 0 ≤ p ∧ p < N 3) : NR (nopn N l p) := by
  have b4 := hN.2.1.2.2.2.1
  have hl9 : 0 ≤ l ∧ l < 24 := ⟨hl.1, by omega⟩
  have e : ∀ i, 0 ≤ i ∧ i < 119 → ¬ i = 14 → nopn N l p i = N i := fun i h0 h1 => nopn_o h0 h1 hl9 ho
  obtain ⟨⟨c0, c1, c10, c11, c12, c9⟩, ⟨c2, c5, c3, c4, c6, c14, c7, c13⟩, rF, rP, rL⟩ := id hN
  refine ⟨?_, ?_, fun f f0 f1 => ?_, fun q q0 q1 => ?_, fun k k0 k1 => ?_⟩
  · rw [e 0 (by decide) (by decide), e 1 (by decide) (by decide), e 10 (by decide) (by decide), e 11 (by decide) (by decide), e 12 (by decide) (by decide), e 9 (by decide) (by decide)]
    exact ⟨c0, c1, c10, c11, c12, c9⟩
  · rw [e 2 (by decide) (by decide), e 5 (by decide) (by decide), e 3 (by decide) (by decide), e 4 (by decide) (by decide), e 6 (by decide) (by decide), e 7 (by decide) (by decide), e 13 (by decide) (by decide), nopn_14 hl9 ho]
    exact ⟨c2, c5, c3, c4, c6, ⟨by omega, by omega⟩, c7, c13⟩
  · rw [e 5 (by decide) (by decide)] at f1
    show (0 ≤ nopn N l p (71 + (f * 3 + 0)) ∧ nopn N l p (71 + (f * 3 + 0)) ≤ 299) ∧ (0 ≤ nopn N l p (71 + (f * 3 + 1)) ∧ nopn N l p (71 + (f * 3 + 1)) < nopn N l p 1) ∧ (0 ≤ nopn N l p (71 + (f * 3 + 2)) ∧ nopn N l p (71 + (f * 3 + 2)) ≤ 20)
    rw [e (71 + (f * 3 + 0)) ⟨by omega, by omega⟩ (by omega), e (71 + (f * 3 + 1)) ⟨by omega, by omega⟩ (by omega), e (71 + (f * 3 + 2)) ⟨by omega, by omega⟩ (by omega), e 1 (by decide) (by decide)]
    exact rF f f0 f1
  · rw [e 3 (by decide) (by decide)] at q1
    show (0 ≤ nopn N l p (95 + (q * 3 + 0)) ∧ nopn N l p (95 + (q * 3 + 0)) < nopn N l p 0) ∧ (0 ≤ nopn N l p (95 + (q * 3 + 1)) ∧ nopn N l p (95 + (q * 3 + 1)) < nopn N l p 1) ∧ (-1 ≤ nopn N l p (95 + (q * 3 + 2)) ∧ nopn N l p (95 + (q * 3 + 2)) < nopn N l p 0)
    rw [e (95 + (q * 3 + 0)) ⟨by omega, by omega⟩ (by omega), e (95 + (q * 3 + 1)) ⟨by omega, by omega⟩ (by omega), e (95 + (q * 3 + 2)) ⟨by omega, by omega⟩ (by omega), e 0 (by decide) (by decide), e 1 (by decide) (by decide)]
    exact rP q q0 q1
  · rw [e 4 (by decide) (by decide)] at k1
    have k9 : 0 ≤ k ∧ k < 24 := ⟨k0, by omega⟩
    obtain ⟨d0, d1, d2, d3, d4, d5, d6, d7⟩ := rL k k0 k1
    rw [nopn_L hl9 ho k9 (by decide), nopn_L hl9 ho k9 (by decide), nopn_L hl9 ho k9 (by decide), nopn_L hl9 ho k9 (by decide), nopn_L hl9 ho k9 (by decide), nopn_L hl9 ho k9 (by decide), nopn_L hl9 ho k9 (by decide), e 3 (by decide) (by decide), e 0 (by decide) (by decide), e 9 (by decide) (by decide), e 1 (by decide) (by decide)]
    rw [if_neg (show ¬ (k = l ∧ (0 : Int) = 5) by omega), if_neg (show ¬ (k = l ∧ (0 : Int) = 6) by omega), if_neg (show ¬ (k = l ∧ (1 : Int) = 5) by omega), if_neg (show ¬ (k = l ∧ (1 : Int) = 6) by omega), if_neg (show ¬ (k = l ∧ (2 : Int) = 5) by omega), if_neg (show ¬ (k = l ∧ (2 : Int) = 6) by omega), if_neg (show ¬ (k = l ∧ (3 : Int) = 5) by omega), if_neg (show ¬ (k = l ∧ (3 : Int) = 6) by omega), if_neg (show ¬ (k = l ∧ (4 : Int) = 5) by omega), if_neg (show ¬ (k = l ∧ (4 : Int) = 6) by omega), if_neg (show ¬ (k = l ∧ (6 : Int) = 5) by omega)]
    refine ⟨d0, d1, d2, d3, d4, ?_, ?_, d7⟩
    · by_cases h5 : k = l ∧ (5 : Int) = 5
      · rw [if_pos h5]
        exact ⟨by omega, hp.2⟩
      · rw [if_neg h5, if_neg (show ¬ (k = l ∧ (5 : Int) = 6) by omega)]
        exact d5
    · by_cases h6 : k = l ∧ (6 : Int) = 6
      · rw [if_pos h6]
        exact ⟨by omega, c9.2⟩
      · rw [if_neg h6]
        exact d6
theorem nr_nyr (hN : NR N) (h9 : N 9 < 299) : NR (nyr N) := by
  have e : ∀ i, ¬ i = 9 → nyr N i = N i := fun i h => nup_ne h
  have e9 : nyr N 9 = N 9 + 1 := nup_at
  obtain ⟨⟨c0, c1, c10, c11, c12, c9⟩, ⟨c2, c5, c3, c4, c6, c14, c7, c13⟩, rF, rP, rL⟩ := id hN
  have eL : ∀ k c, 0 ≤ k → 0 ≤ c → ((nyr N) (119 + (k * 7 + c))) = (N (119 + (k * 7 + c))) := fun k c h1 h2 => e _ (by omega)
  have eP : ∀ k c, 0 ≤ k → 0 ≤ c → ((nyr N) (95 + (k * 3 + c))) = (N (95 + (k * 3 + c))) := fun k c h1 h2 => e _ (by omega)
  have eF : ∀ k c, 0 ≤ k → 0 ≤ c → ((nyr N) (71 + (k * 3 + c))) = (N (71 + (k * 3 + c))) := fun k c h1 h2 => e _ (by omega)
  refine ⟨?_, ?_, fun f f0 f1 => ?_, fun q q0 q1 => ?_, fun k k0 k1 => ?_⟩
  · rw [e 0 (by decide), e 1 (by decide), e 10 (by decide), e 11 (by decide), e 12 (by decide), e9]
    exact ⟨c0, c1, c10, c11, c12, by omega, by omega⟩
  · rw [e 2 (by decide), e 5 (by decide), e 3 (by decide), e 4 (by decide), e 6 (by decide), e 14 (by decide), e 7 (by decide), e 13 (by decide)]
    exact ⟨c2, c5, c3, c4, c6, c14, c7, c13⟩
  · rw [e 5 (by decide)] at f1
    rw [eF f 0 f0 (by decide), eF f 1 f0 (by decide), eF f 2 f0 (by decide), e 1 (by decide)]
    exact rF f f0 f1
  · rw [e 3 (by decide)] at q1
    rw [eP q 0 q0 (by decide), eP q 1 q0 (by decide), eP q 2 q0 (by decide), e 0 (by decide), e 1 (by decide)]
    exact rP q q0 q1
  · rw [e 4 (by decide)] at k1
    rw [eL k 0 k0 (by decide), eL k 1 k0 (by decide), eL k 2 k0 (by decide), eL k 3 k0 (by decide), eL k 4 k0 (by decide), eL k 5 k0 (by decide), eL k 6 k0 (by decide), e 3 (by decide), e 0 (by decide), e9, e 1 (by decide)]
    obtain ⟨d0, d1, d2, d3, d4, d5, d6, d7⟩ := rL k k0 k1
    exact ⟨d0, d1, d2, ⟨d3.1, by omega⟩, d4, d5, d6, d7⟩
theorem logi_nyr (hg : LOGI N) : LOGI (nyr N) := by
  have hg : N 14 = nop N (N 4).toNat := hg
  unfold LOGI
  rw [show nyr N 14 = N 14 from nup_ne (by decide), show nyr N 4 = N 4 from nup_ne (by decide), hg]
  refine (nop_e _ (fun u hu => ?_)).symm
  rw [show ((nyr N) (119 + ((u : Int) * 7 + 5))) = (N (119 + ((u : Int) * 7 + 5))) from nup_ne (by omega)]
/-- what one letter does in a year more: the world, how many opened -/
noncomputable def ystep (Ψ : (Int → Int) → Int → Int → Int → Int → Prop) (o dd : Int → Int) (l : Int) (s : (Int → Int) × Int) : (Int → Int) × Int := tif (WTS s.1 l (o l) ∧ ¬ opf s.1 (Ψ s.1) l (dd l) = -1) (nopn s.1 l (opf s.1 (Ψ s.1) l (dd l)), s.2 + 1) s
noncomputable def yrun (Ψ : (Int → Int) → Int → Int → Int → Int → Prop) (o dd : Int → Int) (s : (Int → Int) × Int) : Nat → (Int → Int) × Int
  | 0 => s
  | k + 1 => ystep Ψ o dd (k : Int) (yrun Ψ o dd s k)
end GE
end
/-! 7a18.c8ym -/
section
/-! THE CLASS: one year more (laid by wip/core/c8.py). -/
section YM8
variable {X : Int → Int} {LX d bc bs n : Nat} {K : gm_K} {R : gm_R} {M : gm_M} {Q : gm_Q} {l p c : Int} {N h : Int → Int} {sp : Int → Int → Int} {FI : gm_M → Prop} {Ψ : (Int → Int) → Int → Int → Int → Int → Prop} {o dd : Int → Int}
theorem cs_op_fr : fr [(11, none), (14, some 3), (15, none)] M (cs_op M l p) := by
  unfold cs_op
  exact fr_p (fr_p (fr_p (fr_p (fr_p (fr_p fr_0 (Or.inl (by decide))) (Or.inl (by decide))) (Or.inr (by decide))) (Or.inl (by decide))) (Or.inl (by decide))) (Or.inl (by decide))
/-- the ends, told by functions -/
noncomputable def ENF (N : Int → Int) (o dd : Int → Int) (M : gm_M) : Prop := M 220 3 = N 4 ∧ ∀ l, 0 ≤ l → l < N 4 → M 221 (l * 2 + 0) = o l ∧ M 221 (l * 2 + 1) = dd l ∧ -1 ≤ o l ∧ o l ≤ 299
theorem opf_b {ψ : Int → Int → Int → Int → Prop} {dp : Int} (hN : NR N) (h1 : 0 ≤ l ∧ l < N 4) (hr : 0 ≤ (N (119 + (l * 7 + 0)))) : -1 ≤ opf N ψ l dp ∧ opf N ψ l dp < N 3 := by
  obtain ⟨-, r1, -, -, -, -, -, r7⟩ := hN.2.2.2.2 l h1.1 h1.2
  have r8 := r7 hr
  have b3 := hN.2.1.2.2.1
  unfold opf
  by_cases h : (N (95 + (((N (119 + (l * 7 + 1)))) * 3 + 2))) = (N (119 + (l * 7 + 2)))
  · rw [tif_t h]
    exact ⟨by omega, r1.2⟩
  · rw [tif_f h]
    obtain ⟨a, b, -⟩ := fo_b (C := wop N ψ l dp) (N 3).toNat 0 (Int.le_refl _)
    exact ⟨a, by omega⟩
theorem ym_b (hd : 5 ≤ d) (hE : E0 n K R) (hT : TI N h sp M) (hN : NR N) (hg : LOGI N) (hst : FSt FI) (hmo : MOW X LX n K R N h sp FI (Ψ N)) (hI : FI M) (hen : ENF N o dd M) (h1 : 0 ≤ l ∧ l < N 4) (hc : 0 ≤ c ∧ c ≤ 24) (hq : ∀ z M2, fr [(3, some 6), (11, none), (14, some 3), (15, none), (204, none)] M M2 → cs M2 3 = (ystep Ψ o dd l (N, c)).1 → gm_Wp X LX d bc bs 162 17 [some (gm_vr 1), some (gm_vi (ystep Ψ o dd l (N, c)).2), some (gm_vi (l + 1)), z] [] n K R M2 Q) (z : Option gm_V) : gm_Wp X LX d bc bs 162 17 [some (gm_vr 1), some (gm_vi c), some (gm_vi l), z] [] n K R M Q := by
  obtain ⟨⟨⟨a0, b0⟩, ⟨a1, b1⟩, ⟨a10, b10⟩, ⟨a11, b11⟩, ⟨a12, b12⟩, a9, b9⟩, ⟨⟨a2, b2⟩, ⟨a5, b5⟩, ⟨a3, b3⟩, ⟨a4, b4⟩, ⟨a6, b6⟩, ⟨a14, b14⟩, ⟨a7, b7⟩, a13, b13⟩, rF, rP, rL⟩ := id hN
  obtain ⟨h3, hen9⟩ := hen
  obtain ⟨ho, hdp, hob⟩ := hen9 l h1.1 h1.2
  have hl24 : 0 ≤ l ∧ l < 24 := ⟨h1.1, by omega⟩
  have r9 := (rL l h1.1 h1.2).1
  have fo9 := fo_b (C := wop N (Ψ N) l (dd l)) (N 3).toNat 0 (Int.le_refl _)

  refine gm_sz (gm_p_load (pc := 17) (i := .iload_n 2) (sr := 0) (j := 2) (by decide +kernel) rfl rfl rfl) ?_
  refine gm_sz (gm_p_load (pc := 18) (i := .aload_n 0) (sr := 2) (j := 0) (by decide +kernel) rfl rfl rfl) ?_
  refine gm_sz (fw_gr (pc := 19) (ix := 23) (ci := 0) (j := 3) (r := 3) (by decide +kernel) (e0k hE (k := 1) (c := 0) (by decide +kernel)) (by decide +kernel) (by decide +kernel) (e0r hE (k := 1) (j := 3) (r := 3) (by decide +kernel))) ?_
  refine gm_sz (fw_gr (pc := 22) (ix := 203) (ci := 1) (j := 12) (r := 10) (by decide +kernel) (e0k hE (k := 3) (c := 1) (by decide +kernel)) (by decide +kernel) (by decide +kernel) (e0r hE (k := 3) (j := 12) (r := 10) (by decide +kernel))) ?_
  refine gm_c_virt (k := 10) (ci := 2) (mj := 9) (ix := 277) (pc := 25) (as := []) (st := [gm_vi l]) (d' := d - 1) (bc' := 0) (bs' := 0) (by decide +kernel) (by decide +kernel) (by decide +kernel) (by decide +kernel) (e0k hE (k := 10) (c := 2) (by decide +kernel)).1 (e0k hE (k := 10) (c := 2) (by decide +kernel)).2 (by decide) (by decide +kernel) (show 0 = gm_na 9 by decide +kernel) fw_c0 (show 1 ≤ gm_ml 9 by decide +kernel) (Nat.le_of_ble_eq_true rfl) (by omega) (Nat.zero_le _) (Nat.zero_le _) ?_
  refine rw_size (s := N 4) (e0k hE (k := 10) (c := 2) (by decide +kernel)) (ti_let hT) ?_
  show gm_Wp X LX d _ _ 162 28 _ [gm_vi (N 4), gm_vi l] n K _ _ Q
  refine fw_icf (cc := .ge) (pc := 28) (off := 40) (by decide +kernel) (by decide) ⟨by omega, by omega⟩ ⟨by omega, by omega⟩ (show ¬ (N 4) ≤ l by omega) ?_
  refine gm_sz (gm_p_load (pc := 31) (i := .aload_n 0) (sr := 2) (j := 0) (by decide +kernel) rfl rfl rfl) ?_
  refine gm_sz (gm_p_load (pc := 32) (i := .iload_n 2) (sr := 0) (j := 2) (by decide +kernel) rfl rfl rfl) ?_
  refine gm_c_virt (k := 1) (ci := 0) (mj := 66) (ix := 257) (pc := 33) (as := [gm_vi l]) (st := []) (d' := d - 1) (bc' := 0) (bs' := 0) (by decide +kernel) (by decide +kernel) (by decide +kernel) (by decide +kernel) (e0k hE (k := 1) (c := 0) (by decide +kernel)).1 (e0k hE (k := 1) (c := 0) (by decide +kernel)).2 (by decide) (by decide +kernel) (show 1 = gm_na 66 by decide +kernel) (fw_c1 fw_si) (show 2 ≤ gm_ml 66 by decide +kernel) (Nat.le_of_ble_eq_true rfl) (by omega) (Nat.zero_le _) (Nat.zero_le _) ?_
  refine wt_c66 (by omega) hE hT hN h1 h3 ho hob (fun v33 => ?_) (fun v33 => ?_)
  · show gm_Wp X LX d _ _ 162 36 _ [gm_vi 1] n K _ _ Q
    have w33 : 0 ≤ (N (119 + (l * 7 + 0))) := by have := v33.1; omega
    refine fw_iffd (cc := .eq) (pc := 36) (off := 26) (by decide +kernel) (by decide) ⟨by decide, by decide⟩ (by decide) ?_
    refine gm_sz (gm_p_load (pc := 39) (i := .aload_n 0) (sr := 2) (j := 0) (by decide +kernel) rfl rfl rfl) ?_
    refine gm_sz (gm_p_load (pc := 40) (i := .iload_n 2) (sr := 0) (j := 2) (by decide +kernel) rfl rfl rfl) ?_
    refine gm_c_virt (k := 1) (ci := 0) (mj := 163) (ix := 280) (pc := 41) (as := [gm_vi l]) (st := []) (d' := d - 1) (bc' := 0) (bs' := 0) (by decide +kernel) (by decide +kernel) (by decide +kernel) (by decide +kernel) (e0k hE (k := 1) (c := 0) (by decide +kernel)).1 (e0k hE (k := 1) (c := 0) (by decide +kernel)).2 (by decide) (by decide +kernel) (show 1 = gm_na 163 by decide +kernel) (fw_c1 fw_si) (show 2 ≤ gm_ml 163 by decide +kernel) (Nat.le_of_ble_eq_true rfl) (by omega) (Nat.zero_le _) (Nat.zero_le _) ?_
    refine op_c163 (dp := dd l) (by omega) hE hT hN hst hmo hI h1 w33 h3 hdp (fun M41 hf41 => ?_)
    show gm_Wp X LX d _ _ 162 44 _ [gm_vi (opf N (Ψ N) l (dd l))] n K _ _ Q
    have b41 := opf_b (ψ := Ψ N) (dp := dd l) hN h1 w33
    refine gm_sz (gm_p_stor (pc := 44) (i := .istore_n 3) (sr := 0) (j := 3) (by decide +kernel) rfl (show 4 ≤ _ from Nat.le_of_ble_eq_true rfl) rfl) ?_
    refine gm_sz (gm_p_load (pc := 45) (i := .iload_n 3) (sr := 0) (j := 3) (by decide +kernel) rfl rfl rfl) ?_
    refine gm_sz (gm_p_const (pc := 46) (i := .iconst (-1)) (v := gm_vi (-1)) (by decide +kernel) (by decide +kernel)) ?_
    refine fw_ic (cc := .eq) (pc := 47) (off := 15) (by decide +kernel) (by decide) ⟨by omega, by omega⟩ ⟨by decide, by decide⟩ (fun h47 => ?_) (fun h47 => ?_)
    · have h47 : (opf N (Ψ N) l (dd l)) = (-1) := h47
      refine gm_sz (gm_p_iinc (pc := 62) (j := 2) (z := 1) (by decide +kernel) rfl) ?_
      refine gm_sz (gm_p_goto (pc := 65) (off := (-48)) (by decide +kernel) (by decide)) ?_
      have e9 : ystep Ψ o dd l (N, c) = (N, c) := tif_f (fun hh => hh.2 h47)
      rw [e9] at hq
      exact hq _ _ (fr_t fr_0 hf41 (by decide)) (ti_fr (W := [(204, none)]) hT hf41 (by decide) (by decide +kernel)).2.1
    · have h47 : ¬ (opf N (Ψ N) l (dd l)) = (-1) := h47
      refine gm_sz (gm_p_load (pc := 50) (i := .aload_n 0) (sr := 2) (j := 0) (by decide +kernel) rfl rfl rfl) ?_
      refine gm_sz (fw_gr (pc := 51) (ix := 23) (ci := 0) (j := 3) (r := 3) (by decide +kernel) (e0k hE (k := 1) (c := 0) (by decide +kernel)) (by decide +kernel) (by decide +kernel) (e0r hE (k := 1) (j := 3) (r := 3) (by decide +kernel))) ?_
      refine gm_sz (gm_p_load (pc := 54) (i := .iload_n 2) (sr := 0) (j := 2) (by decide +kernel) rfl rfl rfl) ?_
      refine gm_sz (gm_p_load (pc := 55) (i := .iload_n 3) (sr := 0) (j := 3) (by decide +kernel) rfl rfl rfl) ?_
      refine gm_c_virt (k := 3) (ci := 1) (mj := 159) (ix := 266) (pc := 56) (as := [gm_vi l, gm_vi (opf N (Ψ N) l (dd l))]) (st := []) (d' := d - 1) (bc' := 0) (bs' := 0) (by decide +kernel) (by decide +kernel) (by decide +kernel) (by decide +kernel) (e0k hE (k := 3) (c := 1) (by decide +kernel)).1 (e0k hE (k := 3) (c := 1) (by decide +kernel)).2 (by decide) (by decide +kernel) (show 2 = gm_na 159 by decide +kernel) (fw_c2 fw_si fw_si) (show 3 ≤ gm_ml 159 by decide +kernel) (Nat.le_of_ble_eq_true rfl) (by omega) (Nat.zero_le _) (Nat.zero_le _) ?_
      refine cs_opn (by omega) hE (cst_fr (W := [(204, none)]) hT.1 (fr_t fr_0 hf41 (by decide)) (by decide +kernel)) (by rw [ti_let (ti_fr (W := [(204, none)]) hT (fr_t fr_0 hf41 (by decide)) (by decide) (by decide +kernel))]; exact h1) (by rw [ti_let (ti_fr (W := [(204, none)]) hT (fr_t fr_0 hf41 (by decide)) (by decide) (by decide +kernel))]; omega) (by rw [ti_ope (ti_fr (W := [(204, none)]) hT (fr_t fr_0 hf41 (by decide)) (by decide) (by decide +kernel))]; exact logi_lt hN hg h1 v33.2.1) ?_
      show gm_Wp X LX d _ _ 162 59 _ [] n K _ _ Q
      refine gm_sz (gm_p_iinc (pc := 59) (j := 1) (z := 1) (by decide +kernel) rfl) ?_
      refine gm_sz (gm_p_iinc (pc := 62) (j := 2) (z := 1) (by decide +kernel) rfl) ?_
      refine gm_sz (gm_p_goto (pc := 65) (off := (-48)) (by decide +kernel) (by decide)) ?_
      have e9 : ystep Ψ o dd l (N, c) = (nopn N l (opf N (Ψ N) l (dd l)), c + 1) := tif_t ⟨v33, h47⟩
      rw [e9] at hq
      exact hq _ _ (fr_t (fr_t fr_0 hf41 (by decide)) cs_op_fr (by decide)) (cs_op_n (ti_fr (W := [(204, none)]) hT hf41 (by decide) (by decide +kernel)).2.1 hl24 (logi_lt hN hg h1 v33.2.1))
  · show gm_Wp X LX d _ _ 162 36 _ [gm_vi 0] n K _ _ Q
    refine fw_iftd (cc := .eq) (pc := 36) (off := 26) (by decide +kernel) (by decide) ⟨by decide, by decide⟩ (by decide) ?_
    refine gm_sz (gm_p_iinc (pc := 62) (j := 2) (z := 1) (by decide +kernel) rfl) ?_
    refine gm_sz (gm_p_goto (pc := 65) (off := (-48)) (by decide +kernel) (by decide)) ?_
    have e9 : ystep Ψ o dd l (N, c) = (N, c) := tif_f (fun hh => v33 hh.1)
    rw [e9] at hq
    exact hq _ _ fr_0 hT.2.1
theorem ym_e (hd : 1 ≤ d) (hE : E0 n K R) (hT : TI N h sp M) (hN : NR N) (h1 : l = N 4) (hq : Q (.inl (some (gm_vi c))) n K R M) (z : Option gm_V) : gm_Wp X LX d bc bs 162 17 [some (gm_vr 1), some (gm_vi c), some (gm_vi l), z] [] n K R M Q := by
  obtain ⟨⟨⟨a0, b0⟩, ⟨a1, b1⟩, ⟨a10, b10⟩, ⟨a11, b11⟩, ⟨a12, b12⟩, a9, b9⟩, ⟨⟨a2, b2⟩, ⟨a5, b5⟩, ⟨a3, b3⟩, ⟨a4, b4⟩, ⟨a6, b6⟩, ⟨a14, b14⟩, ⟨a7, b7⟩, a13, b13⟩, rF, rP, rL⟩ := id hN
  have h3 : True := trivial
  refine gm_sz (gm_p_load (pc := 17) (i := .iload_n 2) (sr := 0) (j := 2) (by decide +kernel) rfl rfl rfl) ?_
  refine gm_sz (gm_p_load (pc := 18) (i := .aload_n 0) (sr := 2) (j := 0) (by decide +kernel) rfl rfl rfl) ?_
  refine gm_sz (fw_gr (pc := 19) (ix := 23) (ci := 0) (j := 3) (r := 3) (by decide +kernel) (e0k hE (k := 1) (c := 0) (by decide +kernel)) (by decide +kernel) (by decide +kernel) (e0r hE (k := 1) (j := 3) (r := 3) (by decide +kernel))) ?_
  refine gm_sz (fw_gr (pc := 22) (ix := 203) (ci := 1) (j := 12) (r := 10) (by decide +kernel) (e0k hE (k := 3) (c := 1) (by decide +kernel)) (by decide +kernel) (by decide +kernel) (e0r hE (k := 3) (j := 12) (r := 10) (by decide +kernel))) ?_
  refine gm_c_virt (k := 10) (ci := 2) (mj := 9) (ix := 277) (pc := 25) (as := []) (st := [gm_vi l]) (d' := d - 1) (bc' := 0) (bs' := 0) (by decide +kernel) (by decide +kernel) (by decide +kernel) (by decide +kernel) (e0k hE (k := 10) (c := 2) (by decide +kernel)).1 (e0k hE (k := 10) (c := 2) (by decide +kernel)).2 (by decide) (by decide +kernel) (show 0 = gm_na 9 by decide +kernel) fw_c0 (show 1 ≤ gm_ml 9 by decide +kernel) (Nat.le_of_ble_eq_true rfl) (by omega) (Nat.zero_le _) (Nat.zero_le _) ?_
  refine rw_size (s := N 4) (e0k hE (k := 10) (c := 2) (by decide +kernel)) (ti_let hT) ?_
  show gm_Wp X LX d _ _ 162 28 _ [gm_vi (N 4), gm_vi l] n K _ _ Q
  refine fw_ict (cc := .ge) (pc := 28) (off := 40) (by decide +kernel) (by decide) ⟨by omega, by omega⟩ ⟨by omega, by omega⟩ (show (N 4) ≤ l by omega) ?_
  refine gm_sz (gm_p_load (pc := 68) (i := .iload_n 1) (sr := 0) (j := 1) (by decide +kernel) rfl rfl rfl) ?_
  exact gm_r_int (pc := 69) (by decide +kernel) (Or.inl (by decide +kernel)) hq
/-- what the letters do keeps the valley, the log, the bounds -/
theorem ym_i (hN : NR N) (hg : LOGI N) {s0 : Int} (h0 : 0 ≤ s0) : ∀ k : Nat, (k : Int) ≤ N 4 → NR (yrun Ψ o dd (N, s0) k).1 ∧ LOGI (yrun Ψ o dd (N, s0) k).1 ∧ geo N (yrun Ψ o dd (N, s0) k).1 ∧ (yrun Ψ o dd (N, s0) k).1 4 = N 4 ∧ s0 ≤ (yrun Ψ o dd (N, s0) k).2 ∧ (yrun Ψ o dd (N, s0) k).2 ≤ s0 + (k : Int) := by
  intro k
  induction k with
  | zero => exact fun _ => ⟨hN, hg, geo_r, rfl, Int.le_refl _, by show s0 ≤ s0 + ((0 : Nat) : Int); omega⟩
  | succ k ih =>
    intro hk
    obtain ⟨i1, i2, i3, i4, i5, i6⟩ := ih (by omega)
    show NR (ystep Ψ o dd (k : Int) (yrun Ψ o dd (N, s0) k)).1 ∧ LOGI (ystep Ψ o dd (k : Int) (yrun Ψ o dd (N, s0) k)).1 ∧ geo N (ystep Ψ o dd (k : Int) (yrun Ψ o dd (N, s0) k)).1 ∧ (ystep Ψ o dd (k : Int) (yrun Ψ o dd (N, s0) k)).1 4 = N 4 ∧ s0 ≤ (ystep Ψ o dd (k : Int) (yrun Ψ o dd (N, s0) k)).2 ∧ (ystep Ψ o dd (k : Int) (yrun Ψ o dd (N, s0) k)).2 ≤ s0 + ((k + 1 : Nat) : Int)
    generalize yrun Ψ o dd (N, s0) k = s at i1 i2 i3 i4 i5 i6 ⊢
    unfold ystep
    by_cases h : WTS s.1 (k : Int) (o (k : Int)) ∧ ¬ opf s.1 (Ψ s.1) (k : Int) (dd (k : Int)) = -1
    · rw [tif_t h]
      have hl : 0 ≤ (k : Int) ∧ (k : Int) < s.1 4 := ⟨by omega, by omega⟩
      have b4 := i1.2.1.2.2.2.1
      have ho := logi_lt i1 i2 hl h.1.2.1
      have r9 := (i1.2.2.2.2 (k : Int) hl.1 hl.2).1
      have hb := opf_b (ψ := Ψ s.1) (dp := dd (k : Int)) i1 hl (by have := h.1.1; omega)
      exact ⟨nr_nopn i1 hl ho ⟨by have := h.2; omega, hb.2⟩, logi_nopn i1 i2 hl h.1.2.1 h.2, geo_t i3 (geo_nopn ⟨hl.1, by omega⟩ ho), (nopn_o (i := 4) (by decide) (by decide) ⟨hl.1, by omega⟩ ho).trans i4, by show s0 ≤ s.2 + 1; omega, by show s.2 + 1 ≤ _; omega⟩
    · rw [tif_f h]
      exact ⟨i1, i2, i3, i4, i5, by omega⟩
theorem ym_l (hd : 5 ≤ d) (hE : E0 n K R) (hT : TI N h sp M) (hN : NR N) (hg : LOGI N) (h9 : N 9 < 299) (hst : FSt FI) (hmo : ∀ N2, geo N N2 → NR N2 → MOW X LX n K R N2 h sp FI (Ψ N2)) (hI : FI M) (hen : ENF N o dd M) (hq : ∀ M2, fr [(3, some 6), (11, none), (14, some 3), (15, none), (204, none)] M M2 → cs M2 3 = (yrun Ψ o dd (nyr N, 0) (N 4).toNat).1 → Q (.inl (some (gm_vi (yrun Ψ o dd (nyr N, 0) (N 4).toNat).2))) n K R M2) : ∀ (u k : Nat) (z : Option gm_V) (M1 : gm_M), (k : Int) + (u : Int) = N 4 → fr [(3, some 6), (11, none), (14, some 3), (15, none), (204, none)] M M1 → cs M1 3 = (yrun Ψ o dd (nyr N, 0) k).1 → gm_Wp X LX d bc bs 162 17 [some (gm_vr 1), some (gm_vi (yrun Ψ o dd (nyr N, 0) k).2), some (gm_vi (k : Int)), z] [] n K R M1 Q := by
  have b4 := hN.2.1.2.2.2.1
  have e4 : nyr N 4 = N 4 := nup_ne (by decide)
  have inv : ∀ k : Nat, (k : Int) ≤ N 4 → NR (yrun Ψ o dd (nyr N, 0) k).1 ∧ LOGI (yrun Ψ o dd (nyr N, 0) k).1 ∧ geo (nyr N) (yrun Ψ o dd (nyr N, 0) k).1 ∧ (yrun Ψ o dd (nyr N, 0) k).1 4 = nyr N 4 ∧ 0 ≤ (yrun Ψ o dd (nyr N, 0) k).2 ∧ (yrun Ψ o dd (nyr N, 0) k).2 ≤ 0 + (k : Int) := fun k hk => ym_i (nr_nyr hN h9) (logi_nyr hg) (Int.le_refl 0) k (by rw [e4]; exact hk)
  have tie : ∀ (k : Nat) (M1 : gm_M), (k : Int) ≤ N 4 → fr [(3, some 6), (11, none), (14, some 3), (15, none), (204, none)] M M1 → cs M1 3 = (yrun Ψ o dd (nyr N, 0) k).1 → TI (yrun Ψ o dd (nyr N, 0) k).1 h sp M1 := fun k M1 hk hf hc => ti_geo (geo_t geo_nyr (inv k hk).2.2.1) hT (cst_fr hT.1 hf (by decide +kernel)) hc (fun a j a1 a2 => hf a j (fun hm => by simp at hm; omega) (fun hm => by simp at hm; omega))
  intro u
  induction u with
  | zero =>
    intro k z M1 hk hf hc
    have ek : (N 4).toNat = k := by omega
    rw [ek] at hq
    obtain ⟨i1, -, -, i4, -⟩ := inv k (by omega)
    exact ym_e (by omega) hE (tie k M1 (by omega) hf hc) i1 (by rw [i4, e4]; omega) (hq M1 hf hc) z
  | succ u ih =>
    intro k z M1 hk hf hc
    obtain ⟨i1, i2, i3, i4, i5, i6⟩ := inv k (by omega)
    have en : ENF (yrun Ψ o dd (nyr N, 0) k).1 o dd M1 := ⟨by rw [i4, e4]; exact (fr_c hf (by decide)).trans hen.1, fun l l0 l1 => by
      rw [i4, e4] at l1
      obtain ⟨a, b, c⟩ := hen.2 l l0 l1
      exact ⟨(fr_c hf (by decide)).trans a, (fr_c hf (by decide)).trans b, c⟩⟩
    refine ym_b hd hE (tie k M1 (by omega) hf hc) i1 i2 hst (hmo _ (geo_t geo_nyr i3) i1) (hst [(3, some 6), (11, none), (14, some 3), (15, none), (204, none)] _ _ (by decide) hf hI) en ⟨by omega, by rw [i4, e4]; omega⟩ ⟨i5, by omega⟩ (fun z2 M2 hf2 hc2 => ?_) z
    have q := ih (k + 1) z2 M2 (by omega) (fr_t hf hf2 (by decide)) hc2
    rwa [show ((k + 1 : Nat) : Int) = (k : Int) + 1 by omega] at q
theorem ym_c162 (hd : 5 ≤ d) (hE : E0 n K R) (hT : TI N h sp M) (hN : NR N) (hg : LOGI N) (h9 : N 9 < 299) (hst : FSt FI) (hmo : ∀ N2, geo N N2 → NR N2 → MOW X LX n K R N2 h sp FI (Ψ N2)) (hI : FI M) (hen : ENF N o dd M) (hq : ∀ M2, fr [(3, some 6), (11, none), (14, some 3), (15, none), (204, none)] M M2 → cs M2 3 = (yrun Ψ o dd (nyr N, 0) (N 4).toNat).1 → Q (.inl (some (gm_vi (yrun Ψ o dd (nyr N, 0) (N 4).toNat).2))) n K R M2) : gm_Wp X LX d bc bs 162 0 (gm_ent 162 [gm_vr 1]) [] n K R M Q := by
  obtain ⟨⟨⟨a0, b0⟩, ⟨a1, b1⟩, ⟨a10, b10⟩, ⟨a11, b11⟩, ⟨a12, b12⟩, a9, b9⟩, ⟨⟨a2, b2⟩, ⟨a5, b5⟩, ⟨a3, b3⟩, ⟨a4, b4⟩, ⟨a6, b6⟩, ⟨a14, b14⟩, ⟨a7, b7⟩, a13, b13⟩, rF, rP, rL⟩ := id hN
  refine gm_sz (gm_p_load (pc := 0) (i := .aload_n 0) (sr := 2) (j := 0) (by decide +kernel) rfl rfl rfl) ?_
  refine gm_sz (fw_gr (pc := 1) (ix := 23) (ci := 0) (j := 3) (r := 3) (by decide +kernel) (e0k hE (k := 1) (c := 0) (by decide +kernel)) (by decide +kernel) (by decide +kernel) (e0r hE (k := 1) (j := 3) (r := 3) (by decide +kernel))) ?_
  refine gm_sz (gm_p_dup (pc := 4) (by decide +kernel) fw_sr) ?_
  refine gm_sz (fw_gi (pc := 5) (ix := 269) (ci := 1) (j := 6) (x := N 9) (by decide +kernel) (e0k hE (k := 3) (c := 1) (by decide +kernel)) (by decide +kernel) (by decide +kernel) (ti_now hT)) ?_
  refine gm_sz (gm_p_const (pc := 8) (i := .iconst 1) (v := gm_vi 1) (by decide +kernel) (by decide +kernel)) ?_
  refine gm_sz (gm_p_bin (pc := 9) (i := .iadd) (f := fun x y => x + y) (by decide +kernel) rfl) ?_
  refine gm_sz (fw_pi (pc := 10) (ix := 269) (ci := 1) (j := 6) (M' := gm_uM M 3 6 ((N 9) + 1)) (by decide +kernel) (e0k hE (k := 3) (c := 1) (by decide +kernel)) (by decide +kernel) (by decide +kernel) (by decide +kernel) rfl) ?_
  refine gm_sz (gm_p_const (pc := 13) (i := .iconst 0) (v := gm_vi 0) (by decide +kernel) (by decide +kernel)) ?_
  refine gm_sz (gm_p_stor (pc := 14) (i := .istore_n 1) (sr := 0) (j := 1) (by decide +kernel) rfl (show 2 ≤ _ from Nat.le_of_ble_eq_true rfl) rfl) ?_
  refine gm_sz (gm_p_const (pc := 15) (i := .iconst 0) (v := gm_vi 0) (by decide +kernel) (by decide +kernel)) ?_
  refine gm_sz (gm_p_stor (pc := 16) (i := .istore_n 2) (sr := 0) (j := 2) (by decide +kernel) rfl (show 3 ≤ _ from Nat.le_of_ble_eq_true rfl) rfl) ?_
  exact ym_l hd hE hT hN hg h9 hst hmo hI hen hq (N 4).toNat 0 _ _ (by omega) (fr_p fr_0 (Or.inr (by decide))) (by rw [cs_f9 (b := 3), hT.2.1]; rfl)
end YM8
end
/-! 7a19.r4ym -/
section
/-! THE REFERENCE: who waits, one year more (laid by wip/core/r4.py). -/
section YM4
variable {X : Int → Int} {LX d bc bs n : Nat} {K : gm_K} {R : gm_R} {M : gm_M} {Q : gm_Q} {l p c v : Int} {N h : Int → Int} {FI : gm_M → Prop} {φ : Int → Int → Int → Int} {Ψ : (Int → Int) → Int → Int → Int → Int → Prop} {o dd : Int → Int}
/-- what a run tells -/
theorem rrun_o {M2 : gm_M} (hr : rrun N h φ ((N (119 + (l * 7 + 2)))) (if (N (119 + (l * 7 + 0))) = -1 then 1 else 0) (-1) ((N (119 + (l * 7 + 3)))) ((N (119 + (l * 7 + 4)))) M2) (h3 : 0 ≤ (N (119 + (l * 7 + 3)))) {o9 d9 : Int} (ho : OUTR N h φ l o9 d9) : M2 226 29 = o9 ∧ (0 ≤ o9 → M2 237 o9 = d9) := by
  obtain ⟨-, b, c⟩ := hr
  have key : OUTR N h φ l (M2 226 29) (if M2 226 29 = -1 then 0 else M2 237 (M2 226 29)) := by
    rcases c with ⟨c1, c2⟩ | ⟨j, c1, c2, c3, c4⟩
    · exact Or.inl ⟨c1, fun j hj => c2 j (by omega)⟩
    · refine Or.inr ⟨j, by omega, c2, c3, c4, ?_⟩
      rw [if_neg (by omega), c2]
      exact (b j c1).2
  obtain ⟨e1, e2⟩ := OUTR_u key ho
  refine ⟨e1, fun h0 => ?_⟩
  have := e2 h3 (by omega)
  rw [if_neg (by omega), e1] at this
  exact this
theorem re_sl272 (hE : E0 n K R) (h1 : 0 ≤ l ∧ l < 24) (h2 : 0 ≤ c ∧ c < 7) (q0 : Q (.inl (none)) n K R (gm_uM M 227 ((119 + (7 * l)) + c) v)) : gm_Wp X LX d bc bs 272 0 (gm_ent 272 [gm_vr 226, gm_vi l, gm_vi c, gm_vi v]) [] n K R M Q := by
  refine gm_sz (gm_p_load (pc := 0) (i := .aload_n 0) (sr := 2) (j := 0) (by decide +kernel) rfl rfl rfl) ?_
  refine gm_sz (fw_gr (pc := 1) (ix := 13) (ci := 11) (j := 1) (r := 227) (by decide +kernel) (e0k hE (k := 226) (c := 11) (by decide +kernel)) (by decide +kernel) (by decide +kernel) (e0r hE (k := 226) (j := 1) (r := 227) (by decide +kernel))) ?_
  refine gm_sz (gm_p_const (pc := 4) (i := .bipush 119) (v := gm_vi 119) (by decide +kernel) (by decide +kernel)) ?_
  refine gm_sz (gm_p_const (pc := 6) (i := .bipush 7) (v := gm_vi 7) (by decide +kernel) (by decide +kernel)) ?_
  refine gm_sz (gm_p_load (pc := 8) (i := .iload_n 1) (sr := 0) (j := 1) (by decide +kernel) rfl rfl rfl) ?_
  refine gm_sz (gm_p_bin (pc := 9) (i := .imul) (f := fun x y => x * y) (by decide +kernel) rfl) ?_
  refine gm_sz (gm_p_bin (pc := 10) (i := .iadd) (f := fun x y => x + y) (by decide +kernel) rfl) ?_
  refine gm_sz (gm_p_load (pc := 11) (i := .iload_n 2) (sr := 0) (j := 2) (by decide +kernel) rfl rfl rfl) ?_
  refine gm_sz (gm_p_bin (pc := 12) (i := .iadd) (f := fun x y => x + y) (by decide +kernel) rfl) ?_
  refine gm_sz (gm_p_load (pc := 13) (i := .iload_n 3) (sr := 0) (j := 3) (by decide +kernel) rfl rfl rfl) ?_
  refine gm_sz (fw_is (pc := 14) (k := 227) (len := 2093) (e0 := (119 + (7 * l)) + c) (x := v) (M' := gm_uM M 227 ((119 + (7 * l)) + c) v) (by decide +kernel) (e0a hE (k := 227) (q := (0, 2093)) (by decide +kernel)).1 (e0a hE (k := 227) (q := (0, 2093)) (by decide +kernel)).2 (by decide) ⟨by omega, by omega⟩ rfl) ?_
  exact gm_r_void (pc := 15) (by decide +kernel) (by decide +kernel) q0
theorem re_now9 (hE : E0 n K R) (hv : M 227 9 = v) (hq : Q (.inl (some (gm_vi v))) n K R M) : gm_Wp X LX d bc bs 266 0 (gm_ent 266 [gm_vr 226]) [] n K R M Q := by
  refine gm_sz (gm_p_load (pc := 0) (i := .aload_n 0) (sr := 2) (j := 0) (by decide +kernel) rfl rfl rfl) ?_
  refine gm_sz (fw_gr (pc := 1) (ix := 13) (ci := 11) (j := 1) (r := 227) (by decide +kernel) (e0k hE (k := 226) (c := 11) (by decide +kernel)) (by decide +kernel) (by decide +kernel) (e0r hE (k := 226) (j := 1) (r := 227) (by decide +kernel))) ?_
  refine gm_sz (gm_p_const (pc := 4) (i := .bipush 9) (v := gm_vi 9) (by decide +kernel) (by decide +kernel)) ?_
  refine gm_sz (fw_ia (pc := 6) (k := 227) (len := 2093) (e0 := 9) (x := v) (by decide +kernel) (e0a hE (k := 227) (q := (0, 2093)) (by decide +kernel)).1 (e0a hE (k := 227) (q := (0, 2093)) (by decide +kernel)).2 (by decide) ⟨by omega, by omega⟩ hv) ?_
  exact gm_r_int (pc := 7) (by decide +kernel) (Or.inl (by decide +kernel)) hq
theorem re_op (hd : 2 ≤ d) (hE : E0 n K R) (hT : TR N h M) (hN : NR N) (h1 : 0 ≤ l ∧ l < 24) (h2 : 0 ≤ N 14 ∧ N 14 < 24) (hq : ∀ M2, fr [(227, none)] M M2 → ws (M2 227) = nopn N l p → (∀ j, 395 ≤ j → M2 227 j = M 227 j) → M2 227 8 = M 227 8 → Q (.inl none) n K R M2) : gm_Wp X LX d bc bs 319 0 (gm_ent 319 [gm_vr 226, gm_vi l, gm_vi p]) [] n K R M Q := by
  refine gm_sz (gm_p_load (pc := 0) (i := .aload_n 0) (sr := 2) (j := 0) (by decide +kernel) rfl rfl rfl) ?_
  refine gm_sz (gm_p_load (pc := 1) (i := .iload_n 1) (sr := 0) (j := 1) (by decide +kernel) rfl rfl rfl) ?_
  refine gm_sz (gm_p_const (pc := 2) (i := .iconst 5) (v := gm_vi 5) (by decide +kernel) (by decide +kernel)) ?_
  refine gm_sz (gm_p_load (pc := 3) (i := .iload_n 2) (sr := 0) (j := 2) (by decide +kernel) rfl rfl rfl) ?_
  refine gm_c_virt (k := 226) (ci := 11) (mj := 272) (ix := 173) (pc := 4) (as := [gm_vi l, gm_vi 5, gm_vi p]) (st := []) (d' := d - 1) (bc' := 0) (bs' := 0) (by decide +kernel) (by decide +kernel) (by decide +kernel) (by decide +kernel) (e0k hE (k := 226) (c := 11) (by decide +kernel)).1 (e0k hE (k := 226) (c := 11) (by decide +kernel)).2 (by decide) (by decide +kernel) (show 3 = gm_na 272 by decide +kernel) (fw_c3 fw_si fw_si fw_si) (show 4 ≤ gm_ml 272 by decide +kernel) (Nat.le_of_ble_eq_true rfl) (by omega) (Nat.zero_le _) (Nat.zero_le _) ?_
  refine re_sl272 hE ⟨by omega, by omega⟩ ⟨by omega, by omega⟩ ?_
  show gm_Wp X LX d _ _ 319 7 _ [] n K _ _ Q
  refine gm_sz (gm_p_load (pc := 7) (i := .aload_n 0) (sr := 2) (j := 0) (by decide +kernel) rfl rfl rfl) ?_
  refine gm_sz (gm_p_load (pc := 8) (i := .iload_n 1) (sr := 0) (j := 1) (by decide +kernel) rfl rfl rfl) ?_
  refine gm_sz (gm_p_const (pc := 9) (i := .bipush 6) (v := gm_vi 6) (by decide +kernel) (by decide +kernel)) ?_
  refine gm_sz (gm_p_load (pc := 11) (i := .aload_n 0) (sr := 2) (j := 0) (by decide +kernel) rfl rfl rfl) ?_
  refine gm_c_virt (k := 226) (ci := 11) (mj := 266) (ix := 162) (pc := 12) (as := []) (st := [gm_vi 6, gm_vi l, gm_vr 226]) (d' := d - 1) (bc' := 0) (bs' := 0) (by decide +kernel) (by decide +kernel) (by decide +kernel) (by decide +kernel) (e0k hE (k := 226) (c := 11) (by decide +kernel)).1 (e0k hE (k := 226) (c := 11) (by decide +kernel)).2 (by decide) (by decide +kernel) (show 0 = gm_na 266 by decide +kernel) fw_c0 (show 1 ≤ gm_ml 266 by decide +kernel) (Nat.le_of_ble_eq_true rfl) (by omega) (Nat.zero_le _) (Nat.zero_le _) ?_
  refine re_now9 hE ((uM_ne (by omega)).trans (tr_w hT (by decide) (by decide) (by decide))) ?_
  show gm_Wp X LX d _ _ 319 15 _ [gm_vi (N 9), gm_vi 6, gm_vi l, gm_vr 226] n K _ _ Q
  refine gm_c_virt (k := 226) (ci := 11) (mj := 272) (ix := 173) (pc := 15) (as := [gm_vi l, gm_vi 6, gm_vi (N 9)]) (st := []) (d' := d - 1) (bc' := 0) (bs' := 0) (by decide +kernel) (by decide +kernel) (by decide +kernel) (by decide +kernel) (e0k hE (k := 226) (c := 11) (by decide +kernel)).1 (e0k hE (k := 226) (c := 11) (by decide +kernel)).2 (by decide) (by decide +kernel) (show 3 = gm_na 272 by decide +kernel) (fw_c3 fw_si fw_si fw_si) (show 4 ≤ gm_ml 272 by decide +kernel) (Nat.le_of_ble_eq_true rfl) (by omega) (Nat.zero_le _) (Nat.zero_le _) ?_
  refine re_sl272 hE ⟨by omega, by omega⟩ ⟨by omega, by omega⟩ ?_
  show gm_Wp X LX d _ _ 319 18 _ [] n K _ _ Q
  refine gm_sz (gm_p_const (pc := 18) (i := .sipush 323) (v := gm_vi 323) (by decide +kernel) (by decide +kernel)) ?_
  refine gm_sz (gm_p_const (pc := 21) (i := .iconst 3) (v := gm_vi 3) (by decide +kernel) (by decide +kernel)) ?_
  refine gm_sz (gm_p_load (pc := 22) (i := .aload_n 0) (sr := 2) (j := 0) (by decide +kernel) rfl rfl rfl) ?_
  refine gm_sz (fw_gr (pc := 23) (ix := 13) (ci := 11) (j := 1) (r := 227) (by decide +kernel) (e0k hE (k := 226) (c := 11) (by decide +kernel)) (by decide +kernel) (by decide +kernel) (e0r hE (k := 226) (j := 1) (r := 227) (by decide +kernel))) ?_
  refine gm_sz (gm_p_const (pc := 26) (i := .bipush 14) (v := gm_vi 14) (by decide +kernel) (by decide +kernel)) ?_
  refine gm_sz (fw_ia (pc := 28) (k := 227) (len := 2093) (e0 := 14) (x := N 14) (by decide +kernel) (e0a hE (k := 227) (q := (0, 2093)) (by decide +kernel)).1 (e0a hE (k := 227) (q := (0, 2093)) (by decide +kernel)).2 (by decide) ⟨by omega, by omega⟩ ((uM_ne (by omega)).trans ((uM_ne (by omega)).trans (tr_w hT (by decide) (by decide) (by decide))))) ?_
  refine gm_sz (gm_p_bin (pc := 29) (i := .imul) (f := fun x y => x * y) (by decide +kernel) rfl) ?_
  refine gm_sz (gm_p_bin (pc := 30) (i := .iadd) (f := fun x y => x + y) (by decide +kernel) rfl) ?_
  refine gm_sz (gm_p_stor (pc := 31) (i := .istore_n 3) (sr := 0) (j := 3) (by decide +kernel) rfl (show 4 ≤ _ from Nat.le_of_ble_eq_true rfl) rfl) ?_
  refine gm_sz (gm_p_load (pc := 32) (i := .aload_n 0) (sr := 2) (j := 0) (by decide +kernel) rfl rfl rfl) ?_
  refine gm_sz (fw_gr (pc := 33) (ix := 13) (ci := 11) (j := 1) (r := 227) (by decide +kernel) (e0k hE (k := 226) (c := 11) (by decide +kernel)) (by decide +kernel) (by decide +kernel) (e0r hE (k := 226) (j := 1) (r := 227) (by decide +kernel))) ?_
  refine gm_sz (gm_p_load (pc := 36) (i := .iload_n 3) (sr := 0) (j := 3) (by decide +kernel) rfl rfl rfl) ?_
  refine gm_sz (gm_p_load (pc := 37) (i := .aload_n 0) (sr := 2) (j := 0) (by decide +kernel) rfl rfl rfl) ?_
  refine gm_c_virt (k := 226) (ci := 11) (mj := 266) (ix := 162) (pc := 38) (as := []) (st := [gm_vi (323 + (3 * (N 14))), gm_vr 227]) (d' := d - 1) (bc' := 0) (bs' := 0) (by decide +kernel) (by decide +kernel) (by decide +kernel) (by decide +kernel) (e0k hE (k := 226) (c := 11) (by decide +kernel)).1 (e0k hE (k := 226) (c := 11) (by decide +kernel)).2 (by decide) (by decide +kernel) (show 0 = gm_na 266 by decide +kernel) fw_c0 (show 1 ≤ gm_ml 266 by decide +kernel) (Nat.le_of_ble_eq_true rfl) (by omega) (Nat.zero_le _) (Nat.zero_le _) ?_
  refine re_now9 hE ((uM_ne (by omega)).trans ((uM_ne (by omega)).trans (tr_w hT (by decide) (by decide) (by decide)))) ?_
  show gm_Wp X LX d _ _ 319 41 _ [gm_vi (N 9), gm_vi (323 + (3 * (N 14))), gm_vr 227] n K _ _ Q
  refine gm_sz (fw_is (pc := 41) (k := 227) (len := 2093) (e0 := 323 + (3 * (N 14))) (x := N 9) (M' := gm_uM (gm_uM (gm_uM M 227 ((119 + (7 * l)) + 5) p) 227 ((119 + (7 * l)) + 6) (N 9)) 227 (323 + (3 * (N 14))) (N 9)) (by decide +kernel) (e0a hE (k := 227) (q := (0, 2093)) (by decide +kernel)).1 (e0a hE (k := 227) (q := (0, 2093)) (by decide +kernel)).2 (by decide) ⟨by omega, by omega⟩ rfl) ?_
  refine gm_sz (gm_p_load (pc := 42) (i := .aload_n 0) (sr := 2) (j := 0) (by decide +kernel) rfl rfl rfl) ?_
  refine gm_sz (fw_gr (pc := 43) (ix := 13) (ci := 11) (j := 1) (r := 227) (by decide +kernel) (e0k hE (k := 226) (c := 11) (by decide +kernel)) (by decide +kernel) (by decide +kernel) (e0r hE (k := 226) (j := 1) (r := 227) (by decide +kernel))) ?_
  refine gm_sz (gm_p_load (pc := 46) (i := .iload_n 3) (sr := 0) (j := 3) (by decide +kernel) rfl rfl rfl) ?_
  refine gm_sz (gm_p_const (pc := 47) (i := .iconst 1) (v := gm_vi 1) (by decide +kernel) (by decide +kernel)) ?_
  refine gm_sz (gm_p_bin (pc := 48) (i := .iadd) (f := fun x y => x + y) (by decide +kernel) rfl) ?_
  refine gm_sz (gm_p_load (pc := 49) (i := .iload_n 1) (sr := 0) (j := 1) (by decide +kernel) rfl rfl rfl) ?_
  refine gm_sz (fw_is (pc := 50) (k := 227) (len := 2093) (e0 := (323 + (3 * (N 14))) + 1) (x := l) (M' := gm_uM (gm_uM (gm_uM (gm_uM M 227 ((119 + (7 * l)) + 5) p) 227 ((119 + (7 * l)) + 6) (N 9)) 227 (323 + (3 * (N 14))) (N 9)) 227 ((323 + (3 * (N 14))) + 1) l) (by decide +kernel) (e0a hE (k := 227) (q := (0, 2093)) (by decide +kernel)).1 (e0a hE (k := 227) (q := (0, 2093)) (by decide +kernel)).2 (by decide) ⟨by omega, by omega⟩ rfl) ?_
  refine gm_sz (gm_p_load (pc := 51) (i := .aload_n 0) (sr := 2) (j := 0) (by decide +kernel) rfl rfl rfl) ?_
  refine gm_sz (fw_gr (pc := 52) (ix := 13) (ci := 11) (j := 1) (r := 227) (by decide +kernel) (e0k hE (k := 226) (c := 11) (by decide +kernel)) (by decide +kernel) (by decide +kernel) (e0r hE (k := 226) (j := 1) (r := 227) (by decide +kernel))) ?_
  refine gm_sz (gm_p_load (pc := 55) (i := .iload_n 3) (sr := 0) (j := 3) (by decide +kernel) rfl rfl rfl) ?_
  refine gm_sz (gm_p_const (pc := 56) (i := .iconst 2) (v := gm_vi 2) (by decide +kernel) (by decide +kernel)) ?_
  refine gm_sz (gm_p_bin (pc := 57) (i := .iadd) (f := fun x y => x + y) (by decide +kernel) rfl) ?_
  refine gm_sz (gm_p_load (pc := 58) (i := .iload_n 2) (sr := 0) (j := 2) (by decide +kernel) rfl rfl rfl) ?_
  refine gm_sz (fw_is (pc := 59) (k := 227) (len := 2093) (e0 := (323 + (3 * (N 14))) + 2) (x := p) (M' := gm_uM (gm_uM (gm_uM (gm_uM (gm_uM M 227 ((119 + (7 * l)) + 5) p) 227 ((119 + (7 * l)) + 6) (N 9)) 227 (323 + (3 * (N 14))) (N 9)) 227 ((323 + (3 * (N 14))) + 1) l) 227 ((323 + (3 * (N 14))) + 2) p) (by decide +kernel) (e0a hE (k := 227) (q := (0, 2093)) (by decide +kernel)).1 (e0a hE (k := 227) (q := (0, 2093)) (by decide +kernel)).2 (by decide) ⟨by omega, by omega⟩ rfl) ?_
  refine gm_sz (gm_p_load (pc := 60) (i := .aload_n 0) (sr := 2) (j := 0) (by decide +kernel) rfl rfl rfl) ?_
  refine gm_sz (fw_gr (pc := 61) (ix := 13) (ci := 11) (j := 1) (r := 227) (by decide +kernel) (e0k hE (k := 226) (c := 11) (by decide +kernel)) (by decide +kernel) (by decide +kernel) (e0r hE (k := 226) (j := 1) (r := 227) (by decide +kernel))) ?_
  refine gm_sz (gm_p_const (pc := 64) (i := .bipush 14) (v := gm_vi 14) (by decide +kernel) (by decide +kernel)) ?_
  refine gm_sz (gm_p_dup2 (pc := 66) (by decide +kernel) fw_si fw_sr) ?_
  refine gm_sz (fw_ia (pc := 67) (k := 227) (len := 2093) (e0 := 14) (x := N 14) (by decide +kernel) (e0a hE (k := 227) (q := (0, 2093)) (by decide +kernel)).1 (e0a hE (k := 227) (q := (0, 2093)) (by decide +kernel)).2 (by decide) ⟨by omega, by omega⟩ ((uM_ne (by omega)).trans ((uM_ne (by omega)).trans ((uM_ne (by omega)).trans ((uM_ne (by omega)).trans ((uM_ne (by omega)).trans (tr_w hT (by decide) (by decide) (by decide)))))))) ?_
  refine gm_sz (gm_p_const (pc := 68) (i := .iconst 1) (v := gm_vi 1) (by decide +kernel) (by decide +kernel)) ?_
  refine gm_sz (gm_p_bin (pc := 69) (i := .iadd) (f := fun x y => x + y) (by decide +kernel) rfl) ?_
  refine gm_sz (fw_is (pc := 70) (k := 227) (len := 2093) (e0 := 14) (x := (N 14) + 1) (M' := gm_uM (gm_uM (gm_uM (gm_uM (gm_uM (gm_uM M 227 ((119 + (7 * l)) + 5) p) 227 ((119 + (7 * l)) + 6) (N 9)) 227 (323 + (3 * (N 14))) (N 9)) 227 ((323 + (3 * (N 14))) + 1) l) 227 ((323 + (3 * (N 14))) + 2) p) 227 14 ((N 14) + 1)) (by decide +kernel) (e0a hE (k := 227) (q := (0, 2093)) (by decide +kernel)).1 (e0a hE (k := 227) (q := (0, 2093)) (by decide +kernel)).2 (by decide) ⟨by omega, by omega⟩ rfl) ?_
  have e1 : (gm_uM (gm_uM (gm_uM (gm_uM (gm_uM (gm_uM M 227 ((119 + (7 * l)) + 5) p) 227 ((119 + (7 * l)) + 6) (N 9)) 227 (323 + (3 * (N 14))) (N 9)) 227 ((323 + (3 * (N 14))) + 1) l) 227 ((323 + (3 * (N 14))) + 2) p) 227 14 ((N 14) + 1)) 227 = nup (nup (nup (nup (nup (nup (M 227) ((119 + (7 * l)) + 5) (p)) ((119 + (7 * l)) + 6) (N 9)) (323 + (3 * (N 14))) (N 9)) ((323 + (3 * (N 14))) + 1) (l)) ((323 + (3 * (N 14))) + 2) (p)) (14) ((N 14) + 1) := by
    exact (nup_s (nup_s (nup_s (nup_s (nup_s (nup_s rfl))))))
  have e2 : ws (nup (nup (nup (nup (nup (nup (M 227) ((119 + (7 * l)) + 5) (p)) ((119 + (7 * l)) + 6) (N 9)) (323 + (3 * (N 14))) (N 9)) ((323 + (3 * (N 14))) + 1) (l)) ((323 + (3 * (N 14))) + 2) (p)) (14) ((N 14) + 1)) = nup (nup (nup (nup (nup (nup (ws (M 227)) (119 + (l * 7 + 5)) (p)) (119 + (l * 7 + 6)) (N 9)) (323 + (N 14 * 3 + 0)) (N 9)) (323 + (N 14 * 3 + 1)) (l)) (323 + (N 14 * 3 + 2)) (p)) (14) (N 14 + 1) := by
    rw [ws_put (k := 14) ⟨by omega, by omega, by omega⟩, ws_put (k := (323 + (3 * (N 14))) + 2) ⟨by omega, by omega, by omega⟩, ws_put (k := (323 + (3 * (N 14))) + 1) ⟨by omega, by omega, by omega⟩, ws_put (k := 323 + (3 * (N 14))) ⟨by omega, by omega, by omega⟩, ws_put (k := (119 + (7 * l)) + 6) ⟨by omega, by omega, by omega⟩, ws_put (k := (119 + (7 * l)) + 5) ⟨by omega, by omega, by omega⟩]
    rw [show (323 + (3 * (N 14))) + 1 = 323 + (N 14 * 3 + 1) by omega, show (323 + (3 * (N 14))) + 2 = 323 + (N 14 * 3 + 2) by omega, show (119 + (7 * l)) + 5 = 119 + (l * 7 + 5) by omega, show (119 + (7 * l)) + 6 = 119 + (l * 7 + 6) by omega, show 323 + (3 * (N 14)) = 323 + (N 14 * 3 + 0) by omega]
  have e3 : ws ((gm_uM (gm_uM (gm_uM (gm_uM (gm_uM (gm_uM M 227 ((119 + (7 * l)) + 5) p) 227 ((119 + (7 * l)) + 6) (N 9)) 227 (323 + (3 * (N 14))) (N 9)) 227 ((323 + (3 * (N 14))) + 1) l) 227 ((323 + (3 * (N 14))) + 2) p) 227 14 ((N 14) + 1)) 227) = nopn N l p := by
    rw [e1, e2, hT.1]
    funext i
    unfold nopn
    by_cases h14 : i = 14
    · subst h14
      rw [nup_at, nup_ne (by omega), nup_ne (by omega), nup_ne (by omega), nup_at]
    · rw [nup_ne h14]
      unfold nup
      try dsimp only
      rw [if_neg h14]
  exact gm_r_void (pc := 71) (by decide +kernel) (by decide +kernel) (hq (gm_uM (gm_uM (gm_uM (gm_uM (gm_uM (gm_uM M 227 ((119 + (7 * l)) + 5) p) 227 ((119 + (7 * l)) + 6) (N 9)) 227 (323 + (3 * (N 14))) (N 9)) 227 ((323 + (3 * (N 14))) + 1) l) 227 ((323 + (3 * (N 14))) + 2) p) 227 14 ((N 14) + 1)) (fr_p (fr_p (fr_p (fr_p (fr_p (fr_p fr_0 (Or.inl (by decide))) (Or.inl (by decide))) (Or.inl (by decide))) (Or.inl (by decide))) (Or.inl (by decide))) (Or.inl (by decide))) e3 (fun j hj => ((uM_ne (by omega)).trans ((uM_ne (by omega)).trans ((uM_ne (by omega)).trans ((uM_ne (by omega)).trans ((uM_ne (by omega)).trans ((uM_ne (by omega)).trans rfl))))))) ((uM_ne (by omega)).trans ((uM_ne (by omega)).trans ((uM_ne (by omega)).trans ((uM_ne (by omega)).trans ((uM_ne (by omega)).trans ((uM_ne (by omega)).trans rfl)))))))
theorem rw_c302 (hd : 18 ≤ d) (hE : E0 n K R) (hT : TR N h M) (hN : NR N) (hfw : FLR X LX n K R N h FI φ) (hI : FI M) (h1 : 0 ≤ l ∧ l < N 4) (ho : OUTR N h φ l (o l) (dd l)) (q1 : WTS N l (o l) → ∀ M2, fr [(226, some 29), (226, some 30), (226, some 26), (226, some 17), (226, some 18), (226, some 19), (226, some 20), (226, some 21), (226, some 22), (226, some 23), (235, none), (233, none), (236, none), (237, none)] M M2 → FI M2 → M2 226 29 = o l → M2 237 (o l) = dd l → Q (.inl (some (gm_vi 1))) n K R M2) (q0 : ¬ WTS N l (o l) → ∀ M2, fr [(226, some 29), (226, some 30), (226, some 26), (226, some 17), (226, some 18), (226, some 19), (226, some 20), (226, some 21), (226, some 22), (226, some 23), (235, none), (233, none), (236, none), (237, none)] M M2 → FI M2 → Q (.inl (some (gm_vi 0))) n K R M2) : gm_Wp X LX d bc bs 302 0 (gm_ent 302 [gm_vr 226, gm_vi l]) [] n K R M Q := by
  obtain ⟨⟨⟨a0, b0⟩, ⟨a1, b1⟩, ⟨a10, b10⟩, ⟨a11, b11⟩, ⟨a12, b12⟩, a9, b9⟩, ⟨⟨a2, b2⟩, ⟨a5, b5⟩, ⟨a3, b3⟩, ⟨a4, b4⟩, ⟨a6, b6⟩, ⟨a14, b14⟩, ⟨a7, b7⟩, a13, b13⟩, rF, rP, rL⟩ := id hN
  obtain ⟨r0, r1, r2, r3, -, r5, -⟩ := rL l h1.1 h1.2
  have r59 : -1 ≤ N (119 + (l * 7 + 5)) ∧ N (119 + (l * 7 + 5)) < N 3 := r5
  have rk9 : (if (N (119 + (l * 7 + 0))) = -1 then (1 : Int) else 0) = 1 ∧ (N (119 + (l * 7 + 0))) = -1 ∨ (if (N (119 + (l * 7 + 0))) = -1 then (1 : Int) else 0) = 0 ∧ ¬ (N (119 + (l * 7 + 0))) = -1 := by
    by_cases hh : (N (119 + (l * 7 + 0))) = -1
    · exact Or.inl ⟨if_pos hh, hh⟩
    · exact Or.inr ⟨if_neg hh, hh⟩
  refine gm_sz (gm_p_load (pc := 0) (i := .aload_n 0) (sr := 2) (j := 0) (by decide +kernel) rfl rfl rfl) ?_
  refine gm_sz (gm_p_load (pc := 1) (i := .iload_n 1) (sr := 0) (j := 1) (by decide +kernel) rfl rfl rfl) ?_
  refine gm_c_virt (k := 226) (ci := 11) (mj := 303) (ix := 374) (pc := 2) (as := [gm_vi l]) (st := []) (d' := d - 1) (bc' := 0) (bs' := 0) (by decide +kernel) (by decide +kernel) (by decide +kernel) (by decide +kernel) (e0k hE (k := 226) (c := 11) (by decide +kernel)).1 (e0k hE (k := 226) (c := 11) (by decide +kernel)).2 (by decide) (by decide +kernel) (show 1 = gm_na 303 by decide +kernel) (fw_c1 fw_si) (show 2 ≤ gm_ml 303 by decide +kernel) (Nat.le_of_ble_eq_true rfl) (by omega) (Nat.zero_le _) (Nat.zero_le _) ?_
  refine re_rk (by omega) hE hT hN ⟨by omega, by omega⟩ ?_
  show gm_Wp X LX d _ _ 302 5 _ [gm_vi (if (N (119 + (l * 7 + 0))) = -1 then (1 : Int) else 0)] n K _ _ Q
  refine fw_if (cc := .ne) (pc := 5) (off := 12) (by decide +kernel) (by decide) ⟨by omega, by omega⟩ (fun h5 => ?_) (fun h5 => ?_)
  · have h5 : ¬ (if (N (119 + (l * 7 + 0))) = -1 then (1 : Int) else 0) = 0 := h5
    refine gm_sz (gm_p_const (pc := 17) (i := .iconst 0) (v := gm_vi 0) (by decide +kernel) (by decide +kernel)) ?_
    have a9 : ¬ WTS N l (o l) := fun ⟨a1, a2, a3, a4⟩ => by omega
    exact gm_r_int (pc := 18) (by decide +kernel) (Or.inr ⟨(by decide +kernel), Or.inl rfl⟩) (q0 a9 M fr_0 hI)
  · have h5 : (if (N (119 + (l * 7 + 0))) = -1 then (1 : Int) else 0) = 0 := Classical.not_not.mp h5
    refine gm_sz (gm_p_load (pc := 8) (i := .aload_n 0) (sr := 2) (j := 0) (by decide +kernel) rfl rfl rfl) ?_
    refine gm_sz (gm_p_load (pc := 9) (i := .iload_n 1) (sr := 0) (j := 1) (by decide +kernel) rfl rfl rfl) ?_
    refine gm_sz (gm_p_const (pc := 10) (i := .iconst 5) (v := gm_vi 5) (by decide +kernel) (by decide +kernel)) ?_
    refine gm_c_virt (k := 226) (ci := 11) (mj := 301) (ix := 82) (pc := 11) (as := [gm_vi l, gm_vi 5]) (st := []) (d' := d - 1) (bc' := 0) (bs' := 0) (by decide +kernel) (by decide +kernel) (by decide +kernel) (by decide +kernel) (e0k hE (k := 226) (c := 11) (by decide +kernel)).1 (e0k hE (k := 226) (c := 11) (by decide +kernel)).2 (by decide) (by decide +kernel) (show 2 = gm_na 301 by decide +kernel) (fw_c2 fw_si fw_si) (show 3 ≤ gm_ml 301 by decide +kernel) (Nat.le_of_ble_eq_true rfl) (by omega) (Nat.zero_le _) (Nat.zero_le _) ?_
    refine re_ol hE hT hN ⟨by omega, by omega⟩ ⟨by omega, by omega⟩ ?_
    show gm_Wp X LX d _ _ 302 14 _ [gm_vi (N (119 + (l * 7 + 5)))] n K _ _ Q
    refine fw_if (cc := .lt) (pc := 14) (off := 5) (by decide +kernel) (by decide) ⟨by omega, by omega⟩ (fun h14 => ?_) (fun h14 => ?_)
    · have h14 : (N (119 + (l * 7 + 5))) < 0 := h14
      refine gm_sz (gm_p_load (pc := 19) (i := .aload_n 0) (sr := 2) (j := 0) (by decide +kernel) rfl rfl rfl) ?_
      refine gm_sz (gm_p_load (pc := 20) (i := .iload_n 1) (sr := 0) (j := 1) (by decide +kernel) rfl rfl rfl) ?_
      refine gm_c_virt (k := 226) (ci := 11) (mj := 304) (ix := 387) (pc := 21) (as := [gm_vi l]) (st := []) (d' := d - 1) (bc' := 0) (bs' := 0) (by decide +kernel) (by decide +kernel) (by decide +kernel) (by decide +kernel) (e0k hE (k := 226) (c := 11) (by decide +kernel)).1 (e0k hE (k := 226) (c := 11) (by decide +kernel)).2 (by decide) (by decide +kernel) (show 1 = gm_na 304 by decide +kernel) (fw_c1 fw_si) (show 2 ≤ gm_ml 304 by decide +kernel) (Nat.le_of_ble_eq_true rfl) (by omega) (Nat.zero_le _) (Nat.zero_le _) ?_
      refine re_c304 (l := l) (by omega) hE hT hN hfw hI ⟨by omega, by omega⟩ (fun M21 hf21 hI21 hr21 => ?_)
      show gm_Wp X LX d _ _ 302 24 _ [gm_vi (M21 226 29)] n K _ _ Q
      obtain ⟨e29, e37⟩ := rrun_o hr21 r3.1 ho
      have ob := OUTR_b ho r3.1
      refine gm_sz (gm_p_stor (pc := 24) (i := .istore_n 2) (sr := 0) (j := 2) (by decide +kernel) rfl (show 3 ≤ _ from Nat.le_of_ble_eq_true rfl) rfl) ?_
      refine gm_sz (gm_p_load (pc := 25) (i := .iload_n 2) (sr := 0) (j := 2) (by decide +kernel) rfl rfl rfl) ?_
      refine fw_if (cc := .lt) (pc := 26) (off := 15) (by decide +kernel) (by decide) ⟨by omega, by omega⟩ (fun h26 => ?_) (fun h26 => ?_)
      · have h26 : (M21 226 29) < 0 := h26
        refine gm_sz (gm_p_const (pc := 41) (i := .iconst 0) (v := gm_vi 0) (by decide +kernel) (by decide +kernel)) ?_
        have a9 : ¬ WTS N l (o l) := fun ⟨a1, a2, a3, a4⟩ => by omega
        exact gm_r_int (pc := 42) (by decide +kernel) (Or.inr ⟨(by decide +kernel), Or.inl rfl⟩) (q0 a9 M21 (fr_t fr_0 hf21 (by decide)) hI21)
      · have h26 : ¬ (M21 226 29) < 0 := h26
        refine gm_sz (gm_p_load (pc := 29) (i := .iload_n 2) (sr := 0) (j := 2) (by decide +kernel) rfl rfl rfl) ?_
        refine gm_sz (gm_p_load (pc := 30) (i := .aload_n 0) (sr := 2) (j := 0) (by decide +kernel) rfl rfl rfl) ?_
        refine gm_c_virt (k := 226) (ci := 11) (mj := 266) (ix := 162) (pc := 31) (as := []) (st := [gm_vi (M21 226 29)]) (d' := d - 1) (bc' := 0) (bs' := 0) (by decide +kernel) (by decide +kernel) (by decide +kernel) (by decide +kernel) (e0k hE (k := 226) (c := 11) (by decide +kernel)).1 (e0k hE (k := 226) (c := 11) (by decide +kernel)).2 (by decide) (by decide +kernel) (show 0 = gm_na 266 by decide +kernel) fw_c0 (show 1 ≤ gm_ml 266 by decide +kernel) (Nat.le_of_ble_eq_true rfl) (by omega) (Nat.zero_le _) (Nat.zero_le _) ?_
        refine re_now9 hE ((fr_c hf21 (by decide)).trans (tr_w hT (by decide) (by decide) (by decide))) ?_
        show gm_Wp X LX d _ _ 302 34 _ [gm_vi (N 9), gm_vi (M21 226 29)] n K _ _ Q
        refine fw_ic (cc := .gt) (pc := 34) (off := 7) (by decide +kernel) (by decide) ⟨by omega, by omega⟩ ⟨by omega, by omega⟩ (fun h34 => ?_) (fun h34 => ?_)
        · have h34 : (N 9) < (M21 226 29) := h34
          refine gm_sz (gm_p_const (pc := 41) (i := .iconst 0) (v := gm_vi 0) (by decide +kernel) (by decide +kernel)) ?_
          have a9 : ¬ WTS N l (o l) := fun ⟨a1, a2, a3, a4⟩ => by omega
          exact gm_r_int (pc := 42) (by decide +kernel) (Or.inr ⟨(by decide +kernel), Or.inl rfl⟩) (q0 a9 M21 (fr_t fr_0 hf21 (by decide)) hI21)
        · have h34 : ¬ (N 9) < (M21 226 29) := h34
          refine gm_sz (gm_p_const (pc := 37) (i := .iconst 1) (v := gm_vi 1) (by decide +kernel) (by decide +kernel)) ?_
          refine gm_sz (gm_p_goto (pc := 38) (off := 4) (by decide +kernel) (by decide)) ?_
          have a9 : WTS N l (o l) := ⟨by omega, by omega, by omega, by omega⟩
          exact gm_r_int (pc := 42) (by decide +kernel) (Or.inr ⟨(by decide +kernel), Or.inr rfl⟩) (q1 a9 M21 (fr_t fr_0 hf21 (by decide)) hI21 e29 (e37 (by omega)))
    · have h14 : ¬ (N (119 + (l * 7 + 5))) < 0 := h14
      refine gm_sz (gm_p_const (pc := 17) (i := .iconst 0) (v := gm_vi 0) (by decide +kernel) (by decide +kernel)) ?_
      have a9 : ¬ WTS N l (o l) := fun ⟨a1, a2, a3, a4⟩ => by omega
      exact gm_r_int (pc := 18) (by decide +kernel) (Or.inr ⟨(by decide +kernel), Or.inl rfl⟩) (q0 a9 M fr_0 hI)
theorem rm_b (hd : 19 ≤ d) (hE : E0 n K R) (hT : TR N h M) (hN : NR N) (hg : LOGI N) (hfw : FLR X LX n K R N h FI φ) (hI : FI M) (hst : RSt FI) (hmo : MOR X LX n K R N h FI (Ψ N)) (hFX : ∀ M M2, FI M → fr [(227, none)] M M2 → (∀ j, 395 ≤ j → M2 227 j = M 227 j) → M2 227 8 = M 227 8 → FI M2) (h1 : 0 ≤ l ∧ l < N 4) (ho : OUTR N h φ l (o l) (dd l)) (hc : 0 ≤ c ∧ c ≤ 24) (hq : ∀ z M2, fr [(226, some 29), (226, some 30), (226, some 26), (226, some 17), (226, some 18), (226, some 19), (226, some 20), (226, some 21), (226, some 22), (226, some 23), (235, none), (233, none), (236, none), (237, none), (227, none)] M M2 → FI M2 → ((∀ j, 395 ≤ j → M2 227 j = M 227 j) ∧ M2 227 8 = M 227 8) → ws (M2 227) = (ystep Ψ o dd l (N, c)).1 → gm_Wp X LX d bc bs 321 15 [some (gm_vr 226), some (gm_vi (ystep Ψ o dd l (N, c)).2), some (gm_vi (l + 1)), z] [] n K R M2 Q) (z : Option gm_V) : gm_Wp X LX d bc bs 321 15 [some (gm_vr 226), some (gm_vi c), some (gm_vi l), z] [] n K R M Q := by
  obtain ⟨⟨⟨a0, b0⟩, ⟨a1, b1⟩, ⟨a10, b10⟩, ⟨a11, b11⟩, ⟨a12, b12⟩, a9, b9⟩, ⟨⟨a2, b2⟩, ⟨a5, b5⟩, ⟨a3, b3⟩, ⟨a4, b4⟩, ⟨a6, b6⟩, ⟨a14, b14⟩, ⟨a7, b7⟩, a13, b13⟩, rF, rP, rL⟩ := id hN
  have hl24 : 0 ≤ l ∧ l < 24 := ⟨h1.1, by omega⟩
  obtain ⟨r0, -, -, r3, -⟩ := rL l h1.1 h1.2
  have ob := OUTR_b ho r3.1
  refine gm_sz (gm_p_load (pc := 15) (i := .iload_n 2) (sr := 0) (j := 2) (by decide +kernel) rfl rfl rfl) ?_
  refine gm_sz (gm_p_load (pc := 16) (i := .aload_n 0) (sr := 2) (j := 0) (by decide +kernel) rfl rfl rfl) ?_
  refine gm_c_virt (k := 226) (ci := 11) (mj := 254) (ix := 100) (pc := 17) (as := []) (st := [gm_vi l]) (d' := d - 1) (bc' := 0) (bs' := 0) (by decide +kernel) (by decide +kernel) (by decide +kernel) (by decide +kernel) (e0k hE (k := 226) (c := 11) (by decide +kernel)).1 (e0k hE (k := 226) (c := 11) (by decide +kernel)).2 (by decide) (by decide +kernel) (show 0 = gm_na 254 by decide +kernel) fw_c0 (show 1 ≤ gm_ml 254 by decide +kernel) (Nat.le_of_ble_eq_true rfl) (by omega) (Nat.zero_le _) (Nat.zero_le _) ?_
  refine re_let hE hT hN ?_
  show gm_Wp X LX d _ _ 321 20 _ [gm_vi (N 4), gm_vi l] n K _ _ Q
  refine fw_icf (cc := .ge) (pc := 20) (off := 43) (by decide +kernel) (by decide) ⟨by omega, by omega⟩ ⟨by omega, by omega⟩ (show ¬ (N 4) ≤ l by omega) ?_
  refine gm_sz (gm_p_load (pc := 23) (i := .aload_n 0) (sr := 2) (j := 0) (by decide +kernel) rfl rfl rfl) ?_
  refine gm_sz (gm_p_load (pc := 24) (i := .iload_n 2) (sr := 0) (j := 2) (by decide +kernel) rfl rfl rfl) ?_
  refine gm_c_virt (k := 226) (ci := 11) (mj := 302) (ix := 390) (pc := 25) (as := [gm_vi l]) (st := []) (d' := d - 1) (bc' := 0) (bs' := 0) (by decide +kernel) (by decide +kernel) (by decide +kernel) (by decide +kernel) (e0k hE (k := 226) (c := 11) (by decide +kernel)).1 (e0k hE (k := 226) (c := 11) (by decide +kernel)).2 (by decide) (by decide +kernel) (show 1 = gm_na 302 by decide +kernel) (fw_c1 fw_si) (show 2 ≤ gm_ml 302 by decide +kernel) (Nat.le_of_ble_eq_true rfl) (by omega) (Nat.zero_le _) (Nat.zero_le _) ?_
  refine rw_c302 (o := o) (dd := dd) (by omega) hE hT hN hfw hI h1 ho (fun v25 M25 hf25 hI25 e29 e37 => ?_) (fun v25 M25 hf25 hI25 => ?_)
  · show gm_Wp X LX d _ _ 321 28 _ [gm_vi 1] n K _ _ Q
    have w33 : 0 ≤ (N (119 + (l * 7 + 0))) := by have := v25.1; omega
    have b25 := opf_b (ψ := Ψ N) (dp := dd l) hN h1 w33
    refine fw_iffd (cc := .eq) (pc := 28) (off := 11) (by decide +kernel) (by decide) ⟨by decide, by decide⟩ (by decide) ?_
    refine gm_sz (gm_p_load (pc := 31) (i := .aload_n 0) (sr := 2) (j := 0) (by decide +kernel) rfl rfl rfl) ?_
    refine gm_sz (gm_p_load (pc := 32) (i := .iload_n 2) (sr := 0) (j := 2) (by decide +kernel) rfl rfl rfl) ?_
    refine gm_c_virt (k := 226) (ci := 11) (mj := 322) (ix := 420) (pc := 33) (as := [gm_vi l]) (st := []) (d' := d - 1) (bc' := 0) (bs' := 0) (by decide +kernel) (by decide +kernel) (by decide +kernel) (by decide +kernel) (e0k hE (k := 226) (c := 11) (by decide +kernel)).1 (e0k hE (k := 226) (c := 11) (by decide +kernel)).2 (by decide) (by decide +kernel) (show 1 = gm_na 322 by decide +kernel) (fw_c1 fw_si) (show 2 ≤ gm_ml 322 by decide +kernel) (Nat.le_of_ble_eq_true rfl) (by omega) (Nat.zero_le _) (Nat.zero_le _) ?_
    refine ro_c322 (dp := dd l) (by omega) hE (tr_fr (W := [(226, some 29), (226, some 30), (226, some 26), (226, some 17), (226, some 18), (226, some 19), (226, some 20), (226, some 21), (226, some 22), (226, some 23), (235, none), (233, none), (236, none), (237, none)]) hT (fr_t fr_0 hf25 (by decide)) (by decide)) hN hst hmo hI25 h1 w33 (by rw [e29]; exact ⟨by have := v25.2.2.1; omega, by omega⟩) (by rw [e29]; exact e37) (fun M33 hf33 => ?_)
    show gm_Wp X LX d _ _ 321 36 _ [gm_vi (opf N (Ψ N) l (dd l))] n K _ _ Q
    refine gm_sz (gm_p_goto (pc := 36) (off := 4) (by decide +kernel) (by decide)) ?_
    refine gm_sz (gm_p_stor (pc := 40) (i := .istore_n 3) (sr := 0) (j := 3) (by decide +kernel) rfl (show 4 ≤ _ from Nat.le_of_ble_eq_true rfl) rfl) ?_
    refine gm_sz (gm_p_load (pc := 41) (i := .iload_n 3) (sr := 0) (j := 3) (by decide +kernel) rfl rfl rfl) ?_
    refine fw_if (cc := .ge) (pc := 42) (off := 6) (by decide +kernel) (by decide) ⟨by omega, by omega⟩ (fun h42 => ?_) (fun h42 => ?_)
    · have h42 : 0 ≤ (opf N (Ψ N) l (dd l)) := h42
      refine gm_sz (gm_p_load (pc := 48) (i := .aload_n 0) (sr := 2) (j := 0) (by decide +kernel) rfl rfl rfl) ?_
      refine gm_sz (gm_p_load (pc := 49) (i := .iload_n 2) (sr := 0) (j := 2) (by decide +kernel) rfl rfl rfl) ?_
      refine gm_sz (gm_p_load (pc := 50) (i := .iload_n 3) (sr := 0) (j := 3) (by decide +kernel) rfl rfl rfl) ?_
      refine gm_c_virt (k := 226) (ci := 11) (mj := 319) (ix := 414) (pc := 51) (as := [gm_vi l, gm_vi (opf N (Ψ N) l (dd l))]) (st := []) (d' := d - 1) (bc' := 0) (bs' := 0) (by decide +kernel) (by decide +kernel) (by decide +kernel) (by decide +kernel) (e0k hE (k := 226) (c := 11) (by decide +kernel)).1 (e0k hE (k := 226) (c := 11) (by decide +kernel)).2 (by decide) (by decide +kernel) (show 2 = gm_na 319 by decide +kernel) (fw_c2 fw_si fw_si) (show 3 ≤ gm_ml 319 by decide +kernel) (Nat.le_of_ble_eq_true rfl) (by omega) (Nat.zero_le _) (Nat.zero_le _) ?_
      refine re_op (by omega) hE (tr_fr (W := [(226, some 29), (226, some 30), (226, some 26), (226, some 17), (226, some 18), (226, some 19), (226, some 20), (226, some 21), (226, some 22), (226, some 23), (235, none), (233, none), (236, none), (237, none)]) hT (fr_t (fr_t fr_0 hf25 (by decide)) hf33 (by decide)) (by decide)) hN hl24 (logi_lt hN hg h1 v25.2.1) (fun M51 hf51 hw51 hg51 hg8 => ?_)
      show gm_Wp X LX d _ _ 321 54 _ [] n K _ _ Q
      refine gm_sz (gm_p_iinc (pc := 54) (j := 1) (z := 1) (by decide +kernel) rfl) ?_
      refine gm_sz (gm_p_iinc (pc := 57) (j := 2) (z := 1) (by decide +kernel) rfl) ?_
      refine gm_sz (gm_p_goto (pc := 60) (off := (-45)) (by decide +kernel) (by decide)) ?_
      have e9 : ystep Ψ o dd l (N, c) = (nopn N l (opf N (Ψ N) l (dd l)), c + 1) := tif_t ⟨v25, show ¬ opf N (Ψ N) l (dd l) = -1 by omega⟩
      rw [e9] at hq
      exact hq _ M51 (fr_t (fr_t (fr_t fr_0 hf25 (by decide)) hf33 (by decide)) hf51 (by decide)) (hFX _ _ (hst [(226, some 17), (226, some 18), (226, some 19), (226, some 20), (226, some 21), (226, some 22), (226, some 23), (233, none)] _ _ (by decide) hf33 hI25) hf51 hg51 hg8) ⟨fun j hj => (hg51 j hj).trans ((fr_c hf33 (by decide)).trans (fr_c hf25 (by decide))), hg8.trans ((fr_c hf33 (by decide)).trans (fr_c hf25 (by decide)))⟩ hw51
    · have h42 : ¬ 0 ≤ (opf N (Ψ N) l (dd l)) := h42
      refine gm_sz (gm_p_goto (pc := 45) (off := 12) (by decide +kernel) (by decide)) ?_
      refine gm_sz (gm_p_iinc (pc := 57) (j := 2) (z := 1) (by decide +kernel) rfl) ?_
      refine gm_sz (gm_p_goto (pc := 60) (off := (-45)) (by decide +kernel) (by decide)) ?_
      have e9 : ystep Ψ o dd l (N, c) = (N, c) := tif_f (fun hh => hh.2 (show opf N (Ψ N) l (dd l) = -1 by omega))
      rw [e9] at hq
      exact hq _ M33 (fr_t (fr_t fr_0 hf25 (by decide)) hf33 (by decide)) (hst [(226, some 17), (226, some 18), (226, some 19), (226, some 20), (226, some 21), (226, some 22), (226, some 23), (233, none)] _ _ (by decide) hf33 hI25) ⟨fun j hj => (fr_c hf33 (by decide)).trans (fr_c hf25 (by decide)), (fr_c hf33 (by decide)).trans (fr_c hf25 (by decide))⟩ (tr_fr (W := [(226, some 29), (226, some 30), (226, some 26), (226, some 17), (226, some 18), (226, some 19), (226, some 20), (226, some 21), (226, some 22), (226, some 23), (235, none), (233, none), (236, none), (237, none)]) hT (fr_t (fr_t fr_0 hf25 (by decide)) hf33 (by decide)) (by decide)).1
  · show gm_Wp X LX d _ _ 321 28 _ [gm_vi 0] n K _ _ Q
    refine fw_iftd (cc := .eq) (pc := 28) (off := 11) (by decide +kernel) (by decide) ⟨by decide, by decide⟩ (by decide) ?_
    refine gm_sz (gm_p_const (pc := 39) (i := .iconst (-1)) (v := gm_vi (-1)) (by decide +kernel) (by decide +kernel)) ?_
    refine gm_sz (gm_p_stor (pc := 40) (i := .istore_n 3) (sr := 0) (j := 3) (by decide +kernel) rfl (show 4 ≤ _ from Nat.le_of_ble_eq_true rfl) rfl) ?_
    refine gm_sz (gm_p_load (pc := 41) (i := .iload_n 3) (sr := 0) (j := 3) (by decide +kernel) rfl rfl rfl) ?_
    refine fw_iffd (cc := .ge) (pc := 42) (off := 6) (by decide +kernel) (by decide) ⟨by decide, by decide⟩ (by decide) ?_
    refine gm_sz (gm_p_goto (pc := 45) (off := 12) (by decide +kernel) (by decide)) ?_
    refine gm_sz (gm_p_iinc (pc := 57) (j := 2) (z := 1) (by decide +kernel) rfl) ?_
    refine gm_sz (gm_p_goto (pc := 60) (off := (-45)) (by decide +kernel) (by decide)) ?_
    have e9 : ystep Ψ o dd l (N, c) = (N, c) := tif_f (fun hh => v25 hh.1)
    rw [e9] at hq
    exact hq _ M25 (fr_t fr_0 hf25 (by decide)) hI25 ⟨fun j hj => fr_c hf25 (by decide), fr_c hf25 (by decide)⟩ (tr_fr (W := [(226, some 29), (226, some 30), (226, some 26), (226, some 17), (226, some 18), (226, some 19), (226, some 20), (226, some 21), (226, some 22), (226, some 23), (235, none), (233, none), (236, none), (237, none)]) hT (fr_t fr_0 hf25 (by decide)) (by decide)).1
theorem rm_e (hd : 1 ≤ d) (hE : E0 n K R) (hT : TR N h M) (hN : NR N) (h1 : l = N 4) (hq : Q (.inl (some (gm_vi c))) n K R M) (z : Option gm_V) : gm_Wp X LX d bc bs 321 15 [some (gm_vr 226), some (gm_vi c), some (gm_vi l), z] [] n K R M Q := by
  obtain ⟨⟨⟨a0, b0⟩, ⟨a1, b1⟩, ⟨a10, b10⟩, ⟨a11, b11⟩, ⟨a12, b12⟩, a9, b9⟩, ⟨⟨a2, b2⟩, ⟨a5, b5⟩, ⟨a3, b3⟩, ⟨a4, b4⟩, ⟨a6, b6⟩, ⟨a14, b14⟩, ⟨a7, b7⟩, a13, b13⟩, rF, rP, rL⟩ := id hN
  refine gm_sz (gm_p_load (pc := 15) (i := .iload_n 2) (sr := 0) (j := 2) (by decide +kernel) rfl rfl rfl) ?_
  refine gm_sz (gm_p_load (pc := 16) (i := .aload_n 0) (sr := 2) (j := 0) (by decide +kernel) rfl rfl rfl) ?_
  refine gm_c_virt (k := 226) (ci := 11) (mj := 254) (ix := 100) (pc := 17) (as := []) (st := [gm_vi l]) (d' := d - 1) (bc' := 0) (bs' := 0) (by decide +kernel) (by decide +kernel) (by decide +kernel) (by decide +kernel) (e0k hE (k := 226) (c := 11) (by decide +kernel)).1 (e0k hE (k := 226) (c := 11) (by decide +kernel)).2 (by decide) (by decide +kernel) (show 0 = gm_na 254 by decide +kernel) fw_c0 (show 1 ≤ gm_ml 254 by decide +kernel) (Nat.le_of_ble_eq_true rfl) (by omega) (Nat.zero_le _) (Nat.zero_le _) ?_
  refine re_let hE hT hN ?_
  show gm_Wp X LX d _ _ 321 20 _ [gm_vi (N 4), gm_vi l] n K _ _ Q
  refine fw_ict (cc := .ge) (pc := 20) (off := 43) (by decide +kernel) (by decide) ⟨by omega, by omega⟩ ⟨by omega, by omega⟩ (show (N 4) ≤ l by omega) ?_
  refine gm_sz (gm_p_load (pc := 63) (i := .iload_n 1) (sr := 0) (j := 1) (by decide +kernel) rfl rfl rfl) ?_
  exact gm_r_int (pc := 64) (by decide +kernel) (Or.inl (by decide +kernel)) hq
end YM4
end
