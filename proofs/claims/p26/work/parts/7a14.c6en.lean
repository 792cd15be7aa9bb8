/-! 7a14.c6en -/
section
/-! THE CLASS'S ENDS: when each LETTER is out, how deep (laid by wip/core/c6.py). -/
/-- when it is out (-1: never), how deep then -/
def OUTR (N h : Int → Int) (φ : Int → Int → Int → Int) (l o d : Int) : Prop := (o = -1 ∧ ∀ j : Nat, (N (119 + (l * 7 + 3))) + (j : Int) ≤ 299 → (nwy N h φ ((N (119 + (l * 7 + 2)))) (if (N (119 + (l * 7 + 0))) = -1 then 1 else 0) (-1) ((N (119 + (l * 7 + 3)))) ((N (119 + (l * 7 + 4)))) j).1 < N 1) ∨ ∃ j : Nat, (N (119 + (l * 7 + 3))) + (j : Int) ≤ 299 ∧ o = (N (119 + (l * 7 + 3))) + (j : Int) ∧ N 1 ≤ (nwy N h φ ((N (119 + (l * 7 + 2)))) (if (N (119 + (l * 7 + 0))) = -1 then 1 else 0) (-1) ((N (119 + (l * 7 + 3)))) ((N (119 + (l * 7 + 4)))) j).1 ∧ (∀ i, i < j → (nwy N h φ ((N (119 + (l * 7 + 2)))) (if (N (119 + (l * 7 + 0))) = -1 then 1 else 0) (-1) ((N (119 + (l * 7 + 3)))) ((N (119 + (l * 7 + 4)))) i).1 < N 1) ∧ d = (nwy N h φ ((N (119 + (l * 7 + 2)))) (if (N (119 + (l * 7 + 0))) = -1 then 1 else 0) (-1) ((N (119 + (l * 7 + 3)))) ((N (119 + (l * 7 + 4)))) j).2
theorem OUTR_u {N h : Int → Int} {φ : Int → Int → Int → Int} {l o d o2 d2 : Int} (a : OUTR N h φ l o d) (b : OUTR N h φ l o2 d2) : o = o2 ∧ (0 ≤ (N (119 + (l * 7 + 3))) → 0 ≤ o → d = d2) := by
  rcases a with ⟨a1, a2⟩ | ⟨j, a1, a2, a3, a4, a5⟩
  · rcases b with ⟨b1, b2⟩ | ⟨i, b1, b2, b3, b4, b5⟩
    · exact ⟨by omega, fun _ h => by omega⟩
    · have := a2 i b1
      omega
  · rcases b with ⟨b1, b2⟩ | ⟨i, b1, b2, b3, b4, b5⟩
    · have := b2 j a1
      omega
    · have e : i = j := by
        rcases Nat.lt_trichotomy i j with h | h | h
        · have := a4 i h
          omega
        · exact h
        · have := b4 j h
          omega
      subst e
      exact ⟨by omega, fun _ _ => a5.trans b5.symm⟩
theorem OUTR_b {N h : Int → Int} {φ : Int → Int → Int → Int} {l o d : Int} (a : OUTR N h φ l o d) (h0 : 0 ≤ (N (119 + (l * 7 + 3)))) : -1 ≤ o ∧ o ≤ 299 := by
  rcases a with ⟨a1, a2⟩ | ⟨j, a1, a2, a3, a4, a5⟩ <;> exact ⟨by omega, by omega⟩
/-- the ends are right -/
def ENDS (N h : Int → Int) (φ : Int → Int → Int → Int) (M : gm_M) : Prop := M 220 3 = N 4 ∧ ∀ l, 0 ≤ l → l < N 4 → OUTR N h φ l (M 221 (l * 2 + 0)) (M 221 (l * 2 + 1))
section EN6
variable {X : Int → Int} {LX d bc bs n : Nat} {K : gm_K} {R : gm_R} {M : gm_M} {Q : gm_Q} {l o y p : Int} {N h : Int → Int} {sp : Int → Int → Int} {FI : gm_M → Prop} {φ : Int → Int → Int → Int}
theorem en_l (hd : 17 ≤ d) (hE : E0 n K R) (hT : TI N h sp M) (hN : NR N) (hfw : FLW X LX n K R N h sp FI φ) (hq : ∀ M2, fr [(206, some 2), (206, some 3), (206, some 4), (206, some 5), (206, some 6), (206, some 7), (206, some 8), (200, some 6), (204, none), (205, none), (220, some 3), (221, none), (1, some 15)] M M2 → FI M2 → M2 1 15 = 1 → ENDS N h φ M2 → Q (.inl none) n K R M2) : ∀ (u i : Nat) (M1 : gm_M), (i : Int) + (u : Int) = N 4 → fr [(206, some 2), (206, some 3), (206, some 4), (206, some 5), (206, some 6), (206, some 7), (206, some 8), (200, some 6), (204, none), (205, none), (220, some 3), (221, none), (1, some 15)] M M1 → FI M1 → M1 220 3 = N 4 → (∀ l : Int, 0 ≤ l → l < (i : Int) → OUTR N h φ l (M1 221 (l * 2 + 0)) (M1 221 (l * 2 + 1))) → gm_Wp X LX d bc bs 24 27 [some (gm_vr 1), some (gm_vi (i : Int))] [] n K R M1 Q := by
  obtain ⟨⟨⟨a0, b0⟩, ⟨a1, b1⟩, ⟨a10, b10⟩, ⟨a11, b11⟩, ⟨a12, b12⟩, a9, b9⟩, ⟨⟨a2, b2⟩, ⟨a5, b5⟩, ⟨a3, b3⟩, ⟨a4, b4⟩, ⟨a6, b6⟩, ⟨a14, b14⟩, ⟨a7, b7⟩, a13, b13⟩, rF, rP, rL⟩ := id hN
  intro u
  induction u with
  | zero =>
    intro i M1 hi hf hI1 h3 ho
    refine gm_sz (gm_p_load (pc := 27) (i := .iload_n 1) (sr := 0) (j := 1) (by decide +kernel) rfl rfl rfl) ?_
    refine gm_sz (gm_p_load (pc := 28) (i := .aload_n 0) (sr := 2) (j := 0) (by decide +kernel) rfl rfl rfl) ?_
    refine gm_sz (fw_gr (pc := 29) (ix := 97) (ci := 0) (j := 14) (r := 220) (by decide +kernel) (e0k hE (k := 1) (c := 0) (by decide +kernel)) (by decide +kernel) (by decide +kernel) (e0r hE (k := 1) (j := 14) (r := 220) (by decide +kernel))) ?_
    refine gm_c_virt (k := 220) (ci := 2) (mj := 9) (ix := 277) (pc := 32) (as := []) (st := [gm_vi (i : Int)]) (d' := d - 1) (bc' := 0) (bs' := 0) (by decide +kernel) (by decide +kernel) (by decide +kernel) (by decide +kernel) (e0k hE (k := 220) (c := 2) (by decide +kernel)).1 (e0k hE (k := 220) (c := 2) (by decide +kernel)).2 (by decide) (by decide +kernel) (show 0 = gm_na 9 by decide +kernel) fw_c0 (show 1 ≤ gm_ml 9 by decide +kernel) (Nat.le_of_ble_eq_true rfl) (by omega) (Nat.zero_le _) (Nat.zero_le _) ?_
    refine rw_size (s := N 4) (e0k hE (k := 220) (c := 2) (by decide +kernel)) h3 ?_
    show gm_Wp X LX d _ _ 24 35 _ [gm_vi (N 4), gm_vi (i : Int)] n K _ _ Q
    refine fw_ict (cc := .ge) (pc := 35) (off := 52) (by decide +kernel) (by decide) ⟨by omega, by omega⟩ ⟨by omega, by omega⟩ (show (N 4) ≤ (i : Int) by omega) ?_
    refine gm_sz (gm_p_load (pc := 87) (i := .aload_n 0) (sr := 2) (j := 0) (by decide +kernel) rfl rfl rfl) ?_
    refine gm_sz (gm_p_const (pc := 88) (i := .iconst 1) (v := gm_vi 1) (by decide +kernel) (by decide +kernel)) ?_
    refine gm_sz (fw_pz (pc := 89) (ix := 101) (ci := 0) (j := 15) (M' := gm_uM M1 1 15 1) (by decide +kernel) (e0k hE (k := 1) (c := 0) (by decide +kernel)) (by decide +kernel) (by decide +kernel) (by decide +kernel) (Or.inr rfl) rfl) ?_
    refine gm_r_void (pc := 92) (by decide +kernel) (by decide +kernel) (hq (gm_uM M1 1 15 1) (fr_p (fr_t fr_0 hf (by decide)) (Or.inr (by decide))) (hfw.2.1 [(1, some 15)] _ _ (by decide) (fr_p fr_0 (Or.inr (by decide))) hI1) uM_at ⟨((uM_ne (by omega)).trans h3), fun l l0 l1 => ?_⟩)
    rw [show (gm_uM M1 1 15 1) 221 (l * 2 + 0) = M1 221 (l * 2 + 0) from uM_ne (by omega), show (gm_uM M1 1 15 1) 221 (l * 2 + 1) = M1 221 (l * 2 + 1) from uM_ne (by omega)]
    exact ho l l0 (by omega)
  | succ u ih =>
    intro i M1 hi hf hI1 h3 ho
    obtain ⟨-, -, l2, l3, l4, -⟩ := rL (i : Int) (by omega) (by omega)
    have l5 : 0 ≤ (N (119 + ((i : Int) * 7 + 4))) ∧ (N (119 + ((i : Int) * 7 + 4))) ≤ 300 := ⟨l4.1, by have := l4.2; omega⟩
    have l4 := l5
    have rk9 : 0 ≤ (if (N (119 + ((i : Int) * 7 + 0))) = -1 then (1 : Int) else 0) ∧ (if (N (119 + ((i : Int) * 7 + 0))) = -1 then (1 : Int) else 0) ≤ 1 := by split <;> exact ⟨by decide, by decide⟩
    refine gm_sz (gm_p_load (pc := 27) (i := .iload_n 1) (sr := 0) (j := 1) (by decide +kernel) rfl rfl rfl) ?_
    refine gm_sz (gm_p_load (pc := 28) (i := .aload_n 0) (sr := 2) (j := 0) (by decide +kernel) rfl rfl rfl) ?_
    refine gm_sz (fw_gr (pc := 29) (ix := 97) (ci := 0) (j := 14) (r := 220) (by decide +kernel) (e0k hE (k := 1) (c := 0) (by decide +kernel)) (by decide +kernel) (by decide +kernel) (e0r hE (k := 1) (j := 14) (r := 220) (by decide +kernel))) ?_
    refine gm_c_virt (k := 220) (ci := 2) (mj := 9) (ix := 277) (pc := 32) (as := []) (st := [gm_vi (i : Int)]) (d' := d - 1) (bc' := 0) (bs' := 0) (by decide +kernel) (by decide +kernel) (by decide +kernel) (by decide +kernel) (e0k hE (k := 220) (c := 2) (by decide +kernel)).1 (e0k hE (k := 220) (c := 2) (by decide +kernel)).2 (by decide) (by decide +kernel) (show 0 = gm_na 9 by decide +kernel) fw_c0 (show 1 ≤ gm_ml 9 by decide +kernel) (Nat.le_of_ble_eq_true rfl) (by omega) (Nat.zero_le _) (Nat.zero_le _) ?_
    refine rw_size (s := N 4) (e0k hE (k := 220) (c := 2) (by decide +kernel)) h3 ?_
    show gm_Wp X LX d _ _ 24 35 _ [gm_vi (N 4), gm_vi (i : Int)] n K _ _ Q
    refine fw_icf (cc := .ge) (pc := 35) (off := 52) (by decide +kernel) (by decide) ⟨by omega, by omega⟩ ⟨by omega, by omega⟩ (show ¬ (N 4) ≤ (i : Int) by omega) ?_
    refine gm_sz (gm_p_load (pc := 38) (i := .aload_n 0) (sr := 2) (j := 0) (by decide +kernel) rfl rfl rfl) ?_
    refine gm_sz (fw_gr (pc := 39) (ix := 58) (ci := 0) (j := 9) (r := 206) (by decide +kernel) (e0k hE (k := 1) (c := 0) (by decide +kernel)) (by decide +kernel) (by decide +kernel) (e0r hE (k := 1) (j := 9) (r := 206) (by decide +kernel))) ?_
    refine gm_sz (gm_p_load (pc := 42) (i := .iload_n 1) (sr := 0) (j := 1) (by decide +kernel) rfl rfl rfl) ?_
    refine gm_c_virt (k := 206) (ci := 5) (mj := 27) (ix := 217) (pc := 43) (as := [gm_vi (i : Int)]) (st := []) (d' := d - 1) (bc' := 0) (bs' := 0) (by decide +kernel) (by decide +kernel) (by decide +kernel) (by decide +kernel) (e0k hE (k := 206) (c := 5) (by decide +kernel)).1 (e0k hE (k := 206) (c := 5) (by decide +kernel)).2 (by decide) (by decide +kernel) (show 1 = gm_na 27 by decide +kernel) (fw_c1 fw_si) (show 2 ≤ gm_ml 27 by decide +kernel) (Nat.le_of_ble_eq_true rfl) (by omega) (Nat.zero_le _) (Nat.zero_le _) ?_
    refine wy_let206 (by omega) hE (ti_fr (W := [(206, some 2), (206, some 3), (206, some 4), (206, some 5), (206, some 6), (206, some 7), (206, some 8), (200, some 6), (204, none), (205, none), (220, some 3), (221, none), (1, some 15)]) hT (fr_t fr_0 hf (by decide)) (by decide) (by decide +kernel)) hN ⟨by omega, by omega⟩ ?_
    show gm_Wp X LX d _ _ 24 46 _ [] n K _ _ Q
    refine gm_sz (gm_p_load (pc := 46) (i := .aload_n 0) (sr := 2) (j := 0) (by decide +kernel) rfl rfl rfl) ?_
    refine gm_sz (fw_gr (pc := 47) (ix := 97) (ci := 0) (j := 14) (r := 220) (by decide +kernel) (e0k hE (k := 1) (c := 0) (by decide +kernel)) (by decide +kernel) (by decide +kernel) (e0r hE (k := 1) (j := 14) (r := 220) (by decide +kernel))) ?_
    refine gm_sz (gm_p_load (pc := 50) (i := .iload_n 1) (sr := 0) (j := 1) (by decide +kernel) rfl rfl rfl) ?_
    refine gm_sz (gm_p_const (pc := 51) (i := .iconst 0) (v := gm_vi 0) (by decide +kernel) (by decide +kernel)) ?_
    refine gm_sz (gm_p_load (pc := 52) (i := .aload_n 0) (sr := 2) (j := 0) (by decide +kernel) rfl rfl rfl) ?_
    refine gm_sz (fw_gr (pc := 53) (ix := 58) (ci := 0) (j := 9) (r := 206) (by decide +kernel) (e0k hE (k := 1) (c := 0) (by decide +kernel)) (by decide +kernel) (by decide +kernel) (e0r hE (k := 1) (j := 9) (r := 206) (by decide +kernel))) ?_
    refine gm_sz (gm_p_const (pc := 56) (i := .sipush 299) (v := gm_vi 299) (by decide +kernel) (by decide +kernel)) ?_
    refine gm_c_virt (k := 206) (ci := 5) (mj := 30) (ix := 295) (pc := 59) (as := [gm_vi 299]) (st := [gm_vi 0, gm_vi (i : Int), gm_vr 220]) (d' := d - 1) (bc' := 0) (bs' := 0) (by decide +kernel) (by decide +kernel) (by decide +kernel) (by decide +kernel) (e0k hE (k := 206) (c := 5) (by decide +kernel)).1 (e0k hE (k := 206) (c := 5) (by decide +kernel)).2 (by decide) (by decide +kernel) (show 1 = gm_na 30 by decide +kernel) (fw_c1 fw_si) (show 2 ≤ gm_ml 30 by decide +kernel) (Nat.le_of_ble_eq_true rfl) (by omega) (Nat.zero_le _) (Nat.zero_le _) ?_
    refine wy_c30_206 (lane := (N (119 + ((i : Int) * 7 + 2)))) (rock := (if (N (119 + ((i : Int) * 7 + 0))) = -1 then 1 else 0)) (wo := -1) (r0 := (N (119 + ((i : Int) * 7 + 4)))) (y0 := (N (119 + ((i : Int) * 7 + 3)))) (lim := 299) (by omega) hE (ti_fr (W := [(206, some 2), (206, some 3), (206, some 4), (206, some 5), (206, some 6), (206, some 7), (206, some 8), (200, some 6), (204, none), (205, none), (220, some 3), (221, none), (1, some 15)]) hT (fr_p (fr_p (fr_p (fr_p (fr_p (fr_p (fr_p (fr_t fr_0 hf (by decide)) (Or.inr (by decide))) (Or.inr (by decide))) (Or.inr (by decide))) (Or.inr (by decide))) (Or.inr (by decide))) (Or.inr (by decide))) (Or.inr (by decide))) (by decide) (by decide +kernel)) hN hfw (hfw.2.1 [(206, some 2), (206, some 5), (206, some 7), (206, some 3), (206, some 4), (206, some 6), (206, some 8)] _ _ (by decide) (fr_p (fr_p (fr_p (fr_p (fr_p (fr_p (fr_p fr_0 (Or.inr (by decide))) (Or.inr (by decide))) (Or.inr (by decide))) (Or.inr (by decide))) (Or.inr (by decide))) (Or.inr (by decide))) (Or.inr (by decide))) hI1) ((uM_ne (by omega)).trans ((uM_ne (by omega)).trans ((uM_ne (by omega)).trans ((uM_ne (by omega)).trans ((uM_ne (by omega)).trans ((uM_ne (by omega)).trans uM_at)))))) ((uM_ne (by omega)).trans ((uM_ne (by omega)).trans ((uM_ne (by omega)).trans uM_at))) ((uM_ne (by omega)).trans ((uM_ne (by omega)).trans uM_at)) ((uM_ne (by omega)).trans ((uM_ne (by omega)).trans ((uM_ne (by omega)).trans ((uM_ne (by omega)).trans ((uM_ne (by omega)).trans uM_at))))) ((uM_ne (by omega)).trans uM_at) ((uM_ne (by omega)).trans ((uM_ne (by omega)).trans ((uM_ne (by omega)).trans ((uM_ne (by omega)).trans uM_at)))) l3.1 l2 rk9 ⟨by decide, by decide⟩ l4 (by have := l3.2; omega) (by decide) (by decide) (fun j9 M30 hf30 hI30 g1 g2 g3 g5 g6 => ?_) (fun M30 hf30 hI30 g1 => ?_)
    · show gm_Wp X LX d _ _ 24 62 _ [gm_vi ((N (119 + ((i : Int) * 7 + 3))) + (j9 : Int)), gm_vi 0, gm_vi (i : Int), gm_vr 220] n K _ _ Q
      refine gm_c_virt (k := 220) (ci := 2) (mj := 45) (ix := 250) (pc := 62) (as := [gm_vi (i : Int), gm_vi 0, gm_vi ((N (119 + ((i : Int) * 7 + 3))) + (j9 : Int))]) (st := []) (d' := d - 1) (bc' := 0) (bs' := 0) (by decide +kernel) (by decide +kernel) (by decide +kernel) (by decide +kernel) (e0k hE (k := 220) (c := 2) (by decide +kernel)).1 (e0k hE (k := 220) (c := 2) (by decide +kernel)).2 (by decide) (by decide +kernel) (show 3 = gm_na 45 by decide +kernel) (fw_c3 fw_si fw_si fw_si) (show 4 ≤ gm_ml 45 by decide +kernel) (Nat.le_of_ble_eq_true rfl) (by omega) (Nat.zero_le _) (Nat.zero_le _) ?_
      refine rw_put (s := N 4) (w := 2) (e0k hE (k := 220) (c := 2) (by decide +kernel)) (e0a hE (k := 221) (q := (0, 48)) (by decide +kernel)) (e0r hE (k := 220) (j := 2) (r := 221) (by decide +kernel)) (by decide) ((fr_c hf30 (by decide)).trans ((uM_ne (by omega)).trans ((uM_ne (by omega)).trans ((uM_ne (by omega)).trans ((uM_ne (by omega)).trans ((uM_ne (by omega)).trans ((uM_ne (by omega)).trans ((uM_ne (by omega)).trans h3)))))))) ((fr_c hf30 (by decide)).trans ((uM_ne (by omega)).trans ((uM_ne (by omega)).trans ((uM_ne (by omega)).trans ((uM_ne (by omega)).trans ((uM_ne (by omega)).trans ((uM_ne (by omega)).trans ((uM_ne (by omega)).trans ((fr_j hf (by decide)).trans (hT.1 (220, 1, 2) (by decide))))))))))) ⟨by omega, by omega⟩ ⟨by omega, by omega⟩ ⟨by omega, by omega⟩ ⟨by omega, by omega⟩ ?_
      show gm_Wp X LX d _ _ 24 65 _ [] n K _ _ Q
      refine gm_sz (gm_p_load (pc := 65) (i := .aload_n 0) (sr := 2) (j := 0) (by decide +kernel) rfl rfl rfl) ?_
      refine gm_sz (fw_gr (pc := 66) (ix := 97) (ci := 0) (j := 14) (r := 220) (by decide +kernel) (e0k hE (k := 1) (c := 0) (by decide +kernel)) (by decide +kernel) (by decide +kernel) (e0r hE (k := 1) (j := 14) (r := 220) (by decide +kernel))) ?_
      refine gm_sz (gm_p_load (pc := 69) (i := .iload_n 1) (sr := 0) (j := 1) (by decide +kernel) rfl rfl rfl) ?_
      refine gm_sz (gm_p_const (pc := 70) (i := .iconst 1) (v := gm_vi 1) (by decide +kernel) (by decide +kernel)) ?_
      refine gm_sz (gm_p_load (pc := 71) (i := .aload_n 0) (sr := 2) (j := 0) (by decide +kernel) rfl rfl rfl) ?_
      refine gm_sz (fw_gr (pc := 72) (ix := 58) (ci := 0) (j := 9) (r := 206) (by decide +kernel) (e0k hE (k := 1) (c := 0) (by decide +kernel)) (by decide +kernel) (by decide +kernel) (e0r hE (k := 1) (j := 9) (r := 206) (by decide +kernel))) ?_
      refine gm_sz (fw_gi (pc := 75) (ix := 209) (ci := 5) (j := 6) (x := (nwy N h φ ((N (119 + ((i : Int) * 7 + 2)))) (if (N (119 + ((i : Int) * 7 + 0))) = -1 then 1 else 0) (-1) ((N (119 + ((i : Int) * 7 + 3)))) ((N (119 + ((i : Int) * 7 + 4)))) j9).2) (by decide +kernel) (e0k hE (k := 206) (c := 5) (by decide +kernel)) (by decide +kernel) (by decide +kernel) ((uM_ne (by omega)).trans g6)) ?_
      refine gm_c_virt (k := 220) (ci := 2) (mj := 45) (ix := 250) (pc := 78) (as := [gm_vi (i : Int), gm_vi 1, gm_vi ((nwy N h φ ((N (119 + ((i : Int) * 7 + 2)))) (if (N (119 + ((i : Int) * 7 + 0))) = -1 then 1 else 0) (-1) ((N (119 + ((i : Int) * 7 + 3)))) ((N (119 + ((i : Int) * 7 + 4)))) j9).2)]) (st := []) (d' := d - 1) (bc' := 0) (bs' := 0) (by decide +kernel) (by decide +kernel) (by decide +kernel) (by decide +kernel) (e0k hE (k := 220) (c := 2) (by decide +kernel)).1 (e0k hE (k := 220) (c := 2) (by decide +kernel)).2 (by decide) (by decide +kernel) (show 3 = gm_na 45 by decide +kernel) (fw_c3 fw_si fw_si fw_si) (show 4 ≤ gm_ml 45 by decide +kernel) (Nat.le_of_ble_eq_true rfl) (by omega) (Nat.zero_le _) (Nat.zero_le _) ?_
      refine rw_put (s := N 4) (w := 2) (e0k hE (k := 220) (c := 2) (by decide +kernel)) (e0a hE (k := 221) (q := (0, 48)) (by decide +kernel)) (e0r hE (k := 220) (j := 2) (r := 221) (by decide +kernel)) (by decide) ((uM_ne (by omega)).trans ((fr_c hf30 (by decide)).trans ((uM_ne (by omega)).trans ((uM_ne (by omega)).trans ((uM_ne (by omega)).trans ((uM_ne (by omega)).trans ((uM_ne (by omega)).trans ((uM_ne (by omega)).trans ((uM_ne (by omega)).trans h3))))))))) ((uM_ne (by omega)).trans ((fr_c hf30 (by decide)).trans ((uM_ne (by omega)).trans ((uM_ne (by omega)).trans ((uM_ne (by omega)).trans ((uM_ne (by omega)).trans ((uM_ne (by omega)).trans ((uM_ne (by omega)).trans ((uM_ne (by omega)).trans ((fr_j hf (by decide)).trans (hT.1 (220, 1, 2) (by decide)))))))))))) ⟨by omega, by omega⟩ ⟨by omega, by omega⟩ ⟨by omega, by omega⟩ ⟨by omega, by omega⟩ ?_
      show gm_Wp X LX d _ _ 24 81 _ [] n K _ _ Q
      refine gm_sz (gm_p_iinc (pc := 81) (j := 1) (z := 1) (by decide +kernel) rfl) ?_
      refine gm_sz (gm_p_goto (pc := 84) (off := (-57)) (by decide +kernel) (by decide)) ?_
      refine ih (i + 1) _ (by omega) (fr_p (fr_p (fr_t (fr_p (fr_p (fr_p (fr_p (fr_p (fr_p (fr_p (fr_t fr_0 hf (by decide)) (Or.inr (by decide))) (Or.inr (by decide))) (Or.inr (by decide))) (Or.inr (by decide))) (Or.inr (by decide))) (Or.inr (by decide))) (Or.inr (by decide))) hf30 (by decide)) (Or.inl (by decide))) (Or.inl (by decide))) (hfw.2.1 [(221, none)] _ _ (by decide) (fr_p (fr_p fr_0 (Or.inl (by decide))) (Or.inl (by decide))) hI30) ((uM_ne (by omega)).trans ((uM_ne (by omega)).trans ((fr_c hf30 (by decide)).trans ((uM_ne (by omega)).trans ((uM_ne (by omega)).trans ((uM_ne (by omega)).trans ((uM_ne (by omega)).trans ((uM_ne (by omega)).trans ((uM_ne (by omega)).trans ((uM_ne (by omega)).trans h3)))))))))) (fun l l0 l1 => ?_)
      by_cases e : l = (i : Int)
      · subst e
        rw [show (gm_uM (gm_uM M30 221 ((i : Int) * 2 + 0) ((N (119 + ((i : Int) * 7 + 3))) + (j9 : Int))) 221 ((i : Int) * 2 + 1) ((nwy N h φ ((N (119 + ((i : Int) * 7 + 2)))) (if (N (119 + ((i : Int) * 7 + 0))) = -1 then 1 else 0) (-1) ((N (119 + ((i : Int) * 7 + 3)))) ((N (119 + ((i : Int) * 7 + 4)))) j9).2)) 221 ((i : Int) * 2 + 0) = (N (119 + ((i : Int) * 7 + 3))) + (j9 : Int) from ((uM_ne (by omega)).trans uM_at), show (gm_uM (gm_uM M30 221 ((i : Int) * 2 + 0) ((N (119 + ((i : Int) * 7 + 3))) + (j9 : Int))) 221 ((i : Int) * 2 + 1) ((nwy N h φ ((N (119 + ((i : Int) * 7 + 2)))) (if (N (119 + ((i : Int) * 7 + 0))) = -1 then 1 else 0) (-1) ((N (119 + ((i : Int) * 7 + 3)))) ((N (119 + ((i : Int) * 7 + 4)))) j9).2)) 221 ((i : Int) * 2 + 1) = (nwy N h φ ((N (119 + ((i : Int) * 7 + 2)))) (if (N (119 + ((i : Int) * 7 + 0))) = -1 then 1 else 0) (-1) ((N (119 + ((i : Int) * 7 + 3)))) ((N (119 + ((i : Int) * 7 + 4)))) j9).2 from uM_at]
        exact Or.inr ⟨j9, g1, rfl, g2, g3, rfl⟩
      · rw [show (gm_uM (gm_uM M30 221 ((i : Int) * 2 + 0) ((N (119 + ((i : Int) * 7 + 3))) + (j9 : Int))) 221 ((i : Int) * 2 + 1) ((nwy N h φ ((N (119 + ((i : Int) * 7 + 2)))) (if (N (119 + ((i : Int) * 7 + 0))) = -1 then 1 else 0) (-1) ((N (119 + ((i : Int) * 7 + 3)))) ((N (119 + ((i : Int) * 7 + 4)))) j9).2)) 221 (l * 2 + 0) = M1 221 (l * 2 + 0) from ((uM_ne (by omega)).trans ((uM_ne (by omega)).trans ((fr_c hf30 (by decide)).trans ((uM_ne (by omega)).trans ((uM_ne (by omega)).trans ((uM_ne (by omega)).trans ((uM_ne (by omega)).trans ((uM_ne (by omega)).trans ((uM_ne (by omega)).trans ((uM_ne (by omega)).trans rfl)))))))))), show (gm_uM (gm_uM M30 221 ((i : Int) * 2 + 0) ((N (119 + ((i : Int) * 7 + 3))) + (j9 : Int))) 221 ((i : Int) * 2 + 1) ((nwy N h φ ((N (119 + ((i : Int) * 7 + 2)))) (if (N (119 + ((i : Int) * 7 + 0))) = -1 then 1 else 0) (-1) ((N (119 + ((i : Int) * 7 + 3)))) ((N (119 + ((i : Int) * 7 + 4)))) j9).2)) 221 (l * 2 + 1) = M1 221 (l * 2 + 1) from ((uM_ne (by omega)).trans ((uM_ne (by omega)).trans ((fr_c hf30 (by decide)).trans ((uM_ne (by omega)).trans ((uM_ne (by omega)).trans ((uM_ne (by omega)).trans ((uM_ne (by omega)).trans ((uM_ne (by omega)).trans ((uM_ne (by omega)).trans ((uM_ne (by omega)).trans rfl))))))))))]
        exact ho l l0 (by omega)
    · show gm_Wp X LX d _ _ 24 62 _ [gm_vi (-1), gm_vi 0, gm_vi (i : Int), gm_vr 220] n K _ _ Q
      refine gm_c_virt (k := 220) (ci := 2) (mj := 45) (ix := 250) (pc := 62) (as := [gm_vi (i : Int), gm_vi 0, gm_vi (-1)]) (st := []) (d' := d - 1) (bc' := 0) (bs' := 0) (by decide +kernel) (by decide +kernel) (by decide +kernel) (by decide +kernel) (e0k hE (k := 220) (c := 2) (by decide +kernel)).1 (e0k hE (k := 220) (c := 2) (by decide +kernel)).2 (by decide) (by decide +kernel) (show 3 = gm_na 45 by decide +kernel) (fw_c3 fw_si fw_si fw_si) (show 4 ≤ gm_ml 45 by decide +kernel) (Nat.le_of_ble_eq_true rfl) (by omega) (Nat.zero_le _) (Nat.zero_le _) ?_
      refine rw_put (s := N 4) (w := 2) (e0k hE (k := 220) (c := 2) (by decide +kernel)) (e0a hE (k := 221) (q := (0, 48)) (by decide +kernel)) (e0r hE (k := 220) (j := 2) (r := 221) (by decide +kernel)) (by decide) ((fr_c hf30 (by decide)).trans ((uM_ne (by omega)).trans ((uM_ne (by omega)).trans ((uM_ne (by omega)).trans ((uM_ne (by omega)).trans ((uM_ne (by omega)).trans ((uM_ne (by omega)).trans ((uM_ne (by omega)).trans h3)))))))) ((fr_c hf30 (by decide)).trans ((uM_ne (by omega)).trans ((uM_ne (by omega)).trans ((uM_ne (by omega)).trans ((uM_ne (by omega)).trans ((uM_ne (by omega)).trans ((uM_ne (by omega)).trans ((uM_ne (by omega)).trans ((fr_j hf (by decide)).trans (hT.1 (220, 1, 2) (by decide))))))))))) ⟨by omega, by omega⟩ ⟨by omega, by omega⟩ ⟨by omega, by omega⟩ ⟨by omega, by omega⟩ ?_
      show gm_Wp X LX d _ _ 24 65 _ [] n K _ _ Q
      refine gm_sz (gm_p_load (pc := 65) (i := .aload_n 0) (sr := 2) (j := 0) (by decide +kernel) rfl rfl rfl) ?_
      refine gm_sz (fw_gr (pc := 66) (ix := 97) (ci := 0) (j := 14) (r := 220) (by decide +kernel) (e0k hE (k := 1) (c := 0) (by decide +kernel)) (by decide +kernel) (by decide +kernel) (e0r hE (k := 1) (j := 14) (r := 220) (by decide +kernel))) ?_
      refine gm_sz (gm_p_load (pc := 69) (i := .iload_n 1) (sr := 0) (j := 1) (by decide +kernel) rfl rfl rfl) ?_
      refine gm_sz (gm_p_const (pc := 70) (i := .iconst 1) (v := gm_vi 1) (by decide +kernel) (by decide +kernel)) ?_
      refine gm_sz (gm_p_load (pc := 71) (i := .aload_n 0) (sr := 2) (j := 0) (by decide +kernel) rfl rfl rfl) ?_
      refine gm_sz (fw_gr (pc := 72) (ix := 58) (ci := 0) (j := 9) (r := 206) (by decide +kernel) (e0k hE (k := 1) (c := 0) (by decide +kernel)) (by decide +kernel) (by decide +kernel) (e0r hE (k := 1) (j := 9) (r := 206) (by decide +kernel))) ?_
      refine gm_sz (fw_gi (pc := 75) (ix := 209) (ci := 5) (j := 6) (x := M30 206 6) (by decide +kernel) (e0k hE (k := 206) (c := 5) (by decide +kernel)) (by decide +kernel) (by decide +kernel) (uM_ne (by omega))) ?_
      refine gm_c_virt (k := 220) (ci := 2) (mj := 45) (ix := 250) (pc := 78) (as := [gm_vi (i : Int), gm_vi 1, gm_vi (M30 206 6)]) (st := []) (d' := d - 1) (bc' := 0) (bs' := 0) (by decide +kernel) (by decide +kernel) (by decide +kernel) (by decide +kernel) (e0k hE (k := 220) (c := 2) (by decide +kernel)).1 (e0k hE (k := 220) (c := 2) (by decide +kernel)).2 (by decide) (by decide +kernel) (show 3 = gm_na 45 by decide +kernel) (fw_c3 fw_si fw_si fw_si) (show 4 ≤ gm_ml 45 by decide +kernel) (Nat.le_of_ble_eq_true rfl) (by omega) (Nat.zero_le _) (Nat.zero_le _) ?_
      refine rw_put (s := N 4) (w := 2) (e0k hE (k := 220) (c := 2) (by decide +kernel)) (e0a hE (k := 221) (q := (0, 48)) (by decide +kernel)) (e0r hE (k := 220) (j := 2) (r := 221) (by decide +kernel)) (by decide) ((uM_ne (by omega)).trans ((fr_c hf30 (by decide)).trans ((uM_ne (by omega)).trans ((uM_ne (by omega)).trans ((uM_ne (by omega)).trans ((uM_ne (by omega)).trans ((uM_ne (by omega)).trans ((uM_ne (by omega)).trans ((uM_ne (by omega)).trans h3))))))))) ((uM_ne (by omega)).trans ((fr_c hf30 (by decide)).trans ((uM_ne (by omega)).trans ((uM_ne (by omega)).trans ((uM_ne (by omega)).trans ((uM_ne (by omega)).trans ((uM_ne (by omega)).trans ((uM_ne (by omega)).trans ((uM_ne (by omega)).trans ((fr_j hf (by decide)).trans (hT.1 (220, 1, 2) (by decide)))))))))))) ⟨by omega, by omega⟩ ⟨by omega, by omega⟩ ⟨by omega, by omega⟩ ⟨by omega, by omega⟩ ?_
      show gm_Wp X LX d _ _ 24 81 _ [] n K _ _ Q
      refine gm_sz (gm_p_iinc (pc := 81) (j := 1) (z := 1) (by decide +kernel) rfl) ?_
      refine gm_sz (gm_p_goto (pc := 84) (off := (-57)) (by decide +kernel) (by decide)) ?_
      refine ih (i + 1) _ (by omega) (fr_p (fr_p (fr_t (fr_p (fr_p (fr_p (fr_p (fr_p (fr_p (fr_p (fr_t fr_0 hf (by decide)) (Or.inr (by decide))) (Or.inr (by decide))) (Or.inr (by decide))) (Or.inr (by decide))) (Or.inr (by decide))) (Or.inr (by decide))) (Or.inr (by decide))) hf30 (by decide)) (Or.inl (by decide))) (Or.inl (by decide))) (hfw.2.1 [(221, none)] _ _ (by decide) (fr_p (fr_p fr_0 (Or.inl (by decide))) (Or.inl (by decide))) hI30) ((uM_ne (by omega)).trans ((uM_ne (by omega)).trans ((fr_c hf30 (by decide)).trans ((uM_ne (by omega)).trans ((uM_ne (by omega)).trans ((uM_ne (by omega)).trans ((uM_ne (by omega)).trans ((uM_ne (by omega)).trans ((uM_ne (by omega)).trans ((uM_ne (by omega)).trans h3)))))))))) (fun l l0 l1 => ?_)
      by_cases e : l = (i : Int)
      · subst e
        rw [show (gm_uM (gm_uM M30 221 ((i : Int) * 2 + 0) (-1)) 221 ((i : Int) * 2 + 1) (M30 206 6)) 221 ((i : Int) * 2 + 0) = (-1) from ((uM_ne (by omega)).trans uM_at), show (gm_uM (gm_uM M30 221 ((i : Int) * 2 + 0) (-1)) 221 ((i : Int) * 2 + 1) (M30 206 6)) 221 ((i : Int) * 2 + 1) = M30 206 6 from uM_at]
        exact Or.inl ⟨rfl, g1⟩
      · rw [show (gm_uM (gm_uM M30 221 ((i : Int) * 2 + 0) (-1)) 221 ((i : Int) * 2 + 1) (M30 206 6)) 221 (l * 2 + 0) = M1 221 (l * 2 + 0) from ((uM_ne (by omega)).trans ((uM_ne (by omega)).trans ((fr_c hf30 (by decide)).trans ((uM_ne (by omega)).trans ((uM_ne (by omega)).trans ((uM_ne (by omega)).trans ((uM_ne (by omega)).trans ((uM_ne (by omega)).trans ((uM_ne (by omega)).trans ((uM_ne (by omega)).trans rfl)))))))))), show (gm_uM (gm_uM M30 221 ((i : Int) * 2 + 0) (-1)) 221 ((i : Int) * 2 + 1) (M30 206 6)) 221 (l * 2 + 1) = M1 221 (l * 2 + 1) from ((uM_ne (by omega)).trans ((uM_ne (by omega)).trans ((fr_c hf30 (by decide)).trans ((uM_ne (by omega)).trans ((uM_ne (by omega)).trans ((uM_ne (by omega)).trans ((uM_ne (by omega)).trans ((uM_ne (by omega)).trans ((uM_ne (by omega)).trans ((uM_ne (by omega)).trans rfl))))))))))]
        exact ho l l0 (by omega)
theorem en_c24 (hd : 17 ≤ d) (hE : E0 n K R) (hT : TI N h sp M) (hN : NR N) (hfw : FLW X LX n K R N h sp FI φ) (hI : FI M) (hb : gm_ir (M 1 15)) (hk : ¬ M 1 15 = 0 → M 1 15 = 1 ∧ ENDS N h φ M) (hq : ∀ M2, fr [(206, some 2), (206, some 3), (206, some 4), (206, some 5), (206, some 6), (206, some 7), (206, some 8), (200, some 6), (204, none), (205, none), (220, some 3), (221, none), (1, some 15)] M M2 → FI M2 → M2 1 15 = 1 → ENDS N h φ M2 → Q (.inl none) n K R M2) : gm_Wp X LX d bc bs 24 0 (gm_ent 24 [gm_vr 1]) [] n K R M Q := by
  obtain ⟨⟨⟨a0, b0⟩, ⟨a1, b1⟩, ⟨a10, b10⟩, ⟨a11, b11⟩, ⟨a12, b12⟩, a9, b9⟩, ⟨⟨a2, b2⟩, ⟨a5, b5⟩, ⟨a3, b3⟩, ⟨a4, b4⟩, ⟨a6, b6⟩, ⟨a14, b14⟩, ⟨a7, b7⟩, a13, b13⟩, rF, rP, rL⟩ := id hN
  refine gm_sz (gm_p_load (pc := 0) (i := .aload_n 0) (sr := 2) (j := 0) (by decide +kernel) rfl rfl rfl) ?_
  refine gm_sz (fw_gi (pc := 1) (ix := 101) (ci := 0) (j := 15) (x := M 1 15) (by decide +kernel) (e0k hE (k := 1) (c := 0) (by decide +kernel)) (by decide +kernel) (by decide +kernel) rfl) ?_
  refine fw_if (cc := .eq) (pc := 4) (off := 4) (by decide +kernel) (by decide) hb (fun h4 => ?_) (fun h4 => ?_)
  · have h4 : (M 1 15) = 0 := h4
    refine gm_sz (gm_p_load (pc := 8) (i := .aload_n 0) (sr := 2) (j := 0) (by decide +kernel) rfl rfl rfl) ?_
    refine gm_sz (fw_gr (pc := 9) (ix := 97) (ci := 0) (j := 14) (r := 220) (by decide +kernel) (e0k hE (k := 1) (c := 0) (by decide +kernel)) (by decide +kernel) (by decide +kernel) (e0r hE (k := 1) (j := 14) (r := 220) (by decide +kernel))) ?_
    refine gm_sz (gm_p_load (pc := 12) (i := .aload_n 0) (sr := 2) (j := 0) (by decide +kernel) rfl rfl rfl) ?_
    refine gm_sz (fw_gr (pc := 13) (ix := 23) (ci := 0) (j := 3) (r := 3) (by decide +kernel) (e0k hE (k := 1) (c := 0) (by decide +kernel)) (by decide +kernel) (by decide +kernel) (e0r hE (k := 1) (j := 3) (r := 3) (by decide +kernel))) ?_
    refine gm_sz (fw_gr (pc := 16) (ix := 203) (ci := 1) (j := 12) (r := 10) (by decide +kernel) (e0k hE (k := 3) (c := 1) (by decide +kernel)) (by decide +kernel) (by decide +kernel) (e0r hE (k := 3) (j := 12) (r := 10) (by decide +kernel))) ?_
    refine gm_c_virt (k := 10) (ci := 2) (mj := 9) (ix := 277) (pc := 19) (as := []) (st := [gm_vr 220]) (d' := d - 1) (bc' := 0) (bs' := 0) (by decide +kernel) (by decide +kernel) (by decide +kernel) (by decide +kernel) (e0k hE (k := 10) (c := 2) (by decide +kernel)).1 (e0k hE (k := 10) (c := 2) (by decide +kernel)).2 (by decide) (by decide +kernel) (show 0 = gm_na 9 by decide +kernel) fw_c0 (show 1 ≤ gm_ml 9 by decide +kernel) (Nat.le_of_ble_eq_true rfl) (by omega) (Nat.zero_le _) (Nat.zero_le _) ?_
    refine rw_size (s := N 4) (e0k hE (k := 10) (c := 2) (by decide +kernel)) (ti_let hT) ?_
    show gm_Wp X LX d _ _ 24 22 _ [gm_vi (N 4), gm_vr 220] n K _ _ Q
    refine gm_c_virt (k := 220) (ci := 2) (mj := 25) (ix := 390) (pc := 22) (as := [gm_vi (N 4)]) (st := []) (d' := d - 1) (bc' := 0) (bs' := 0) (by decide +kernel) (by decide +kernel) (by decide +kernel) (by decide +kernel) (e0k hE (k := 220) (c := 2) (by decide +kernel)).1 (e0k hE (k := 220) (c := 2) (by decide +kernel)).2 (by decide) (by decide +kernel) (show 1 = gm_na 25 by decide +kernel) (fw_c1 fw_si) (show 2 ≤ gm_ml 25 by decide +kernel) (Nat.le_of_ble_eq_true rfl) (by omega) (Nat.zero_le _) (Nat.zero_le _) ?_
    refine rw_reset (m := 24) (by omega) (e0k hE (k := 220) (c := 2) (by decide +kernel)) (e0a hE (k := 221) (q := (0, 48)) (by decide +kernel)) (e0r hE (k := 220) (j := 2) (r := 221) (by decide +kernel)) (by decide) (hT.1 (220, 0, 24) (by decide)) ⟨by omega, by omega⟩ (by omega) ?_
    show gm_Wp X LX d _ _ 24 25 _ [] n K _ _ Q
    refine gm_sz (gm_p_const (pc := 25) (i := .iconst 0) (v := gm_vi 0) (by decide +kernel) (by decide +kernel)) ?_
    refine gm_sz (gm_p_stor (pc := 26) (i := .istore_n 1) (sr := 0) (j := 1) (by decide +kernel) rfl (show 2 ≤ _ from Nat.le_of_ble_eq_true rfl) rfl) ?_
    exact en_l hd hE hT hN hfw hq (N 4).toNat 0 _ (by omega) (fr_t (fr_p fr_0 (Or.inr (by decide))) gm_fil_fr (by decide)) (hfw.2.1 [(220, some 3), (221, none)] _ _ (by decide) (fr_t (fr_p fr_0 (Or.inr (by decide))) gm_fil_fr (by decide)) hI) ((fr_c gm_fil_fr (by decide)).trans uM_at) (fun l l0 l1 => by omega)
  · have h4 : ¬ (M 1 15) = 0 := h4
    exact gm_r_void (pc := 7) (by decide +kernel) (by decide +kernel) (hq M fr_0 hI (hk h4).1 (hk h4).2)
theorem wt_67 (i1 : gm_ir o) (i2 : gm_ir y) (q0 : o = (-1) → Q (.inl (some (gm_vi 0))) n K R (M)) (q1 : ¬ o = (-1) → y < o → Q (.inl (some (gm_vi 0))) n K R (M)) (q2 : ¬ o = (-1) → ¬ y < o → Q (.inl (some (gm_vi 1))) n K R (M)) : gm_Wp X LX d bc bs 67 0 (gm_ent 67 [gm_vr 1, gm_vi o, gm_vi y]) [] n K R M Q := by
  refine gm_sz (gm_p_load (pc := 0) (i := .iload_n 1) (sr := 0) (j := 1) (by decide +kernel) rfl rfl rfl) ?_
  refine gm_sz (gm_p_const (pc := 1) (i := .iconst (-1)) (v := gm_vi (-1)) (by decide +kernel) (by decide +kernel)) ?_
  refine fw_ic (cc := .eq) (pc := 2) (off := 12) (by decide +kernel) (by decide) i1 ⟨by decide, by decide⟩ (fun h2 => ?_) (fun h2 => ?_)
  · have h2 : o = (-1) := h2
    refine gm_sz (gm_p_const (pc := 14) (i := .iconst 0) (v := gm_vi 0) (by decide +kernel) (by decide +kernel)) ?_
    exact gm_r_int (pc := 15) (by decide +kernel) (Or.inr ⟨(by decide +kernel), Or.inl rfl⟩) (q0 h2)
  · have h2 : ¬ o = (-1) := h2
    refine gm_sz (gm_p_load (pc := 5) (i := .iload_n 1) (sr := 0) (j := 1) (by decide +kernel) rfl rfl rfl) ?_
    refine gm_sz (gm_p_load (pc := 6) (i := .iload_n 2) (sr := 0) (j := 2) (by decide +kernel) rfl rfl rfl) ?_
    refine fw_ic (cc := .gt) (pc := 7) (off := 7) (by decide +kernel) (by decide) i1 i2 (fun h7 => ?_) (fun h7 => ?_)
    · have h7 : y < o := h7
      refine gm_sz (gm_p_const (pc := 14) (i := .iconst 0) (v := gm_vi 0) (by decide +kernel) (by decide +kernel)) ?_
      exact gm_r_int (pc := 15) (by decide +kernel) (Or.inr ⟨(by decide +kernel), Or.inl rfl⟩) (q1 h2 h7)
    · have h7 : ¬ y < o := h7
      refine gm_sz (gm_p_const (pc := 10) (i := .iconst 1) (v := gm_vi 1) (by decide +kernel) (by decide +kernel)) ?_
      refine gm_sz (gm_p_goto (pc := 11) (off := 4) (by decide +kernel) (by decide)) ?_
      exact gm_r_int (pc := 15) (by decide +kernel) (Or.inr ⟨(by decide +kernel), Or.inr rfl⟩) (q2 h2 h7)
/-- whether it waits -/
def WTS (N : Int → Int) (l o : Int) : Prop := ¬ (N (119 + (l * 7 + 0))) = -1 ∧ (N (119 + (l * 7 + 5))) = -1 ∧ ¬ o = -1 ∧ o ≤ N 9
theorem wt_c66 (hd : 2 ≤ d) (hE : E0 n K R) (hT : TI N h sp M) (hN : NR N) (h1 : 0 ≤ l ∧ l < N 4) (h3 : M 220 3 = N 4) (ho : M 221 (l * 2 + 0) = o) (hb : -1 ≤ o ∧ o ≤ 299) (q1 : WTS N l o → Q (.inl (some (gm_vi 1))) n K R M) (q0 : ¬ WTS N l o → Q (.inl (some (gm_vi 0))) n K R M) : gm_Wp X LX d bc bs 66 0 (gm_ent 66 [gm_vr 1, gm_vi l]) [] n K R M Q := by
  obtain ⟨⟨⟨a0, b0⟩, ⟨a1, b1⟩, ⟨a10, b10⟩, ⟨a11, b11⟩, ⟨a12, b12⟩, a9, b9⟩, ⟨⟨a2, b2⟩, ⟨a5, b5⟩, ⟨a3, b3⟩, ⟨a4, b4⟩, ⟨a6, b6⟩, ⟨a14, b14⟩, ⟨a7, b7⟩, a13, b13⟩, rF, rP, rL⟩ := id hN
  obtain ⟨r0, r1, -, -, -, r5, -⟩ := rL l h1.1 h1.2
  have rk9 : (if (N (119 + (l * 7 + 0))) = -1 then (1 : Int) else 0) = 1 ∧ (N (119 + (l * 7 + 0))) = -1 ∨ (if (N (119 + (l * 7 + 0))) = -1 then (1 : Int) else 0) = 0 ∧ ¬ (N (119 + (l * 7 + 0))) = -1 := by
    by_cases hh : (N (119 + (l * 7 + 0))) = -1
    · exact Or.inl ⟨if_pos hh, hh⟩
    · exact Or.inr ⟨if_neg hh, hh⟩
  refine gm_sz (gm_p_load (pc := 0) (i := .aload_n 0) (sr := 2) (j := 0) (by decide +kernel) rfl rfl rfl) ?_
  refine gm_sz (fw_gr (pc := 1) (ix := 23) (ci := 0) (j := 3) (r := 3) (by decide +kernel) (e0k hE (k := 1) (c := 0) (by decide +kernel)) (by decide +kernel) (by decide +kernel) (e0r hE (k := 1) (j := 3) (r := 3) (by decide +kernel))) ?_
  refine gm_sz (gm_p_load (pc := 4) (i := .iload_n 1) (sr := 0) (j := 1) (by decide +kernel) rfl rfl rfl) ?_
  refine gm_c_virt (k := 3) (ci := 1) (mj := 28) (ix := 450) (pc := 5) (as := [gm_vi l]) (st := []) (d' := d - 1) (bc' := 0) (bs' := 0) (by decide +kernel) (by decide +kernel) (by decide +kernel) (by decide +kernel) (e0k hE (k := 3) (c := 1) (by decide +kernel)).1 (e0k hE (k := 3) (c := 1) (by decide +kernel)).2 (by decide) (by decide +kernel) (show 1 = gm_na 28 by decide +kernel) (fw_c1 fw_si) (show 2 ≤ gm_ml 28 by decide +kernel) (Nat.le_of_ble_eq_true rfl) (by omega) (Nat.zero_le _) (Nat.zero_le _) ?_
  refine cs_rock9 (by omega) hE hT hN ⟨by omega, by omega⟩ ?_
  show gm_Wp X LX d _ _ 66 8 _ [gm_vi (if (N (119 + (l * 7 + 0))) = -1 then (1 : Int) else 0)] n K _ _ Q
  refine fw_if (cc := .ne) (pc := 8) (off := 23) (by decide +kernel) (by decide) ⟨by omega, by omega⟩ (fun h8 => ?_) (fun h8 => ?_)
  · have h8 : ¬ (if (N (119 + (l * 7 + 0))) = -1 then (1 : Int) else 0) = 0 := h8
    refine gm_sz (gm_p_const (pc := 31) (i := .iconst 0) (v := gm_vi 0) (by decide +kernel) (by decide +kernel)) ?_
    refine gm_sz (gm_p_stor (pc := 32) (i := .istore_n 2) (sr := 0) (j := 2) (by decide +kernel) rfl (show 3 ≤ _ from Nat.le_of_ble_eq_true rfl) rfl) ?_
    refine gm_sz (gm_p_load (pc := 33) (i := .iload_n 2) (sr := 0) (j := 2) (by decide +kernel) rfl rfl rfl) ?_
    refine fw_iftd (cc := .eq) (pc := 34) (off := 30) (by decide +kernel) (by decide) ⟨by decide, by decide⟩ (by decide) ?_
    refine gm_sz (gm_p_const (pc := 64) (i := .iconst 0) (v := gm_vi 0) (by decide +kernel) (by decide +kernel)) ?_
    have a9 : ¬ WTS N l o := fun ⟨a1, a2, a3, a4⟩ => by omega
    exact gm_r_int (pc := 65) (by decide +kernel) (Or.inr ⟨(by decide +kernel), Or.inl rfl⟩) (q0 a9)
  · have h8 : (if (N (119 + (l * 7 + 0))) = -1 then (1 : Int) else 0) = 0 := Classical.not_not.mp h8
    refine gm_sz (gm_p_load (pc := 11) (i := .aload_n 0) (sr := 2) (j := 0) (by decide +kernel) rfl rfl rfl) ?_
    refine gm_sz (fw_gr (pc := 12) (ix := 23) (ci := 0) (j := 3) (r := 3) (by decide +kernel) (e0k hE (k := 1) (c := 0) (by decide +kernel)) (by decide +kernel) (by decide +kernel) (e0r hE (k := 1) (j := 3) (r := 3) (by decide +kernel))) ?_
    refine gm_sz (fw_gr (pc := 15) (ix := 203) (ci := 1) (j := 12) (r := 10) (by decide +kernel) (e0k hE (k := 3) (c := 1) (by decide +kernel)) (by decide +kernel) (by decide +kernel) (e0r hE (k := 3) (j := 12) (r := 10) (by decide +kernel))) ?_
    refine gm_sz (gm_p_load (pc := 18) (i := .iload_n 1) (sr := 0) (j := 1) (by decide +kernel) rfl rfl rfl) ?_
    refine gm_sz (gm_p_const (pc := 19) (i := .iconst 5) (v := gm_vi 5) (by decide +kernel) (by decide +kernel)) ?_
    refine gm_c_virt (k := 10) (ci := 2) (mj := 10) (ix := 186) (pc := 20) (as := [gm_vi l, gm_vi 5]) (st := []) (d' := d - 1) (bc' := 0) (bs' := 0) (by decide +kernel) (by decide +kernel) (by decide +kernel) (by decide +kernel) (e0k hE (k := 10) (c := 2) (by decide +kernel)).1 (e0k hE (k := 10) (c := 2) (by decide +kernel)).2 (by decide) (by decide +kernel) (show 2 = gm_na 10 by decide +kernel) (fw_c2 fw_si fw_si) (show 3 ≤ gm_ml 10 by decide +kernel) (Nat.le_of_ble_eq_true rfl) (by omega) (Nat.zero_le _) (Nat.zero_le _) ?_
    refine rw_get (s := N 4) (w := 7) (x := N (119 + (l * 7 + 5))) (e0k hE (k := 10) (c := 2) (by decide +kernel)) (e0a hE (k := 11) (q := (0, 168)) (by decide +kernel)) (e0r hE (k := 10) (j := 2) (r := 11) (by decide +kernel)) (by decide) (ti_let hT) (hT.1 (10, 1, 7) (by decide)) ⟨by omega, by omega⟩ ⟨by omega, by omega⟩ ⟨by omega, by omega⟩ ⟨by omega, by omega⟩ (ti_aL hT (by omega) (by omega)) ?_
    show gm_Wp X LX d _ _ 66 23 _ [gm_vi (N (119 + (l * 7 + 5)))] n K _ _ Q
    refine gm_sz (gm_p_const (pc := 23) (i := .iconst (-1)) (v := gm_vi (-1)) (by decide +kernel) (by decide +kernel)) ?_
    refine fw_ic (cc := .ne) (pc := 24) (off := 7) (by decide +kernel) (by decide) ⟨by omega, by omega⟩ ⟨by decide, by decide⟩ (fun h24 => ?_) (fun h24 => ?_)
    · have h24 : ¬ (N (119 + (l * 7 + 5))) = (-1) := h24
      refine gm_sz (gm_p_const (pc := 31) (i := .iconst 0) (v := gm_vi 0) (by decide +kernel) (by decide +kernel)) ?_
      refine gm_sz (gm_p_stor (pc := 32) (i := .istore_n 2) (sr := 0) (j := 2) (by decide +kernel) rfl (show 3 ≤ _ from Nat.le_of_ble_eq_true rfl) rfl) ?_
      refine gm_sz (gm_p_load (pc := 33) (i := .iload_n 2) (sr := 0) (j := 2) (by decide +kernel) rfl rfl rfl) ?_
      refine fw_iftd (cc := .eq) (pc := 34) (off := 30) (by decide +kernel) (by decide) ⟨by decide, by decide⟩ (by decide) ?_
      refine gm_sz (gm_p_const (pc := 64) (i := .iconst 0) (v := gm_vi 0) (by decide +kernel) (by decide +kernel)) ?_
      have a9 : ¬ WTS N l o := fun ⟨a1, a2, a3, a4⟩ => by omega
      exact gm_r_int (pc := 65) (by decide +kernel) (Or.inr ⟨(by decide +kernel), Or.inl rfl⟩) (q0 a9)
    · have h24 : (N (119 + (l * 7 + 5))) = (-1) := Classical.not_not.mp h24
      refine gm_sz (gm_p_const (pc := 27) (i := .iconst 1) (v := gm_vi 1) (by decide +kernel) (by decide +kernel)) ?_
      refine gm_sz (gm_p_goto (pc := 28) (off := 4) (by decide +kernel) (by decide)) ?_
      refine gm_sz (gm_p_stor (pc := 32) (i := .istore_n 2) (sr := 0) (j := 2) (by decide +kernel) rfl (show 3 ≤ _ from Nat.le_of_ble_eq_true rfl) rfl) ?_
      refine gm_sz (gm_p_load (pc := 33) (i := .iload_n 2) (sr := 0) (j := 2) (by decide +kernel) rfl rfl rfl) ?_
      refine fw_iffd (cc := .eq) (pc := 34) (off := 30) (by decide +kernel) (by decide) ⟨by decide, by decide⟩ (by decide) ?_
      refine gm_sz (gm_p_load (pc := 37) (i := .aload_n 0) (sr := 2) (j := 0) (by decide +kernel) rfl rfl rfl) ?_
      refine gm_sz (gm_p_load (pc := 38) (i := .aload_n 0) (sr := 2) (j := 0) (by decide +kernel) rfl rfl rfl) ?_
      refine gm_sz (fw_gr (pc := 39) (ix := 97) (ci := 0) (j := 14) (r := 220) (by decide +kernel) (e0k hE (k := 1) (c := 0) (by decide +kernel)) (by decide +kernel) (by decide +kernel) (e0r hE (k := 1) (j := 14) (r := 220) (by decide +kernel))) ?_
      refine gm_sz (gm_p_load (pc := 42) (i := .iload_n 1) (sr := 0) (j := 1) (by decide +kernel) rfl rfl rfl) ?_
      refine gm_sz (gm_p_const (pc := 43) (i := .iconst 0) (v := gm_vi 0) (by decide +kernel) (by decide +kernel)) ?_
      refine gm_c_virt (k := 220) (ci := 2) (mj := 10) (ix := 186) (pc := 44) (as := [gm_vi l, gm_vi 0]) (st := [gm_vr 1]) (d' := d - 1) (bc' := 0) (bs' := 0) (by decide +kernel) (by decide +kernel) (by decide +kernel) (by decide +kernel) (e0k hE (k := 220) (c := 2) (by decide +kernel)).1 (e0k hE (k := 220) (c := 2) (by decide +kernel)).2 (by decide) (by decide +kernel) (show 2 = gm_na 10 by decide +kernel) (fw_c2 fw_si fw_si) (show 3 ≤ gm_ml 10 by decide +kernel) (Nat.le_of_ble_eq_true rfl) (by omega) (Nat.zero_le _) (Nat.zero_le _) ?_
      refine rw_get (s := N 4) (w := 2) (x := o) (e0k hE (k := 220) (c := 2) (by decide +kernel)) (e0a hE (k := 221) (q := (0, 48)) (by decide +kernel)) (e0r hE (k := 220) (j := 2) (r := 221) (by decide +kernel)) (by decide) h3 (hT.1 (220, 1, 2) (by decide)) ⟨by omega, by omega⟩ ⟨by omega, by omega⟩ ⟨by omega, by omega⟩ ⟨by omega, by omega⟩ ho ?_
      show gm_Wp X LX d _ _ 66 47 _ [gm_vi o, gm_vr 1] n K _ _ Q
      refine gm_sz (gm_p_load (pc := 47) (i := .aload_n 0) (sr := 2) (j := 0) (by decide +kernel) rfl rfl rfl) ?_
      refine gm_sz (fw_gr (pc := 48) (ix := 23) (ci := 0) (j := 3) (r := 3) (by decide +kernel) (e0k hE (k := 1) (c := 0) (by decide +kernel)) (by decide +kernel) (by decide +kernel) (e0r hE (k := 1) (j := 3) (r := 3) (by decide +kernel))) ?_
      refine gm_sz (fw_gi (pc := 51) (ix := 269) (ci := 1) (j := 6) (x := N 9) (by decide +kernel) (e0k hE (k := 3) (c := 1) (by decide +kernel)) (by decide +kernel) (by decide +kernel) (ti_now hT)) ?_
      refine gm_c_virt (k := 1) (ci := 0) (mj := 67) (ix := 408) (pc := 54) (as := [gm_vi o, gm_vi (N 9)]) (st := []) (d' := d - 1) (bc' := 0) (bs' := 0) (by decide +kernel) (by decide +kernel) (by decide +kernel) (by decide +kernel) (e0k hE (k := 1) (c := 0) (by decide +kernel)).1 (e0k hE (k := 1) (c := 0) (by decide +kernel)).2 (by decide) (by decide +kernel) (show 2 = gm_na 67 by decide +kernel) (fw_c2 fw_si fw_si) (show 3 ≤ gm_ml 67 by decide +kernel) (Nat.le_of_ble_eq_true rfl) (by omega) (Nat.zero_le _) (Nat.zero_le _) ?_
      refine wt_67 ⟨by omega, by omega⟩ ⟨by omega, by omega⟩ (fun u54 => ?_) (fun u54 v54 => ?_) (fun u54 v54 => ?_)
      · show gm_Wp X LX d _ _ 66 57 _ [gm_vi 0] n K _ _ Q
        refine fw_iftd (cc := .eq) (pc := 57) (off := 7) (by decide +kernel) (by decide) ⟨by decide, by decide⟩ (by decide) ?_
        refine gm_sz (gm_p_const (pc := 64) (i := .iconst 0) (v := gm_vi 0) (by decide +kernel) (by decide +kernel)) ?_
        have a9 : ¬ WTS N l o := fun ⟨a1, a2, a3, a4⟩ => by omega
        exact gm_r_int (pc := 65) (by decide +kernel) (Or.inr ⟨(by decide +kernel), Or.inl rfl⟩) (q0 a9)
      · show gm_Wp X LX d _ _ 66 57 _ [gm_vi 0] n K _ _ Q
        refine fw_iftd (cc := .eq) (pc := 57) (off := 7) (by decide +kernel) (by decide) ⟨by decide, by decide⟩ (by decide) ?_
        refine gm_sz (gm_p_const (pc := 64) (i := .iconst 0) (v := gm_vi 0) (by decide +kernel) (by decide +kernel)) ?_
        have a9 : ¬ WTS N l o := fun ⟨a1, a2, a3, a4⟩ => by omega
        exact gm_r_int (pc := 65) (by decide +kernel) (Or.inr ⟨(by decide +kernel), Or.inl rfl⟩) (q0 a9)
      · show gm_Wp X LX d _ _ 66 57 _ [gm_vi 1] n K _ _ Q
        refine fw_iffd (cc := .eq) (pc := 57) (off := 7) (by decide +kernel) (by decide) ⟨by decide, by decide⟩ (by decide) ?_
        refine gm_sz (gm_p_const (pc := 60) (i := .iconst 1) (v := gm_vi 1) (by decide +kernel) (by decide +kernel)) ?_
        refine gm_sz (gm_p_goto (pc := 61) (off := 4) (by decide +kernel) (by decide)) ?_
        have a9 : WTS N l o := ⟨by omega, by omega, by omega, by omega⟩
        exact gm_r_int (pc := 65) (by decide +kernel) (Or.inr ⟨(by decide +kernel), Or.inr rfl⟩) (q1 a9)
end EN6
end
/-! 7a15.c7yr -/
section
/-! THE CLASS: by whom a LETTER is opened, a YEAR more (laid by wip/core/c7.py). -/
/-- the first of u from i on -/
noncomputable def fo (C : Int → Prop) : Nat → Int → Int
  | 0, _ => -1
  | u + 1, i => tif (C i) i (fo C u (i + 1))
theorem fo_b {C : Int → Prop} : ∀ (u : Nat) (i : Int), 0 ≤ i → -1 ≤ fo C u i ∧ fo C u i < i + (u : Int) ∧ (fo C u i = -1 ∨ i ≤ fo C u i) := by
  intro u
  induction u with
  | zero => exact fun i h => ⟨Int.le_refl _, by show (-1 : Int) < _; omega, Or.inl rfl⟩
  | succ u ih =>
    intro i h
    unfold fo
    by_cases hc : C i
    · rw [tif_t hc]
      exact ⟨by omega, by omega, Or.inr (Int.le_refl _)⟩
    · rw [tif_f hc]
      obtain ⟨a, b, c⟩ := ih (i + 1) (by omega)
      exact ⟨a, by omega, by omega⟩
/-- whether one who watches that lane may -/
def wop (N : Int → Int) (ψ : Int → Int → Int → Int → Prop) (l dp p : Int) : Prop := (N (95 + (p * 3 + 2))) = (N (119 + (l * 7 + 2))) ∧ ψ p ((N (119 + (l * 7 + 2)))) (N 9 - (N (119 + (l * 7 + 3)))) dp
/-- by whom it is opened (-1: by nobody) -/
noncomputable def opf (N : Int → Int) (ψ : Int → Int → Int → Int → Prop) (l dp : Int) : Int := tif ((N (95 + (((N (119 + (l * 7 + 1)))) * 3 + 2))) = (N (119 + (l * 7 + 2)))) ((N (119 + (l * 7 + 1)))) (fo (wop N ψ l dp) (N 3).toNat 0)
section YR7
variable {X : Int → Int} {LX d bc bs n : Nat} {K : gm_K} {R : gm_R} {M : gm_M} {Q : gm_Q} {l o y p dp : Int} {N h : Int → Int} {sp : Int → Int → Int} {FI : gm_M → Prop} {φ : Int → Int → Int → Int} {ψ : Int → Int → Int → Int → Prop}
theorem op_l (hd : 4 ≤ d) (hE : E0 n K R) (hT : TI N h sp M) (hN : NR N) (hst : FSt FI) (hmo : MOW X LX n K R N h sp FI ψ) (hI : FI M) (h1 : 0 ≤ l ∧ l < N 4) (hr : 0 ≤ (N (119 + (l * 7 + 0)))) (h3 : M 220 3 = N 4) (hdp : M 221 (l * 2 + 1) = dp) (hne : ¬ (N (95 + (((N (119 + (l * 7 + 1)))) * 3 + 2))) = (N (119 + (l * 7 + 2)))) (hq : ∀ M2, fr [(204, none)] M M2 → Q (.inl (some (gm_vi (opf N ψ l dp)))) n K R M2) : ∀ (u i : Nat) (M1 : gm_M), (i : Int) + (u : Int) = N 3 → fr [(204, none)] M M1 → fo (wop N ψ l dp) (N 3).toNat 0 = fo (wop N ψ l dp) u (i : Int) → gm_Wp X LX d bc bs 163 69 [some (gm_vr 1), some (gm_vi l), some (gm_vi (N (119 + (l * 7 + 2)))), some (gm_vi (N (119 + (l * 7 + 1)))), some (gm_vi (N 9 - N (119 + (l * 7 + 3)))), some (gm_vi (i : Int))] [] n K R M1 Q := by
  obtain ⟨⟨⟨a0, b0⟩, ⟨a1, b1⟩, ⟨a10, b10⟩, ⟨a11, b11⟩, ⟨a12, b12⟩, a9, b9⟩, ⟨⟨a2, b2⟩, ⟨a5, b5⟩, ⟨a3, b3⟩, ⟨a4, b4⟩, ⟨a6, b6⟩, ⟨a14, b14⟩, ⟨a7, b7⟩, a13, b13⟩, rF, rP, rL⟩ := id hN
  obtain ⟨r0, r1, r2, r3, -, -, -, r7⟩ := rL l h1.1 h1.2
  have r8 := r7 hr
  have to9 : 0 ≤ N (119 + (l * 7 + 1)) ∧ N (119 + (l * 7 + 1)) < N 3 := ⟨r8, r1.2⟩
  have ln9 : 0 ≤ N (119 + (l * 7 + 2)) ∧ N (119 + (l * 7 + 2)) < N 0 := r2
  have yr9 : 0 ≤ N (119 + (l * 7 + 3)) ∧ N (119 + (l * 7 + 3)) ≤ N 9 := r3
  have e9 : opf N ψ l dp = fo (wop N ψ l dp) (N 3).toNat 0 := tif_f hne
  rw [e9] at hq
  intro u
  induction u with
  | zero =>
    intro i M1 hi hf he
    have he : fo (wop N ψ l dp) (N 3).toNat 0 = -1 := he
    rw [he] at hq
    refine gm_sz (gm_p_load (pc := 69) (i := .iload 5) (sr := 0) (j := 5) (by decide +kernel) rfl rfl rfl) ?_
    refine gm_sz (gm_p_load (pc := 71) (i := .aload_n 0) (sr := 2) (j := 0) (by decide +kernel) rfl rfl rfl) ?_
    refine gm_sz (fw_gr (pc := 72) (ix := 23) (ci := 0) (j := 3) (r := 3) (by decide +kernel) (e0k hE (k := 1) (c := 0) (by decide +kernel)) (by decide +kernel) (by decide +kernel) (e0r hE (k := 1) (j := 3) (r := 3) (by decide +kernel))) ?_
    refine gm_sz (fw_gr (pc := 75) (ix := 183) (ci := 1) (j := 11) (r := 8) (by decide +kernel) (e0k hE (k := 3) (c := 1) (by decide +kernel)) (by decide +kernel) (by decide +kernel) (e0r hE (k := 3) (j := 11) (r := 8) (by decide +kernel))) ?_
    refine gm_c_virt (k := 8) (ci := 2) (mj := 9) (ix := 277) (pc := 78) (as := []) (st := [gm_vi (i : Int)]) (d' := d - 1) (bc' := 0) (bs' := 0) (by decide +kernel) (by decide +kernel) (by decide +kernel) (by decide +kernel) (e0k hE (k := 8) (c := 2) (by decide +kernel)).1 (e0k hE (k := 8) (c := 2) (by decide +kernel)).2 (by decide) (by decide +kernel) (show 0 = gm_na 9 by decide +kernel) fw_c0 (show 1 ≤ gm_ml 9 by decide +kernel) (Nat.le_of_ble_eq_true rfl) (by omega) (Nat.zero_le _) (Nat.zero_le _) ?_
    refine rw_size (s := N 3) (e0k hE (k := 8) (c := 2) (by decide +kernel)) ((fr_c hf (by decide)).trans (ti_peo hT)) ?_
    show gm_Wp X LX d _ _ 163 81 _ [gm_vi (N 3), gm_vi (i : Int)] n K _ _ Q
    refine fw_ict (cc := .ge) (pc := 81) (off := 53) (by decide +kernel) (by decide) ⟨by omega, by omega⟩ ⟨by omega, by omega⟩ (show (N 3) ≤ (i : Int) by omega) ?_
    refine gm_sz (gm_p_const (pc := 134) (i := .iconst (-1)) (v := gm_vi (-1)) (by decide +kernel) (by decide +kernel)) ?_
    exact gm_r_int (pc := 135) (by decide +kernel) (Or.inl (by decide +kernel)) (hq M1 hf)
  | succ u ih =>
    intro i M1 hi hf he
    obtain ⟨-, -, p2⟩ := rP (i : Int) (by omega) (by omega)
    have p9 : -1 ≤ N (95 + ((i : Int) * 3 + 2)) ∧ N (95 + ((i : Int) * 3 + 2)) < N 0 := p2
    have he : fo (wop N ψ l dp) (N 3).toNat 0 = tif ((wop N ψ l dp) (i : Int)) (i : Int) (fo (wop N ψ l dp) u ((i : Int) + 1)) := he
    refine gm_sz (gm_p_load (pc := 69) (i := .iload 5) (sr := 0) (j := 5) (by decide +kernel) rfl rfl rfl) ?_
    refine gm_sz (gm_p_load (pc := 71) (i := .aload_n 0) (sr := 2) (j := 0) (by decide +kernel) rfl rfl rfl) ?_
    refine gm_sz (fw_gr (pc := 72) (ix := 23) (ci := 0) (j := 3) (r := 3) (by decide +kernel) (e0k hE (k := 1) (c := 0) (by decide +kernel)) (by decide +kernel) (by decide +kernel) (e0r hE (k := 1) (j := 3) (r := 3) (by decide +kernel))) ?_
    refine gm_sz (fw_gr (pc := 75) (ix := 183) (ci := 1) (j := 11) (r := 8) (by decide +kernel) (e0k hE (k := 3) (c := 1) (by decide +kernel)) (by decide +kernel) (by decide +kernel) (e0r hE (k := 3) (j := 11) (r := 8) (by decide +kernel))) ?_
    refine gm_c_virt (k := 8) (ci := 2) (mj := 9) (ix := 277) (pc := 78) (as := []) (st := [gm_vi (i : Int)]) (d' := d - 1) (bc' := 0) (bs' := 0) (by decide +kernel) (by decide +kernel) (by decide +kernel) (by decide +kernel) (e0k hE (k := 8) (c := 2) (by decide +kernel)).1 (e0k hE (k := 8) (c := 2) (by decide +kernel)).2 (by decide) (by decide +kernel) (show 0 = gm_na 9 by decide +kernel) fw_c0 (show 1 ≤ gm_ml 9 by decide +kernel) (Nat.le_of_ble_eq_true rfl) (by omega) (Nat.zero_le _) (Nat.zero_le _) ?_
    refine rw_size (s := N 3) (e0k hE (k := 8) (c := 2) (by decide +kernel)) ((fr_c hf (by decide)).trans (ti_peo hT)) ?_
    show gm_Wp X LX d _ _ 163 81 _ [gm_vi (N 3), gm_vi (i : Int)] n K _ _ Q
    refine fw_icf (cc := .ge) (pc := 81) (off := 53) (by decide +kernel) (by decide) ⟨by omega, by omega⟩ ⟨by omega, by omega⟩ (show ¬ (N 3) ≤ (i : Int) by omega) ?_
    refine gm_sz (gm_p_load (pc := 84) (i := .aload_n 0) (sr := 2) (j := 0) (by decide +kernel) rfl rfl rfl) ?_
    refine gm_sz (fw_gr (pc := 85) (ix := 23) (ci := 0) (j := 3) (r := 3) (by decide +kernel) (e0k hE (k := 1) (c := 0) (by decide +kernel)) (by decide +kernel) (by decide +kernel) (e0r hE (k := 1) (j := 3) (r := 3) (by decide +kernel))) ?_
    refine gm_sz (fw_gr (pc := 88) (ix := 183) (ci := 1) (j := 11) (r := 8) (by decide +kernel) (e0k hE (k := 3) (c := 1) (by decide +kernel)) (by decide +kernel) (by decide +kernel) (e0r hE (k := 3) (j := 11) (r := 8) (by decide +kernel))) ?_
    refine gm_sz (gm_p_load (pc := 91) (i := .iload 5) (sr := 0) (j := 5) (by decide +kernel) rfl rfl rfl) ?_
    refine gm_sz (gm_p_const (pc := 93) (i := .iconst 2) (v := gm_vi 2) (by decide +kernel) (by decide +kernel)) ?_
    refine gm_c_virt (k := 8) (ci := 2) (mj := 10) (ix := 186) (pc := 94) (as := [gm_vi (i : Int), gm_vi 2]) (st := []) (d' := d - 1) (bc' := 0) (bs' := 0) (by decide +kernel) (by decide +kernel) (by decide +kernel) (by decide +kernel) (e0k hE (k := 8) (c := 2) (by decide +kernel)).1 (e0k hE (k := 8) (c := 2) (by decide +kernel)).2 (by decide) (by decide +kernel) (show 2 = gm_na 10 by decide +kernel) (fw_c2 fw_si fw_si) (show 3 ≤ gm_ml 10 by decide +kernel) (Nat.le_of_ble_eq_true rfl) (by omega) (Nat.zero_le _) (Nat.zero_le _) ?_
    refine rw_get (s := N 3) (w := 3) (x := N (95 + ((i : Int) * 3 + 2))) (e0k hE (k := 8) (c := 2) (by decide +kernel)) (e0a hE (k := 9) (q := (0, 24)) (by decide +kernel)) (e0r hE (k := 8) (j := 2) (r := 9) (by decide +kernel)) (by decide) ((fr_c hf (by decide)).trans (ti_peo hT)) ((fr_c hf (by decide)).trans (hT.1 (8, 1, 3) (by decide))) ⟨by omega, by omega⟩ ⟨by omega, by omega⟩ ⟨by omega, by omega⟩ ⟨by omega, by omega⟩ ((fr_c hf (by decide)).trans (ti_aP hT (by omega) (by omega))) ?_
    show gm_Wp X LX d _ _ 163 97 _ [gm_vi (N (95 + ((i : Int) * 3 + 2)))] n K _ _ Q
    refine gm_sz (gm_p_load (pc := 97) (i := .iload_n 2) (sr := 0) (j := 2) (by decide +kernel) rfl rfl rfl) ?_
    refine fw_ic (cc := .ne) (pc := 98) (off := 30) (by decide +kernel) (by decide) ⟨by omega, by omega⟩ ⟨by omega, by omega⟩ (fun h98 => ?_) (fun h98 => ?_)
    · have h98 : ¬ (N (95 + ((i : Int) * 3 + 2))) = (N (119 + (l * 7 + 2))) := h98
      refine gm_sz (gm_p_iinc (pc := 128) (j := 5) (z := 1) (by decide +kernel) rfl) ?_
      refine gm_sz (gm_p_goto (pc := 131) (off := (-62)) (by decide +kernel) (by decide)) ?_
      rw [tif_f (show ¬ (wop N ψ l dp) (i : Int) from (fun hh => h98 hh.1))] at he
      exact ih (i + 1) _ (by omega) (fr_t fr_0 hf (by decide)) he
    · have h98 : (N (95 + ((i : Int) * 3 + 2))) = (N (119 + (l * 7 + 2))) := Classical.not_not.mp h98
      refine gm_sz (gm_p_load (pc := 101) (i := .aload_n 0) (sr := 2) (j := 0) (by decide +kernel) rfl rfl rfl) ?_
      refine gm_sz (fw_gr (pc := 102) (ix := 49) (ci := 0) (j := 8) (r := 200) (by decide +kernel) (e0k hE (k := 1) (c := 0) (by decide +kernel)) (by decide +kernel) (by decide +kernel) (e0r hE (k := 1) (j := 8) (r := 200) (by decide +kernel))) ?_
      refine gm_sz (gm_p_load (pc := 105) (i := .iload 5) (sr := 0) (j := 5) (by decide +kernel) rfl rfl rfl) ?_
      refine gm_sz (gm_p_load (pc := 107) (i := .iload_n 2) (sr := 0) (j := 2) (by decide +kernel) rfl rfl rfl) ?_
      refine gm_sz (gm_p_load (pc := 108) (i := .iload 4) (sr := 0) (j := 4) (by decide +kernel) rfl rfl rfl) ?_
      refine gm_sz (gm_p_load (pc := 110) (i := .aload_n 0) (sr := 2) (j := 0) (by decide +kernel) rfl rfl rfl) ?_
      refine gm_sz (fw_gr (pc := 111) (ix := 97) (ci := 0) (j := 14) (r := 220) (by decide +kernel) (e0k hE (k := 1) (c := 0) (by decide +kernel)) (by decide +kernel) (by decide +kernel) (e0r hE (k := 1) (j := 14) (r := 220) (by decide +kernel))) ?_
      refine gm_sz (gm_p_load (pc := 114) (i := .iload_n 1) (sr := 0) (j := 1) (by decide +kernel) rfl rfl rfl) ?_
      refine gm_sz (gm_p_const (pc := 115) (i := .iconst 1) (v := gm_vi 1) (by decide +kernel) (by decide +kernel)) ?_
      refine gm_c_virt (k := 220) (ci := 2) (mj := 10) (ix := 186) (pc := 116) (as := [gm_vi l, gm_vi 1]) (st := [gm_vi (N 9 - N (119 + (l * 7 + 3))), gm_vi (N (119 + (l * 7 + 2))), gm_vi (i : Int), gm_vr 200]) (d' := d - 1) (bc' := 0) (bs' := 0) (by decide +kernel) (by decide +kernel) (by decide +kernel) (by decide +kernel) (e0k hE (k := 220) (c := 2) (by decide +kernel)).1 (e0k hE (k := 220) (c := 2) (by decide +kernel)).2 (by decide) (by decide +kernel) (show 2 = gm_na 10 by decide +kernel) (fw_c2 fw_si fw_si) (show 3 ≤ gm_ml 10 by decide +kernel) (Nat.le_of_ble_eq_true rfl) (by omega) (Nat.zero_le _) (Nat.zero_le _) ?_
      refine rw_get (s := N 4) (w := 2) (x := dp) (e0k hE (k := 220) (c := 2) (by decide +kernel)) (e0a hE (k := 221) (q := (0, 48)) (by decide +kernel)) (e0r hE (k := 220) (j := 2) (r := 221) (by decide +kernel)) (by decide) ((fr_c hf (by decide)).trans h3) ((fr_c hf (by decide)).trans (hT.1 (220, 1, 2) (by decide))) ⟨by omega, by omega⟩ ⟨by omega, by omega⟩ ⟨by omega, by omega⟩ ⟨by omega, by omega⟩ ((fr_c hf (by decide)).trans hdp) ?_
      show gm_Wp X LX d _ _ 163 119 _ [gm_vi dp, gm_vi (N 9 - N (119 + (l * 7 + 3))), gm_vi (N (119 + (l * 7 + 2))), gm_vi (i : Int), gm_vr 200] n K _ _ Q
      refine gm_c_virt (k := 200) (ci := 4) (mj := 164) (ix := 283) (pc := 119) (as := [gm_vi (i : Int), gm_vi (N (119 + (l * 7 + 2))), gm_vi (N 9 - N (119 + (l * 7 + 3))), gm_vi dp]) (st := []) (d' := d - 1) (bc' := 0) (bs' := 0) (by decide +kernel) (by decide +kernel) (by decide +kernel) (by decide +kernel) (e0k hE (k := 200) (c := 4) (by decide +kernel)).1 (e0k hE (k := 200) (c := 4) (by decide +kernel)).2 (by decide) (by decide +kernel) (show 4 = gm_na 164 by decide +kernel) (fw_c4 fw_si fw_si fw_si fw_si) (show 5 ≤ gm_ml 164 by decide +kernel) (Nat.le_of_ble_eq_true rfl) (by omega) (Nat.zero_le _) (Nat.zero_le _) ?_
      refine hmo _ _ _ _ _ (i : Int) (N (119 + (l * 7 + 2))) (N 9 - N (119 + (l * 7 + 3))) dp (by omega) ⟨by omega, by omega⟩ (ti_fr (W := [(204, none)]) hT (fr_t fr_0 hf (by decide)) (by decide) (by decide +kernel)) (hst [(204, none)] _ _ (by decide) (fr_t fr_0 hf (by decide)) hI) (fun v119 M119 hf119 => ?_) (fun v119 M119 hf119 => ?_)
      · show gm_Wp X LX d _ _ 163 122 _ [gm_vi 1] n K _ _ Q
        refine fw_iffd (cc := .eq) (pc := 122) (off := 6) (by decide +kernel) (by decide) ⟨by decide, by decide⟩ (by decide) ?_
        refine gm_sz (gm_p_load (pc := 125) (i := .iload 5) (sr := 0) (j := 5) (by decide +kernel) rfl rfl rfl) ?_
        rw [tif_t (show (wop N ψ l dp) (i : Int) from ⟨h98, v119⟩)] at he
        rw [he] at hq
        exact gm_r_int (pc := 127) (by decide +kernel) (Or.inl (by decide +kernel)) (hq _ (fr_t (fr_t fr_0 hf (by decide)) hf119 (by decide)))
      · show gm_Wp X LX d _ _ 163 122 _ [gm_vi 0] n K _ _ Q
        refine fw_iftd (cc := .eq) (pc := 122) (off := 6) (by decide +kernel) (by decide) ⟨by decide, by decide⟩ (by decide) ?_
        refine gm_sz (gm_p_iinc (pc := 128) (j := 5) (z := 1) (by decide +kernel) rfl) ?_
        refine gm_sz (gm_p_goto (pc := 131) (off := (-62)) (by decide +kernel) (by decide)) ?_
        rw [tif_f (show ¬ (wop N ψ l dp) (i : Int) from (fun hh => v119 hh.2))] at he
        exact ih (i + 1) _ (by omega) (fr_t (fr_t fr_0 hf (by decide)) hf119 (by decide)) he
theorem op_c163 (hd : 4 ≤ d) (hE : E0 n K R) (hT : TI N h sp M) (hN : NR N) (hst : FSt FI) (hmo : MOW X LX n K R N h sp FI ψ) (hI : FI M) (h1 : 0 ≤ l ∧ l < N 4) (hr : 0 ≤ (N (119 + (l * 7 + 0)))) (h3 : M 220 3 = N 4) (hdp : M 221 (l * 2 + 1) = dp) (hq : ∀ M2, fr [(204, none)] M M2 → Q (.inl (some (gm_vi (opf N ψ l dp)))) n K R M2) : gm_Wp X LX d bc bs 163 0 (gm_ent 163 [gm_vr 1, gm_vi l]) [] n K R M Q := by
  obtain ⟨⟨⟨a0, b0⟩, ⟨a1, b1⟩, ⟨a10, b10⟩, ⟨a11, b11⟩, ⟨a12, b12⟩, a9, b9⟩, ⟨⟨a2, b2⟩, ⟨a5, b5⟩, ⟨a3, b3⟩, ⟨a4, b4⟩, ⟨a6, b6⟩, ⟨a14, b14⟩, ⟨a7, b7⟩, a13, b13⟩, rF, rP, rL⟩ := id hN
  obtain ⟨r0, r1, r2, r3, -, -, -, r7⟩ := rL l h1.1 h1.2
  have r8 := r7 hr
  have to9 : 0 ≤ N (119 + (l * 7 + 1)) ∧ N (119 + (l * 7 + 1)) < N 3 := ⟨r8, r1.2⟩
  have ln9 : 0 ≤ N (119 + (l * 7 + 2)) ∧ N (119 + (l * 7 + 2)) < N 0 := r2
  have yr9 : 0 ≤ N (119 + (l * 7 + 3)) ∧ N (119 + (l * 7 + 3)) ≤ N 9 := r3
  obtain ⟨-, -, p2⟩ := rP _ to9.1 to9.2
  have p9 : -1 ≤ N (95 + (N (119 + (l * 7 + 1)) * 3 + 2)) ∧ N (95 + (N (119 + (l * 7 + 1)) * 3 + 2)) < N 0 := p2
  refine gm_sz (gm_p_load (pc := 0) (i := .aload_n 0) (sr := 2) (j := 0) (by decide +kernel) rfl rfl rfl) ?_
  refine gm_sz (fw_gr (pc := 1) (ix := 23) (ci := 0) (j := 3) (r := 3) (by decide +kernel) (e0k hE (k := 1) (c := 0) (by decide +kernel)) (by decide +kernel) (by decide +kernel) (e0r hE (k := 1) (j := 3) (r := 3) (by decide +kernel))) ?_
  refine gm_sz (fw_gr (pc := 4) (ix := 203) (ci := 1) (j := 12) (r := 10) (by decide +kernel) (e0k hE (k := 3) (c := 1) (by decide +kernel)) (by decide +kernel) (by decide +kernel) (e0r hE (k := 3) (j := 12) (r := 10) (by decide +kernel))) ?_
  refine gm_sz (gm_p_load (pc := 7) (i := .iload_n 1) (sr := 0) (j := 1) (by decide +kernel) rfl rfl rfl) ?_
  refine gm_sz (gm_p_const (pc := 8) (i := .iconst 2) (v := gm_vi 2) (by decide +kernel) (by decide +kernel)) ?_
  refine gm_c_virt (k := 10) (ci := 2) (mj := 10) (ix := 186) (pc := 9) (as := [gm_vi l, gm_vi 2]) (st := []) (d' := d - 1) (bc' := 0) (bs' := 0) (by decide +kernel) (by decide +kernel) (by decide +kernel) (by decide +kernel) (e0k hE (k := 10) (c := 2) (by decide +kernel)).1 (e0k hE (k := 10) (c := 2) (by decide +kernel)).2 (by decide) (by decide +kernel) (show 2 = gm_na 10 by decide +kernel) (fw_c2 fw_si fw_si) (show 3 ≤ gm_ml 10 by decide +kernel) (Nat.le_of_ble_eq_true rfl) (by omega) (Nat.zero_le _) (Nat.zero_le _) ?_
  refine rw_get (s := N 4) (w := 7) (x := N (119 + (l * 7 + 2))) (e0k hE (k := 10) (c := 2) (by decide +kernel)) (e0a hE (k := 11) (q := (0, 168)) (by decide +kernel)) (e0r hE (k := 10) (j := 2) (r := 11) (by decide +kernel)) (by decide) (ti_let hT) (hT.1 (10, 1, 7) (by decide)) ⟨by omega, by omega⟩ ⟨by omega, by omega⟩ ⟨by omega, by omega⟩ ⟨by omega, by omega⟩ (ti_aL hT (by omega) (by omega)) ?_
  show gm_Wp X LX d _ _ 163 12 _ [gm_vi (N (119 + (l * 7 + 2)))] n K _ _ Q
  refine gm_sz (gm_p_stor (pc := 12) (i := .istore_n 2) (sr := 0) (j := 2) (by decide +kernel) rfl (show 3 ≤ _ from Nat.le_of_ble_eq_true rfl) rfl) ?_
  refine gm_sz (gm_p_load (pc := 13) (i := .aload_n 0) (sr := 2) (j := 0) (by decide +kernel) rfl rfl rfl) ?_
  refine gm_sz (fw_gr (pc := 14) (ix := 23) (ci := 0) (j := 3) (r := 3) (by decide +kernel) (e0k hE (k := 1) (c := 0) (by decide +kernel)) (by decide +kernel) (by decide +kernel) (e0r hE (k := 1) (j := 3) (r := 3) (by decide +kernel))) ?_
  refine gm_sz (fw_gr (pc := 17) (ix := 203) (ci := 1) (j := 12) (r := 10) (by decide +kernel) (e0k hE (k := 3) (c := 1) (by decide +kernel)) (by decide +kernel) (by decide +kernel) (e0r hE (k := 3) (j := 12) (r := 10) (by decide +kernel))) ?_
  refine gm_sz (gm_p_load (pc := 20) (i := .iload_n 1) (sr := 0) (j := 1) (by decide +kernel) rfl rfl rfl) ?_
  refine gm_sz (gm_p_const (pc := 21) (i := .iconst 1) (v := gm_vi 1) (by decide +kernel) (by decide +kernel)) ?_
  refine gm_c_virt (k := 10) (ci := 2) (mj := 10) (ix := 186) (pc := 22) (as := [gm_vi l, gm_vi 1]) (st := []) (d' := d - 1) (bc' := 0) (bs' := 0) (by decide +kernel) (by decide +kernel) (by decide +kernel) (by decide +kernel) (e0k hE (k := 10) (c := 2) (by decide +kernel)).1 (e0k hE (k := 10) (c := 2) (by decide +kernel)).2 (by decide) (by decide +kernel) (show 2 = gm_na 10 by decide +kernel) (fw_c2 fw_si fw_si) (show 3 ≤ gm_ml 10 by decide +kernel) (Nat.le_of_ble_eq_true rfl) (by omega) (Nat.zero_le _) (Nat.zero_le _) ?_
  refine rw_get (s := N 4) (w := 7) (x := N (119 + (l * 7 + 1))) (e0k hE (k := 10) (c := 2) (by decide +kernel)) (e0a hE (k := 11) (q := (0, 168)) (by decide +kernel)) (e0r hE (k := 10) (j := 2) (r := 11) (by decide +kernel)) (by decide) (ti_let hT) (hT.1 (10, 1, 7) (by decide)) ⟨by omega, by omega⟩ ⟨by omega, by omega⟩ ⟨by omega, by omega⟩ ⟨by omega, by omega⟩ (ti_aL hT (by omega) (by omega)) ?_
  show gm_Wp X LX d _ _ 163 25 _ [gm_vi (N (119 + (l * 7 + 1)))] n K _ _ Q
  refine gm_sz (gm_p_stor (pc := 25) (i := .istore_n 3) (sr := 0) (j := 3) (by decide +kernel) rfl (show 4 ≤ _ from Nat.le_of_ble_eq_true rfl) rfl) ?_
  refine gm_sz (gm_p_load (pc := 26) (i := .aload_n 0) (sr := 2) (j := 0) (by decide +kernel) rfl rfl rfl) ?_
  refine gm_sz (fw_gr (pc := 27) (ix := 23) (ci := 0) (j := 3) (r := 3) (by decide +kernel) (e0k hE (k := 1) (c := 0) (by decide +kernel)) (by decide +kernel) (by decide +kernel) (e0r hE (k := 1) (j := 3) (r := 3) (by decide +kernel))) ?_
  refine gm_sz (fw_gr (pc := 30) (ix := 183) (ci := 1) (j := 11) (r := 8) (by decide +kernel) (e0k hE (k := 3) (c := 1) (by decide +kernel)) (by decide +kernel) (by decide +kernel) (e0r hE (k := 3) (j := 11) (r := 8) (by decide +kernel))) ?_
  refine gm_sz (gm_p_load (pc := 33) (i := .iload_n 3) (sr := 0) (j := 3) (by decide +kernel) rfl rfl rfl) ?_
  refine gm_sz (gm_p_const (pc := 34) (i := .iconst 2) (v := gm_vi 2) (by decide +kernel) (by decide +kernel)) ?_
  refine gm_c_virt (k := 8) (ci := 2) (mj := 10) (ix := 186) (pc := 35) (as := [gm_vi (N (119 + (l * 7 + 1))), gm_vi 2]) (st := []) (d' := d - 1) (bc' := 0) (bs' := 0) (by decide +kernel) (by decide +kernel) (by decide +kernel) (by decide +kernel) (e0k hE (k := 8) (c := 2) (by decide +kernel)).1 (e0k hE (k := 8) (c := 2) (by decide +kernel)).2 (by decide) (by decide +kernel) (show 2 = gm_na 10 by decide +kernel) (fw_c2 fw_si fw_si) (show 3 ≤ gm_ml 10 by decide +kernel) (Nat.le_of_ble_eq_true rfl) (by omega) (Nat.zero_le _) (Nat.zero_le _) ?_
  refine rw_get (s := N 3) (w := 3) (x := N (95 + ((N (119 + (l * 7 + 1))) * 3 + 2))) (e0k hE (k := 8) (c := 2) (by decide +kernel)) (e0a hE (k := 9) (q := (0, 24)) (by decide +kernel)) (e0r hE (k := 8) (j := 2) (r := 9) (by decide +kernel)) (by decide) (ti_peo hT) (hT.1 (8, 1, 3) (by decide)) ⟨by omega, by omega⟩ ⟨by omega, by omega⟩ ⟨by omega, by omega⟩ ⟨by omega, by omega⟩ (ti_aP hT (by omega) (by omega)) ?_
  show gm_Wp X LX d _ _ 163 38 _ [gm_vi (N (95 + ((N (119 + (l * 7 + 1))) * 3 + 2)))] n K _ _ Q
  refine gm_sz (gm_p_load (pc := 38) (i := .iload_n 2) (sr := 0) (j := 2) (by decide +kernel) rfl rfl rfl) ?_
  refine fw_ic (cc := .ne) (pc := 39) (off := 5) (by decide +kernel) (by decide) ⟨by omega, by omega⟩ ⟨by omega, by omega⟩ (fun h39 => ?_) (fun h39 => ?_)
  · have h39 : ¬ (N (95 + ((N (119 + (l * 7 + 1))) * 3 + 2))) = (N (119 + (l * 7 + 2))) := h39
    refine gm_sz (gm_p_load (pc := 44) (i := .aload_n 0) (sr := 2) (j := 0) (by decide +kernel) rfl rfl rfl) ?_
    refine gm_sz (fw_gr (pc := 45) (ix := 23) (ci := 0) (j := 3) (r := 3) (by decide +kernel) (e0k hE (k := 1) (c := 0) (by decide +kernel)) (by decide +kernel) (by decide +kernel) (e0r hE (k := 1) (j := 3) (r := 3) (by decide +kernel))) ?_
    refine gm_sz (fw_gi (pc := 48) (ix := 269) (ci := 1) (j := 6) (x := N 9) (by decide +kernel) (e0k hE (k := 3) (c := 1) (by decide +kernel)) (by decide +kernel) (by decide +kernel) (ti_now hT)) ?_
    refine gm_sz (gm_p_load (pc := 51) (i := .aload_n 0) (sr := 2) (j := 0) (by decide +kernel) rfl rfl rfl) ?_
    refine gm_sz (fw_gr (pc := 52) (ix := 23) (ci := 0) (j := 3) (r := 3) (by decide +kernel) (e0k hE (k := 1) (c := 0) (by decide +kernel)) (by decide +kernel) (by decide +kernel) (e0r hE (k := 1) (j := 3) (r := 3) (by decide +kernel))) ?_
    refine gm_sz (fw_gr (pc := 55) (ix := 203) (ci := 1) (j := 12) (r := 10) (by decide +kernel) (e0k hE (k := 3) (c := 1) (by decide +kernel)) (by decide +kernel) (by decide +kernel) (e0r hE (k := 3) (j := 12) (r := 10) (by decide +kernel))) ?_
    refine gm_sz (gm_p_load (pc := 58) (i := .iload_n 1) (sr := 0) (j := 1) (by decide +kernel) rfl rfl rfl) ?_
    refine gm_sz (gm_p_const (pc := 59) (i := .iconst 3) (v := gm_vi 3) (by decide +kernel) (by decide +kernel)) ?_
    refine gm_c_virt (k := 10) (ci := 2) (mj := 10) (ix := 186) (pc := 60) (as := [gm_vi l, gm_vi 3]) (st := [gm_vi (N 9)]) (d' := d - 1) (bc' := 0) (bs' := 0) (by decide +kernel) (by decide +kernel) (by decide +kernel) (by decide +kernel) (e0k hE (k := 10) (c := 2) (by decide +kernel)).1 (e0k hE (k := 10) (c := 2) (by decide +kernel)).2 (by decide) (by decide +kernel) (show 2 = gm_na 10 by decide +kernel) (fw_c2 fw_si fw_si) (show 3 ≤ gm_ml 10 by decide +kernel) (Nat.le_of_ble_eq_true rfl) (by omega) (Nat.zero_le _) (Nat.zero_le _) ?_
    refine rw_get (s := N 4) (w := 7) (x := N (119 + (l * 7 + 3))) (e0k hE (k := 10) (c := 2) (by decide +kernel)) (e0a hE (k := 11) (q := (0, 168)) (by decide +kernel)) (e0r hE (k := 10) (j := 2) (r := 11) (by decide +kernel)) (by decide) (ti_let hT) (hT.1 (10, 1, 7) (by decide)) ⟨by omega, by omega⟩ ⟨by omega, by omega⟩ ⟨by omega, by omega⟩ ⟨by omega, by omega⟩ (ti_aL hT (by omega) (by omega)) ?_
    show gm_Wp X LX d _ _ 163 63 _ [gm_vi (N (119 + (l * 7 + 3))), gm_vi (N 9)] n K _ _ Q
    refine gm_sz (gm_p_bin (pc := 63) (i := .isub) (f := fun x y => x - y) (by decide +kernel) rfl) ?_
    refine gm_sz (gm_p_stor (pc := 64) (i := .istore 4) (sr := 0) (j := 4) (by decide +kernel) rfl (show 5 ≤ _ from Nat.le_of_ble_eq_true rfl) rfl) ?_
    refine gm_sz (gm_p_const (pc := 66) (i := .iconst 0) (v := gm_vi 0) (by decide +kernel) (by decide +kernel)) ?_
    refine gm_sz (gm_p_stor (pc := 67) (i := .istore 5) (sr := 0) (j := 5) (by decide +kernel) rfl (show 6 ≤ _ from Nat.le_of_ble_eq_true rfl) rfl) ?_
    exact op_l hd hE hT hN hst hmo hI h1 hr h3 hdp h39 hq (N 3).toNat 0 M (by omega) fr_0 rfl
  · have h39 : (N (95 + ((N (119 + (l * 7 + 1))) * 3 + 2))) = (N (119 + (l * 7 + 2))) := Classical.not_not.mp h39
    refine gm_sz (gm_p_load (pc := 42) (i := .iload_n 3) (sr := 0) (j := 3) (by decide +kernel) rfl rfl rfl) ?_
    have e9 : opf N ψ l dp = N (119 + (l * 7 + 1)) := tif_t h39
    rw [e9] at hq
    exact gm_r_int (pc := 43) (by decide +kernel) (Or.inl (by decide +kernel)) (hq M fr_0)
end YR7
end
/-! 7a16.r3op -/
section
/-! THE REFERENCE: who waits, by whom it is opened (laid by wip/core/r3.py). -/
/-- may open, as the reference has it -/
noncomputable def rpsi (N h : Int → Int) (H : (Int → Int) → Int → Prop) (G : Int → Int) (m : Int) (person lane age deep : Int) : Prop := 0 < rsum H (fcts N h lane (N 1) (N 9) 0 person age deep) G 2 m.toNat
section RO3
variable {X : Int → Int} {LX d bc bs n : Nat} {K : gm_K} {R : gm_R} {M M2 : gm_M} {Q : gm_Q} {l o dp p m : Int} {N h G : Int → Int} {H : (Int → Int) → Int → Prop} {FI : gm_M → Prop} {φ : Int → Int → Int → Int} {ψ : Int → Int → Int → Int → Prop}
/-- mayOpen of the reference, by what it answers -/
def MOR (X : Int → Int) (LX n : Nat) (K : gm_K) (R : gm_R) (N h : Int → Int) (FI : gm_M → Prop) (ψ : Int → Int → Int → Int → Prop) : Prop := ∀ (d bc bs : Nat) (M : gm_M) (Q : gm_Q) (person l dp : Int), 5 ≤ d → 0 ≤ l ∧ l < N 4 → TR N h M → FI M → (0 ≤ M 226 29 ∧ M 226 29 < 300) → M 237 (M 226 29) = dp → (ψ person ((N (119 + (l * 7 + 2)))) (N 9 - (N (119 + (l * 7 + 3)))) dp → ∀ M2, fr [(226, some 17), (226, some 18), (226, some 19), (226, some 20), (226, some 21), (226, some 22), (226, some 23), (233, none)] M M2 → Q (.inl (some (gm_vi 1))) n K R M2) → (¬ ψ person ((N (119 + (l * 7 + 2)))) (N 9 - (N (119 + (l * 7 + 3)))) dp → ∀ M2, fr [(226, some 17), (226, some 18), (226, some 19), (226, some 20), (226, some 21), (226, some 22), (226, some 23), (233, none)] M M2 → Q (.inl (some (gm_vi 0))) n K R M2) → gm_Wp X LX d bc bs 323 0 (gm_ent 323 [gm_vr 226, gm_vi person, gm_vi l]) [] n K R M Q
theorem re_mor (hE : E0 n K R) (hN : NR N) (hL : LG G m) (hH : HHL H G m) : MOR X LX n K R N h (fun M => ∀ j, (395 ≤ j ∨ j = 8) → M 227 j = G j) (rpsi N h H G m) := by
  intro d bc bs M Q person l dp hd h1 hT hG ho hdp q1 q0
  obtain ⟨⟨⟨a0, b0⟩, ⟨a1, b1⟩, ⟨a10, b10⟩, ⟨a11, b11⟩, ⟨a12, b12⟩, a9, b9⟩, ⟨⟨a2, b2⟩, ⟨a5, b5⟩, ⟨a3, b3⟩, ⟨a4, b4⟩, ⟨a6, b6⟩, ⟨a14, b14⟩, ⟨a7, b7⟩, a13, b13⟩, rF, rP, rL⟩ := id hN
  obtain ⟨-, -, r2, r3, -⟩ := rL l h1.1 h1.2
  have ln9 : 0 ≤ N (119 + (l * 7 + 2)) ∧ N (119 + (l * 7 + 2)) < N 0 := r2
  have yr9 : 0 ≤ N (119 + (l * 7 + 3)) ∧ N (119 + (l * 7 + 3)) ≤ N 9 := r3
  obtain ⟨m0, m1⟩ := hL.1.2.2
  refine gm_sz (gm_p_load (pc := 0) (i := .aload_n 0) (sr := 2) (j := 0) (by decide +kernel) rfl rfl rfl) ?_
  refine gm_sz (gm_p_load (pc := 1) (i := .aload_n 0) (sr := 2) (j := 0) (by decide +kernel) rfl rfl rfl) ?_
  refine gm_sz (gm_p_load (pc := 2) (i := .iload_n 2) (sr := 0) (j := 2) (by decide +kernel) rfl rfl rfl) ?_
  refine gm_sz (gm_p_const (pc := 3) (i := .iconst 2) (v := gm_vi 2) (by decide +kernel) (by decide +kernel)) ?_
  refine gm_c_virt (k := 226) (ci := 11) (mj := 301) (ix := 82) (pc := 4) (as := [gm_vi l, gm_vi 2]) (st := [gm_vr 226]) (d' := d - 1) (bc' := 0) (bs' := 0) (by decide +kernel) (by decide +kernel) (by decide +kernel) (by decide +kernel) (e0k hE (k := 226) (c := 11) (by decide +kernel)).1 (e0k hE (k := 226) (c := 11) (by decide +kernel)).2 (by decide) (by decide +kernel) (show 2 = gm_na 301 by decide +kernel) (fw_c2 fw_si fw_si) (show 3 ≤ gm_ml 301 by decide +kernel) (Nat.le_of_ble_eq_true rfl) (by omega) (Nat.zero_le _) (Nat.zero_le _) ?_
  refine re_ol hE hT hN ⟨by omega, by omega⟩ ⟨by omega, by omega⟩ ?_
  show gm_Wp X LX d _ _ 323 7 _ [gm_vi (N (119 + (l * 7 + 2))), gm_vr 226] n K _ _ Q
  refine gm_sz (fw_pi (pc := 7) (ix := 303) (ci := 11) (j := 17) (M' := gm_uM M 226 17 (N (119 + (l * 7 + 2)))) (by decide +kernel) (e0k hE (k := 226) (c := 11) (by decide +kernel)) (by decide +kernel) (by decide +kernel) (by decide +kernel) rfl) ?_
  refine gm_sz (gm_p_load (pc := 10) (i := .aload_n 0) (sr := 2) (j := 0) (by decide +kernel) rfl rfl rfl) ?_
  refine gm_sz (gm_p_load (pc := 11) (i := .aload_n 0) (sr := 2) (j := 0) (by decide +kernel) rfl rfl rfl) ?_
  refine gm_c_virt (k := 226) (ci := 11) (mj := 259) (ix := 94) (pc := 12) (as := []) (st := [gm_vr 226]) (d' := d - 1) (bc' := 0) (bs' := 0) (by decide +kernel) (by decide +kernel) (by decide +kernel) (by decide +kernel) (e0k hE (k := 226) (c := 11) (by decide +kernel)).1 (e0k hE (k := 226) (c := 11) (by decide +kernel)).2 (by decide) (by decide +kernel) (show 0 = gm_na 259 by decide +kernel) fw_c0 (show 1 ≤ gm_ml 259 by decide +kernel) (Nat.le_of_ble_eq_true rfl) (by omega) (Nat.zero_le _) (Nat.zero_le _) ?_
  refine re_lip hE (tr_fr (W := [(226, some 17)]) hT (fr_p fr_0 (Or.inr (by decide))) (by decide)) hN ?_
  show gm_Wp X LX d _ _ 323 15 _ [gm_vi (N 1), gm_vr 226] n K _ _ Q
  refine gm_sz (fw_pi (pc := 15) (ix := 306) (ci := 11) (j := 18) (M' := gm_uM (gm_uM M 226 17 (N (119 + (l * 7 + 2)))) 226 18 (N 1)) (by decide +kernel) (e0k hE (k := 226) (c := 11) (by decide +kernel)) (by decide +kernel) (by decide +kernel) (by decide +kernel) rfl) ?_
  refine gm_sz (gm_p_load (pc := 18) (i := .aload_n 0) (sr := 2) (j := 0) (by decide +kernel) rfl rfl rfl) ?_
  refine gm_sz (gm_p_load (pc := 19) (i := .aload_n 0) (sr := 2) (j := 0) (by decide +kernel) rfl rfl rfl) ?_
  refine gm_c_virt (k := 226) (ci := 11) (mj := 266) (ix := 162) (pc := 20) (as := []) (st := [gm_vr 226]) (d' := d - 1) (bc' := 0) (bs' := 0) (by decide +kernel) (by decide +kernel) (by decide +kernel) (by decide +kernel) (e0k hE (k := 226) (c := 11) (by decide +kernel)).1 (e0k hE (k := 226) (c := 11) (by decide +kernel)).2 (by decide) (by decide +kernel) (show 0 = gm_na 266 by decide +kernel) fw_c0 (show 1 ≤ gm_ml 266 by decide +kernel) (Nat.le_of_ble_eq_true rfl) (by omega) (Nat.zero_le _) (Nat.zero_le _) ?_
  refine re_now hE (tr_fr (W := [(226, some 17), (226, some 18)]) hT (fr_p (fr_p fr_0 (Or.inr (by decide))) (Or.inr (by decide))) (by decide)) hN ?_
  show gm_Wp X LX d _ _ 323 23 _ [gm_vi (N 9), gm_vr 226] n K _ _ Q
  refine gm_sz (fw_pi (pc := 23) (ix := 309) (ci := 11) (j := 19) (M' := gm_uM (gm_uM (gm_uM M 226 17 (N (119 + (l * 7 + 2)))) 226 18 (N 1)) 226 19 (N 9)) (by decide +kernel) (e0k hE (k := 226) (c := 11) (by decide +kernel)) (by decide +kernel) (by decide +kernel) (by decide +kernel) rfl) ?_
  refine gm_sz (gm_p_load (pc := 26) (i := .aload_n 0) (sr := 2) (j := 0) (by decide +kernel) rfl rfl rfl) ?_
  refine gm_sz (gm_p_const (pc := 27) (i := .iconst 0) (v := gm_vi 0) (by decide +kernel) (by decide +kernel)) ?_
  refine gm_sz (fw_pi (pc := 28) (ix := 312) (ci := 11) (j := 20) (M' := gm_uM (gm_uM (gm_uM (gm_uM M 226 17 (N (119 + (l * 7 + 2)))) 226 18 (N 1)) 226 19 (N 9)) 226 20 0) (by decide +kernel) (e0k hE (k := 226) (c := 11) (by decide +kernel)) (by decide +kernel) (by decide +kernel) (by decide +kernel) rfl) ?_
  refine gm_sz (gm_p_load (pc := 31) (i := .aload_n 0) (sr := 2) (j := 0) (by decide +kernel) rfl rfl rfl) ?_
  refine gm_sz (gm_p_load (pc := 32) (i := .iload_n 1) (sr := 0) (j := 1) (by decide +kernel) rfl rfl rfl) ?_
  refine gm_sz (fw_pi (pc := 33) (ix := 315) (ci := 11) (j := 21) (M' := gm_uM (gm_uM (gm_uM (gm_uM (gm_uM M 226 17 (N (119 + (l * 7 + 2)))) 226 18 (N 1)) 226 19 (N 9)) 226 20 0) 226 21 person) (by decide +kernel) (e0k hE (k := 226) (c := 11) (by decide +kernel)) (by decide +kernel) (by decide +kernel) (by decide +kernel) rfl) ?_
  refine gm_sz (gm_p_load (pc := 36) (i := .aload_n 0) (sr := 2) (j := 0) (by decide +kernel) rfl rfl rfl) ?_
  refine gm_sz (gm_p_load (pc := 37) (i := .aload_n 0) (sr := 2) (j := 0) (by decide +kernel) rfl rfl rfl) ?_
  refine gm_c_virt (k := 226) (ci := 11) (mj := 266) (ix := 162) (pc := 38) (as := []) (st := [gm_vr 226]) (d' := d - 1) (bc' := 0) (bs' := 0) (by decide +kernel) (by decide +kernel) (by decide +kernel) (by decide +kernel) (e0k hE (k := 226) (c := 11) (by decide +kernel)).1 (e0k hE (k := 226) (c := 11) (by decide +kernel)).2 (by decide) (by decide +kernel) (show 0 = gm_na 266 by decide +kernel) fw_c0 (show 1 ≤ gm_ml 266 by decide +kernel) (Nat.le_of_ble_eq_true rfl) (by omega) (Nat.zero_le _) (Nat.zero_le _) ?_
  refine re_now hE (tr_fr (W := [(226, some 17), (226, some 18), (226, some 19), (226, some 20), (226, some 21)]) hT (fr_p (fr_p (fr_p (fr_p (fr_p fr_0 (Or.inr (by decide))) (Or.inr (by decide))) (Or.inr (by decide))) (Or.inr (by decide))) (Or.inr (by decide))) (by decide)) hN ?_
  show gm_Wp X LX d _ _ 323 41 _ [gm_vi (N 9), gm_vr 226] n K _ _ Q
  refine gm_sz (gm_p_load (pc := 41) (i := .aload_n 0) (sr := 2) (j := 0) (by decide +kernel) rfl rfl rfl) ?_
  refine gm_sz (gm_p_load (pc := 42) (i := .iload_n 2) (sr := 0) (j := 2) (by decide +kernel) rfl rfl rfl) ?_
  refine gm_sz (gm_p_const (pc := 43) (i := .iconst 3) (v := gm_vi 3) (by decide +kernel) (by decide +kernel)) ?_
  refine gm_c_virt (k := 226) (ci := 11) (mj := 301) (ix := 82) (pc := 44) (as := [gm_vi l, gm_vi 3]) (st := [gm_vi (N 9), gm_vr 226]) (d' := d - 1) (bc' := 0) (bs' := 0) (by decide +kernel) (by decide +kernel) (by decide +kernel) (by decide +kernel) (e0k hE (k := 226) (c := 11) (by decide +kernel)).1 (e0k hE (k := 226) (c := 11) (by decide +kernel)).2 (by decide) (by decide +kernel) (show 2 = gm_na 301 by decide +kernel) (fw_c2 fw_si fw_si) (show 3 ≤ gm_ml 301 by decide +kernel) (Nat.le_of_ble_eq_true rfl) (by omega) (Nat.zero_le _) (Nat.zero_le _) ?_
  refine re_ol hE (tr_fr (W := [(226, some 17), (226, some 18), (226, some 19), (226, some 20), (226, some 21)]) hT (fr_p (fr_p (fr_p (fr_p (fr_p fr_0 (Or.inr (by decide))) (Or.inr (by decide))) (Or.inr (by decide))) (Or.inr (by decide))) (Or.inr (by decide))) (by decide)) hN ⟨by omega, by omega⟩ ⟨by omega, by omega⟩ ?_
  show gm_Wp X LX d _ _ 323 47 _ [gm_vi (N (119 + (l * 7 + 3))), gm_vi (N 9), gm_vr 226] n K _ _ Q
  refine gm_sz (gm_p_bin (pc := 47) (i := .isub) (f := fun x y => x - y) (by decide +kernel) rfl) ?_
  refine gm_sz (fw_pi (pc := 48) (ix := 318) (ci := 11) (j := 22) (M' := gm_uM (gm_uM (gm_uM (gm_uM (gm_uM (gm_uM M 226 17 (N (119 + (l * 7 + 2)))) 226 18 (N 1)) 226 19 (N 9)) 226 20 0) 226 21 person) 226 22 ((N 9) - (N (119 + (l * 7 + 3))))) (by decide +kernel) (e0k hE (k := 226) (c := 11) (by decide +kernel)) (by decide +kernel) (by decide +kernel) (by decide +kernel) rfl) ?_
  refine gm_sz (gm_p_load (pc := 51) (i := .aload_n 0) (sr := 2) (j := 0) (by decide +kernel) rfl rfl rfl) ?_
  refine gm_sz (gm_p_load (pc := 52) (i := .aload_n 0) (sr := 2) (j := 0) (by decide +kernel) rfl rfl rfl) ?_
  refine gm_sz (fw_gr (pc := 53) (ix := 48) (ci := 11) (j := 28) (r := 237) (by decide +kernel) (e0k hE (k := 226) (c := 11) (by decide +kernel)) (by decide +kernel) (by decide +kernel) (e0r hE (k := 226) (j := 28) (r := 237) (by decide +kernel))) ?_
  refine gm_sz (gm_p_load (pc := 56) (i := .aload_n 0) (sr := 2) (j := 0) (by decide +kernel) rfl rfl rfl) ?_
  refine gm_sz (fw_gi (pc := 57) (ix := 368) (ci := 11) (j := 29) (x := M 226 29) (by decide +kernel) (e0k hE (k := 226) (c := 11) (by decide +kernel)) (by decide +kernel) (by decide +kernel) ((uM_ne (by omega)).trans ((uM_ne (by omega)).trans ((uM_ne (by omega)).trans ((uM_ne (by omega)).trans ((uM_ne (by omega)).trans ((uM_ne (by omega)).trans rfl))))))) ?_
  refine gm_sz (fw_ia (pc := 60) (k := 237) (len := 300) (e0 := M 226 29) (x := dp) (by decide +kernel) (e0a hE (k := 237) (q := (0, 300)) (by decide +kernel)).1 (e0a hE (k := 237) (q := (0, 300)) (by decide +kernel)).2 (by decide) ⟨by omega, by omega⟩ ((uM_ne (by omega)).trans ((uM_ne (by omega)).trans ((uM_ne (by omega)).trans ((uM_ne (by omega)).trans ((uM_ne (by omega)).trans ((uM_ne (by omega)).trans hdp))))))) ?_
  refine gm_sz (fw_pi (pc := 61) (ix := 321) (ci := 11) (j := 23) (M' := gm_uM (gm_uM (gm_uM (gm_uM (gm_uM (gm_uM (gm_uM M 226 17 (N (119 + (l * 7 + 2)))) 226 18 (N 1)) 226 19 (N 9)) 226 20 0) 226 21 person) 226 22 ((N 9) - (N (119 + (l * 7 + 3))))) 226 23 dp) (by decide +kernel) (e0k hE (k := 226) (c := 11) (by decide +kernel)) (by decide +kernel) (by decide +kernel) (by decide +kernel) rfl) ?_
  refine gm_sz (gm_p_load (pc := 64) (i := .aload_n 0) (sr := 2) (j := 0) (by decide +kernel) rfl rfl rfl) ?_
  refine gm_sz (gm_p_const (pc := 65) (i := .iconst 2) (v := gm_vi 2) (by decide +kernel) (by decide +kernel)) ?_
  refine gm_c_virt (k := 226) (ci := 11) (mj := 294) (ix := 341) (pc := 66) (as := [gm_vi 2]) (st := []) (d' := d - 1) (bc' := 0) (bs' := 0) (by decide +kernel) (by decide +kernel) (by decide +kernel) (by decide +kernel) (e0k hE (k := 226) (c := 11) (by decide +kernel)).1 (e0k hE (k := 226) (c := 11) (by decide +kernel)).2 (by decide) (by decide +kernel) (show 1 = gm_na 294 by decide +kernel) (fw_c1 fw_si) (show 2 ≤ gm_ml 294 by decide +kernel) (Nat.le_of_ble_eq_true rfl) (by omega) (Nat.zero_le _) (Nat.zero_le _) ?_
  refine re_c294 (kd := 2) (m := m) (H := H) (by omega) hE (tr_fr (W := [(226, some 17), (226, some 18), (226, some 19), (226, some 20), (226, some 21), (226, some 22), (226, some 23)]) hT (fr_p (fr_p (fr_p (fr_p (fr_p (fr_p (fr_p fr_0 (Or.inr (by decide))) (Or.inr (by decide))) (Or.inr (by decide))) (Or.inr (by decide))) (Or.inr (by decide))) (Or.inr (by decide))) (Or.inr (by decide))) (by decide)) hN (fun j hj => ((uM_ne (by omega)).trans ((uM_ne (by omega)).trans ((uM_ne (by omega)).trans ((uM_ne (by omega)).trans ((uM_ne (by omega)).trans ((uM_ne (by omega)).trans ((uM_ne (by omega)).trans (hG j hj))))))))) ((uM_ne (by omega)).trans ((uM_ne (by omega)).trans ((uM_ne (by omega)).trans ((uM_ne (by omega)).trans ((uM_ne (by omega)).trans ((uM_ne (by omega)).trans uM_at)))))) ((uM_ne (by omega)).trans ((uM_ne (by omega)).trans ((uM_ne (by omega)).trans ((uM_ne (by omega)).trans ((uM_ne (by omega)).trans uM_at))))) ((uM_ne (by omega)).trans ((uM_ne (by omega)).trans ((uM_ne (by omega)).trans ((uM_ne (by omega)).trans uM_at)))) ((uM_ne (by omega)).trans ((uM_ne (by omega)).trans ((uM_ne (by omega)).trans uM_at))) ((uM_ne (by omega)).trans ((uM_ne (by omega)).trans uM_at)) ((uM_ne (by omega)).trans uM_at) uM_at ⟨by omega, by omega⟩ ⟨by omega, by omega⟩ hL hH ⟨by decide, by decide⟩ (fun M66 hf66 => ?_)
  show gm_Wp X LX d _ _ 323 69 _ [gm_vi (rsum H (fcts N h (N (119 + (l * 7 + 2))) (N 1) (N 9) 0 person (N 9 - N (119 + (l * 7 + 3))) dp) G 2 m.toNat)] n K _ _ Q
  have hb66 := rsum_b (H := H) (F := (fcts N h (N (119 + (l * 7 + 2))) (N 1) (N 9) 0 person (N 9 - N (119 + (l * 7 + 3))) dp)) (kd := 2) hL m.toNat (by omega)
  refine fw_if (cc := .le) (pc := 69) (off := 7) (by decide +kernel) (by decide) ⟨by omega, by omega⟩ (fun h69 => ?_) (fun h69 => ?_)
  · have h69 : (rsum H (fcts N h (N (119 + (l * 7 + 2))) (N 1) (N 9) 0 person (N 9 - N (119 + (l * 7 + 3))) dp) G 2 m.toNat) ≤ 0 := h69
    refine gm_sz (gm_p_const (pc := 76) (i := .iconst 0) (v := gm_vi 0) (by decide +kernel) (by decide +kernel)) ?_
    exact gm_r_int (pc := 77) (by decide +kernel) (Or.inr ⟨(by decide +kernel), Or.inl rfl⟩) (q0 (fun hh => by have hh : 0 < rsum H (fcts N h (N (119 + (l * 7 + 2))) (N 1) (N 9) 0 person (N 9 - N (119 + (l * 7 + 3))) dp) G 2 m.toNat := hh; omega) _ (fr_t (fr_p (fr_p (fr_p (fr_p (fr_p (fr_p (fr_p fr_0 (Or.inr (by decide))) (Or.inr (by decide))) (Or.inr (by decide))) (Or.inr (by decide))) (Or.inr (by decide))) (Or.inr (by decide))) (Or.inr (by decide))) hf66 (by decide)))
  · have h69 : ¬ (rsum H (fcts N h (N (119 + (l * 7 + 2))) (N 1) (N 9) 0 person (N 9 - N (119 + (l * 7 + 3))) dp) G 2 m.toNat) ≤ 0 := h69
    refine gm_sz (gm_p_const (pc := 72) (i := .iconst 1) (v := gm_vi 1) (by decide +kernel) (by decide +kernel)) ?_
    refine gm_sz (gm_p_goto (pc := 73) (off := 4) (by decide +kernel) (by decide)) ?_
    exact gm_r_int (pc := 77) (by decide +kernel) (Or.inr ⟨(by decide +kernel), Or.inr rfl⟩) (q1 (show rpsi N h H G m person ((N (119 + (l * 7 + 2)))) (N 9 - (N (119 + (l * 7 + 3)))) dp from (by have := h69; show 0 < _; omega)) _ (fr_t (fr_p (fr_p (fr_p (fr_p (fr_p (fr_p (fr_p fr_0 (Or.inr (by decide))) (Or.inr (by decide))) (Or.inr (by decide))) (Or.inr (by decide))) (Or.inr (by decide))) (Or.inr (by decide))) (Or.inr (by decide))) hf66 (by decide)))
theorem re_mor0 (hE : E0 n K R) (hN : NR N) (h8 : G 8 = 0) : MOR X LX n K R N h (fun M => ∀ j, (395 ≤ j ∨ j = 8) → M 227 j = G j) (fun _ _ _ _ => False) := by
  intro d bc bs M Q person l dp hd h1 hT hG ho hdp q1 q0
  obtain ⟨⟨⟨a0, b0⟩, ⟨a1, b1⟩, ⟨a10, b10⟩, ⟨a11, b11⟩, ⟨a12, b12⟩, a9, b9⟩, ⟨⟨a2, b2⟩, ⟨a5, b5⟩, ⟨a3, b3⟩, ⟨a4, b4⟩, ⟨a6, b6⟩, ⟨a14, b14⟩, ⟨a7, b7⟩, a13, b13⟩, rF, rP, rL⟩ := id hN
  obtain ⟨-, -, r2, r3, -⟩ := rL l h1.1 h1.2
  have ln9 : 0 ≤ N (119 + (l * 7 + 2)) ∧ N (119 + (l * 7 + 2)) < N 0 := r2
  have yr9 : 0 ≤ N (119 + (l * 7 + 3)) ∧ N (119 + (l * 7 + 3)) ≤ N 9 := r3
  refine gm_sz (gm_p_load (pc := 0) (i := .aload_n 0) (sr := 2) (j := 0) (by decide +kernel) rfl rfl rfl) ?_
  refine gm_sz (gm_p_load (pc := 1) (i := .aload_n 0) (sr := 2) (j := 0) (by decide +kernel) rfl rfl rfl) ?_
  refine gm_sz (gm_p_load (pc := 2) (i := .iload_n 2) (sr := 0) (j := 2) (by decide +kernel) rfl rfl rfl) ?_
  refine gm_sz (gm_p_const (pc := 3) (i := .iconst 2) (v := gm_vi 2) (by decide +kernel) (by decide +kernel)) ?_
  refine gm_c_virt (k := 226) (ci := 11) (mj := 301) (ix := 82) (pc := 4) (as := [gm_vi l, gm_vi 2]) (st := [gm_vr 226]) (d' := d - 1) (bc' := 0) (bs' := 0) (by decide +kernel) (by decide +kernel) (by decide +kernel) (by decide +kernel) (e0k hE (k := 226) (c := 11) (by decide +kernel)).1 (e0k hE (k := 226) (c := 11) (by decide +kernel)).2 (by decide) (by decide +kernel) (show 2 = gm_na 301 by decide +kernel) (fw_c2 fw_si fw_si) (show 3 ≤ gm_ml 301 by decide +kernel) (Nat.le_of_ble_eq_true rfl) (by omega) (Nat.zero_le _) (Nat.zero_le _) ?_
  refine re_ol hE hT hN ⟨by omega, by omega⟩ ⟨by omega, by omega⟩ ?_
  show gm_Wp X LX d _ _ 323 7 _ [gm_vi (N (119 + (l * 7 + 2))), gm_vr 226] n K _ _ Q
  refine gm_sz (fw_pi (pc := 7) (ix := 303) (ci := 11) (j := 17) (M' := gm_uM M 226 17 (N (119 + (l * 7 + 2)))) (by decide +kernel) (e0k hE (k := 226) (c := 11) (by decide +kernel)) (by decide +kernel) (by decide +kernel) (by decide +kernel) rfl) ?_
  refine gm_sz (gm_p_load (pc := 10) (i := .aload_n 0) (sr := 2) (j := 0) (by decide +kernel) rfl rfl rfl) ?_
  refine gm_sz (gm_p_load (pc := 11) (i := .aload_n 0) (sr := 2) (j := 0) (by decide +kernel) rfl rfl rfl) ?_
  refine gm_c_virt (k := 226) (ci := 11) (mj := 259) (ix := 94) (pc := 12) (as := []) (st := [gm_vr 226]) (d' := d - 1) (bc' := 0) (bs' := 0) (by decide +kernel) (by decide +kernel) (by decide +kernel) (by decide +kernel) (e0k hE (k := 226) (c := 11) (by decide +kernel)).1 (e0k hE (k := 226) (c := 11) (by decide +kernel)).2 (by decide) (by decide +kernel) (show 0 = gm_na 259 by decide +kernel) fw_c0 (show 1 ≤ gm_ml 259 by decide +kernel) (Nat.le_of_ble_eq_true rfl) (by omega) (Nat.zero_le _) (Nat.zero_le _) ?_
  refine re_lip hE (tr_fr (W := [(226, some 17)]) hT (fr_p fr_0 (Or.inr (by decide))) (by decide)) hN ?_
  show gm_Wp X LX d _ _ 323 15 _ [gm_vi (N 1), gm_vr 226] n K _ _ Q
  refine gm_sz (fw_pi (pc := 15) (ix := 306) (ci := 11) (j := 18) (M' := gm_uM (gm_uM M 226 17 (N (119 + (l * 7 + 2)))) 226 18 (N 1)) (by decide +kernel) (e0k hE (k := 226) (c := 11) (by decide +kernel)) (by decide +kernel) (by decide +kernel) (by decide +kernel) rfl) ?_
  refine gm_sz (gm_p_load (pc := 18) (i := .aload_n 0) (sr := 2) (j := 0) (by decide +kernel) rfl rfl rfl) ?_
  refine gm_sz (gm_p_load (pc := 19) (i := .aload_n 0) (sr := 2) (j := 0) (by decide +kernel) rfl rfl rfl) ?_
  refine gm_c_virt (k := 226) (ci := 11) (mj := 266) (ix := 162) (pc := 20) (as := []) (st := [gm_vr 226]) (d' := d - 1) (bc' := 0) (bs' := 0) (by decide +kernel) (by decide +kernel) (by decide +kernel) (by decide +kernel) (e0k hE (k := 226) (c := 11) (by decide +kernel)).1 (e0k hE (k := 226) (c := 11) (by decide +kernel)).2 (by decide) (by decide +kernel) (show 0 = gm_na 266 by decide +kernel) fw_c0 (show 1 ≤ gm_ml 266 by decide +kernel) (Nat.le_of_ble_eq_true rfl) (by omega) (Nat.zero_le _) (Nat.zero_le _) ?_
  refine re_now hE (tr_fr (W := [(226, some 17), (226, some 18)]) hT (fr_p (fr_p fr_0 (Or.inr (by decide))) (Or.inr (by decide))) (by decide)) hN ?_
  show gm_Wp X LX d _ _ 323 23 _ [gm_vi (N 9), gm_vr 226] n K _ _ Q
  refine gm_sz (fw_pi (pc := 23) (ix := 309) (ci := 11) (j := 19) (M' := gm_uM (gm_uM (gm_uM M 226 17 (N (119 + (l * 7 + 2)))) 226 18 (N 1)) 226 19 (N 9)) (by decide +kernel) (e0k hE (k := 226) (c := 11) (by decide +kernel)) (by decide +kernel) (by decide +kernel) (by decide +kernel) rfl) ?_
  refine gm_sz (gm_p_load (pc := 26) (i := .aload_n 0) (sr := 2) (j := 0) (by decide +kernel) rfl rfl rfl) ?_
  refine gm_sz (gm_p_const (pc := 27) (i := .iconst 0) (v := gm_vi 0) (by decide +kernel) (by decide +kernel)) ?_
  refine gm_sz (fw_pi (pc := 28) (ix := 312) (ci := 11) (j := 20) (M' := gm_uM (gm_uM (gm_uM (gm_uM M 226 17 (N (119 + (l * 7 + 2)))) 226 18 (N 1)) 226 19 (N 9)) 226 20 0) (by decide +kernel) (e0k hE (k := 226) (c := 11) (by decide +kernel)) (by decide +kernel) (by decide +kernel) (by decide +kernel) rfl) ?_
  refine gm_sz (gm_p_load (pc := 31) (i := .aload_n 0) (sr := 2) (j := 0) (by decide +kernel) rfl rfl rfl) ?_
  refine gm_sz (gm_p_load (pc := 32) (i := .iload_n 1) (sr := 0) (j := 1) (by decide +kernel) rfl rfl rfl) ?_
  refine gm_sz (fw_pi (pc := 33) (ix := 315) (ci := 11) (j := 21) (M' := gm_uM (gm_uM (gm_uM (gm_uM (gm_uM M 226 17 (N (119 + (l * 7 + 2)))) 226 18 (N 1)) 226 19 (N 9)) 226 20 0) 226 21 person) (by decide +kernel) (e0k hE (k := 226) (c := 11) (by decide +kernel)) (by decide +kernel) (by decide +kernel) (by decide +kernel) rfl) ?_
  refine gm_sz (gm_p_load (pc := 36) (i := .aload_n 0) (sr := 2) (j := 0) (by decide +kernel) rfl rfl rfl) ?_
  refine gm_sz (gm_p_load (pc := 37) (i := .aload_n 0) (sr := 2) (j := 0) (by decide +kernel) rfl rfl rfl) ?_
  refine gm_c_virt (k := 226) (ci := 11) (mj := 266) (ix := 162) (pc := 38) (as := []) (st := [gm_vr 226]) (d' := d - 1) (bc' := 0) (bs' := 0) (by decide +kernel) (by decide +kernel) (by decide +kernel) (by decide +kernel) (e0k hE (k := 226) (c := 11) (by decide +kernel)).1 (e0k hE (k := 226) (c := 11) (by decide +kernel)).2 (by decide) (by decide +kernel) (show 0 = gm_na 266 by decide +kernel) fw_c0 (show 1 ≤ gm_ml 266 by decide +kernel) (Nat.le_of_ble_eq_true rfl) (by omega) (Nat.zero_le _) (Nat.zero_le _) ?_
  refine re_now hE (tr_fr (W := [(226, some 17), (226, some 18), (226, some 19), (226, some 20), (226, some 21)]) hT (fr_p (fr_p (fr_p (fr_p (fr_p fr_0 (Or.inr (by decide))) (Or.inr (by decide))) (Or.inr (by decide))) (Or.inr (by decide))) (Or.inr (by decide))) (by decide)) hN ?_
  show gm_Wp X LX d _ _ 323 41 _ [gm_vi (N 9), gm_vr 226] n K _ _ Q
  refine gm_sz (gm_p_load (pc := 41) (i := .aload_n 0) (sr := 2) (j := 0) (by decide +kernel) rfl rfl rfl) ?_
  refine gm_sz (gm_p_load (pc := 42) (i := .iload_n 2) (sr := 0) (j := 2) (by decide +kernel) rfl rfl rfl) ?_
  refine gm_sz (gm_p_const (pc := 43) (i := .iconst 3) (v := gm_vi 3) (by decide +kernel) (by decide +kernel)) ?_
  refine gm_c_virt (k := 226) (ci := 11) (mj := 301) (ix := 82) (pc := 44) (as := [gm_vi l, gm_vi 3]) (st := [gm_vi (N 9), gm_vr 226]) (d' := d - 1) (bc' := 0) (bs' := 0) (by decide +kernel) (by decide +kernel) (by decide +kernel) (by decide +kernel) (e0k hE (k := 226) (c := 11) (by decide +kernel)).1 (e0k hE (k := 226) (c := 11) (by decide +kernel)).2 (by decide) (by decide +kernel) (show 2 = gm_na 301 by decide +kernel) (fw_c2 fw_si fw_si) (show 3 ≤ gm_ml 301 by decide +kernel) (Nat.le_of_ble_eq_true rfl) (by omega) (Nat.zero_le _) (Nat.zero_le _) ?_
  refine re_ol hE (tr_fr (W := [(226, some 17), (226, some 18), (226, some 19), (226, some 20), (226, some 21)]) hT (fr_p (fr_p (fr_p (fr_p (fr_p fr_0 (Or.inr (by decide))) (Or.inr (by decide))) (Or.inr (by decide))) (Or.inr (by decide))) (Or.inr (by decide))) (by decide)) hN ⟨by omega, by omega⟩ ⟨by omega, by omega⟩ ?_
  show gm_Wp X LX d _ _ 323 47 _ [gm_vi (N (119 + (l * 7 + 3))), gm_vi (N 9), gm_vr 226] n K _ _ Q
  refine gm_sz (gm_p_bin (pc := 47) (i := .isub) (f := fun x y => x - y) (by decide +kernel) rfl) ?_
  refine gm_sz (fw_pi (pc := 48) (ix := 318) (ci := 11) (j := 22) (M' := gm_uM (gm_uM (gm_uM (gm_uM (gm_uM (gm_uM M 226 17 (N (119 + (l * 7 + 2)))) 226 18 (N 1)) 226 19 (N 9)) 226 20 0) 226 21 person) 226 22 ((N 9) - (N (119 + (l * 7 + 3))))) (by decide +kernel) (e0k hE (k := 226) (c := 11) (by decide +kernel)) (by decide +kernel) (by decide +kernel) (by decide +kernel) rfl) ?_
  refine gm_sz (gm_p_load (pc := 51) (i := .aload_n 0) (sr := 2) (j := 0) (by decide +kernel) rfl rfl rfl) ?_
  refine gm_sz (gm_p_load (pc := 52) (i := .aload_n 0) (sr := 2) (j := 0) (by decide +kernel) rfl rfl rfl) ?_
  refine gm_sz (fw_gr (pc := 53) (ix := 48) (ci := 11) (j := 28) (r := 237) (by decide +kernel) (e0k hE (k := 226) (c := 11) (by decide +kernel)) (by decide +kernel) (by decide +kernel) (e0r hE (k := 226) (j := 28) (r := 237) (by decide +kernel))) ?_
  refine gm_sz (gm_p_load (pc := 56) (i := .aload_n 0) (sr := 2) (j := 0) (by decide +kernel) rfl rfl rfl) ?_
  refine gm_sz (fw_gi (pc := 57) (ix := 368) (ci := 11) (j := 29) (x := M 226 29) (by decide +kernel) (e0k hE (k := 226) (c := 11) (by decide +kernel)) (by decide +kernel) (by decide +kernel) ((uM_ne (by omega)).trans ((uM_ne (by omega)).trans ((uM_ne (by omega)).trans ((uM_ne (by omega)).trans ((uM_ne (by omega)).trans ((uM_ne (by omega)).trans rfl))))))) ?_
  refine gm_sz (fw_ia (pc := 60) (k := 237) (len := 300) (e0 := M 226 29) (x := dp) (by decide +kernel) (e0a hE (k := 237) (q := (0, 300)) (by decide +kernel)).1 (e0a hE (k := 237) (q := (0, 300)) (by decide +kernel)).2 (by decide) ⟨by omega, by omega⟩ ((uM_ne (by omega)).trans ((uM_ne (by omega)).trans ((uM_ne (by omega)).trans ((uM_ne (by omega)).trans ((uM_ne (by omega)).trans ((uM_ne (by omega)).trans hdp))))))) ?_
  refine gm_sz (fw_pi (pc := 61) (ix := 321) (ci := 11) (j := 23) (M' := gm_uM (gm_uM (gm_uM (gm_uM (gm_uM (gm_uM (gm_uM M 226 17 (N (119 + (l * 7 + 2)))) 226 18 (N 1)) 226 19 (N 9)) 226 20 0) 226 21 person) 226 22 ((N 9) - (N (119 + (l * 7 + 3))))) 226 23 dp) (by decide +kernel) (e0k hE (k := 226) (c := 11) (by decide +kernel)) (by decide +kernel) (by decide +kernel) (by decide +kernel) rfl) ?_
  refine gm_sz (gm_p_load (pc := 64) (i := .aload_n 0) (sr := 2) (j := 0) (by decide +kernel) rfl rfl rfl) ?_
  refine gm_sz (gm_p_const (pc := 65) (i := .iconst 2) (v := gm_vi 2) (by decide +kernel) (by decide +kernel)) ?_
  refine gm_c_virt (k := 226) (ci := 11) (mj := 294) (ix := 341) (pc := 66) (as := [gm_vi 2]) (st := []) (d' := d - 1) (bc' := 0) (bs' := 0) (by decide +kernel) (by decide +kernel) (by decide +kernel) (by decide +kernel) (e0k hE (k := 226) (c := 11) (by decide +kernel)).1 (e0k hE (k := 226) (c := 11) (by decide +kernel)).2 (by decide) (by decide +kernel) (show 1 = gm_na 294 by decide +kernel) (fw_c1 fw_si) (show 2 ≤ gm_ml 294 by decide +kernel) (Nat.le_of_ble_eq_true rfl) (by omega) (Nat.zero_le _) (Nat.zero_le _) ?_
  refine re_c294n (kd := 2) hE ((uM_ne (by omega)).trans ((uM_ne (by omega)).trans ((uM_ne (by omega)).trans ((uM_ne (by omega)).trans ((uM_ne (by omega)).trans ((uM_ne (by omega)).trans ((uM_ne (by omega)).trans ((hG _ (by omega)).trans h8)))))))) ?_
  show gm_Wp X LX d _ _ 323 69 _ [gm_vi 0] n K _ _ Q
  refine fw_iftd (cc := .le) (pc := 69) (off := 7) (by decide +kernel) (by decide) ⟨by decide, by decide⟩ (by decide) ?_
  refine gm_sz (gm_p_const (pc := 76) (i := .iconst 0) (v := gm_vi 0) (by decide +kernel) (by decide +kernel)) ?_
  exact gm_r_int (pc := 77) (by decide +kernel) (Or.inr ⟨(by decide +kernel), Or.inl rfl⟩) (q0 (fun hh => hh) _ (fr_p (fr_p (fr_p (fr_p (fr_p (fr_p (fr_p fr_0 (Or.inr (by decide))) (Or.inr (by decide))) (Or.inr (by decide))) (Or.inr (by decide))) (Or.inr (by decide))) (Or.inr (by decide))) (Or.inr (by decide))))
theorem ro_l (hd : 6 ≤ d) (hE : E0 n K R) (hT : TR N h M) (hN : NR N) (hst : RSt FI) (hmo : MOR X LX n K R N h FI ψ) (hI : FI M) (h1 : 0 ≤ l ∧ l < N 4) (hr : 0 ≤ (N (119 + (l * 7 + 0)))) (h29 : 0 ≤ M 226 29 ∧ M 226 29 < 300) (hdp : M 237 (M 226 29) = dp) (hne : ¬ (N (95 + (((N (119 + (l * 7 + 1)))) * 3 + 2))) = (N (119 + (l * 7 + 2)))) (hq : ∀ M2, fr [(226, some 17), (226, some 18), (226, some 19), (226, some 20), (226, some 21), (226, some 22), (226, some 23), (233, none)] M M2 → Q (.inl (some (gm_vi (opf N ψ l dp)))) n K R M2) : ∀ (u i : Nat) (M1 : gm_M), (i : Int) + (u : Int) = N 3 → fr [(226, some 17), (226, some 18), (226, some 19), (226, some 20), (226, some 21), (226, some 22), (226, some 23), (233, none)] M M1 → fo (wop N ψ l dp) (N 3).toNat 0 = fo (wop N ψ l dp) u (i : Int) → gm_Wp X LX d bc bs 322 31 [some (gm_vr 226), some (gm_vi l), some (gm_vi (N (119 + (l * 7 + 2)))), some (gm_vi (i : Int))] [] n K R M1 Q := by
  obtain ⟨⟨⟨a0, b0⟩, ⟨a1, b1⟩, ⟨a10, b10⟩, ⟨a11, b11⟩, ⟨a12, b12⟩, a9, b9⟩, ⟨⟨a2, b2⟩, ⟨a5, b5⟩, ⟨a3, b3⟩, ⟨a4, b4⟩, ⟨a6, b6⟩, ⟨a14, b14⟩, ⟨a7, b7⟩, a13, b13⟩, rF, rP, rL⟩ := id hN
  obtain ⟨r0, r1, r2, r3, -, -, -, r7⟩ := rL l h1.1 h1.2
  have r8 := r7 hr
  have to9 : 0 ≤ N (119 + (l * 7 + 1)) ∧ N (119 + (l * 7 + 1)) < N 3 := ⟨r8, r1.2⟩
  have ln9 : 0 ≤ N (119 + (l * 7 + 2)) ∧ N (119 + (l * 7 + 2)) < N 0 := r2
  have e9 : opf N ψ l dp = fo (wop N ψ l dp) (N 3).toNat 0 := tif_f hne
  rw [e9] at hq
  intro u
  induction u with
  | zero =>
    intro i M1 hi hf he
    have he : fo (wop N ψ l dp) (N 3).toNat 0 = -1 := he
    rw [he] at hq
    refine gm_sz (gm_p_load (pc := 31) (i := .iload_n 3) (sr := 0) (j := 3) (by decide +kernel) rfl rfl rfl) ?_
    refine gm_sz (gm_p_load (pc := 32) (i := .aload_n 0) (sr := 2) (j := 0) (by decide +kernel) rfl rfl rfl) ?_
    refine gm_c_virt (k := 226) (ci := 11) (mj := 253) (ix := 97) (pc := 33) (as := []) (st := [gm_vi (i : Int)]) (d' := d - 1) (bc' := 0) (bs' := 0) (by decide +kernel) (by decide +kernel) (by decide +kernel) (by decide +kernel) (e0k hE (k := 226) (c := 11) (by decide +kernel)).1 (e0k hE (k := 226) (c := 11) (by decide +kernel)).2 (by decide) (by decide +kernel) (show 0 = gm_na 253 by decide +kernel) fw_c0 (show 1 ≤ gm_ml 253 by decide +kernel) (Nat.le_of_ble_eq_true rfl) (by omega) (Nat.zero_le _) (Nat.zero_le _) ?_
    refine re_peo hE (tr_fr (W := [(226, some 17), (226, some 18), (226, some 19), (226, some 20), (226, some 21), (226, some 22), (226, some 23), (233, none)]) hT (fr_t fr_0 hf (by decide)) (by decide)) hN ?_
    show gm_Wp X LX d _ _ 322 36 _ [gm_vi (N 3), gm_vi (i : Int)] n K _ _ Q
    refine fw_ict (cc := .ge) (pc := 36) (off := 30) (by decide +kernel) (by decide) ⟨by omega, by omega⟩ ⟨by omega, by omega⟩ (show (N 3) ≤ (i : Int) by omega) ?_
    refine gm_sz (gm_p_const (pc := 66) (i := .iconst (-1)) (v := gm_vi (-1)) (by decide +kernel) (by decide +kernel)) ?_
    exact gm_r_int (pc := 67) (by decide +kernel) (Or.inl (by decide +kernel)) (hq M1 hf)
  | succ u ih =>
    intro i M1 hi hf he
    obtain ⟨-, -, p2⟩ := rP (i : Int) (by omega) (by omega)
    have p9 : -1 ≤ N (95 + ((i : Int) * 3 + 2)) ∧ N (95 + ((i : Int) * 3 + 2)) < N 0 := p2
    have he : fo (wop N ψ l dp) (N 3).toNat 0 = tif ((wop N ψ l dp) (i : Int)) (i : Int) (fo (wop N ψ l dp) u ((i : Int) + 1)) := he
    refine gm_sz (gm_p_load (pc := 31) (i := .iload_n 3) (sr := 0) (j := 3) (by decide +kernel) rfl rfl rfl) ?_
    refine gm_sz (gm_p_load (pc := 32) (i := .aload_n 0) (sr := 2) (j := 0) (by decide +kernel) rfl rfl rfl) ?_
    refine gm_c_virt (k := 226) (ci := 11) (mj := 253) (ix := 97) (pc := 33) (as := []) (st := [gm_vi (i : Int)]) (d' := d - 1) (bc' := 0) (bs' := 0) (by decide +kernel) (by decide +kernel) (by decide +kernel) (by decide +kernel) (e0k hE (k := 226) (c := 11) (by decide +kernel)).1 (e0k hE (k := 226) (c := 11) (by decide +kernel)).2 (by decide) (by decide +kernel) (show 0 = gm_na 253 by decide +kernel) fw_c0 (show 1 ≤ gm_ml 253 by decide +kernel) (Nat.le_of_ble_eq_true rfl) (by omega) (Nat.zero_le _) (Nat.zero_le _) ?_
    refine re_peo hE (tr_fr (W := [(226, some 17), (226, some 18), (226, some 19), (226, some 20), (226, some 21), (226, some 22), (226, some 23), (233, none)]) hT (fr_t fr_0 hf (by decide)) (by decide)) hN ?_
    show gm_Wp X LX d _ _ 322 36 _ [gm_vi (N 3), gm_vi (i : Int)] n K _ _ Q
    refine fw_icf (cc := .ge) (pc := 36) (off := 30) (by decide +kernel) (by decide) ⟨by omega, by omega⟩ ⟨by omega, by omega⟩ (show ¬ (N 3) ≤ (i : Int) by omega) ?_
    refine gm_sz (gm_p_load (pc := 39) (i := .aload_n 0) (sr := 2) (j := 0) (by decide +kernel) rfl rfl rfl) ?_
    refine gm_sz (gm_p_load (pc := 40) (i := .iload_n 3) (sr := 0) (j := 3) (by decide +kernel) rfl rfl rfl) ?_
    refine gm_sz (gm_p_const (pc := 41) (i := .iconst 2) (v := gm_vi 2) (by decide +kernel) (by decide +kernel)) ?_
    refine gm_c_virt (k := 226) (ci := 11) (mj := 299) (ix := 396) (pc := 42) (as := [gm_vi (i : Int), gm_vi 2]) (st := []) (d' := d - 1) (bc' := 0) (bs' := 0) (by decide +kernel) (by decide +kernel) (by decide +kernel) (by decide +kernel) (e0k hE (k := 226) (c := 11) (by decide +kernel)).1 (e0k hE (k := 226) (c := 11) (by decide +kernel)).2 (by decide) (by decide +kernel) (show 2 = gm_na 299 by decide +kernel) (fw_c2 fw_si fw_si) (show 3 ≤ gm_ml 299 by decide +kernel) (Nat.le_of_ble_eq_true rfl) (by omega) (Nat.zero_le _) (Nat.zero_le _) ?_
    refine re_of hE (tr_fr (W := [(226, some 17), (226, some 18), (226, some 19), (226, some 20), (226, some 21), (226, some 22), (226, some 23), (233, none)]) hT (fr_t fr_0 hf (by decide)) (by decide)) hN ⟨by omega, by omega⟩ ⟨by omega, by omega⟩ ?_
    show gm_Wp X LX d _ _ 322 45 _ [gm_vi (N (95 + ((i : Int) * 3 + 2)))] n K _ _ Q
    refine gm_sz (gm_p_load (pc := 45) (i := .iload_n 2) (sr := 0) (j := 2) (by decide +kernel) rfl rfl rfl) ?_
    refine fw_ic (cc := .ne) (pc := 46) (off := 14) (by decide +kernel) (by decide) ⟨by omega, by omega⟩ ⟨by omega, by omega⟩ (fun h46 => ?_) (fun h46 => ?_)
    · have h46 : ¬ (N (95 + ((i : Int) * 3 + 2))) = (N (119 + (l * 7 + 2))) := h46
      refine gm_sz (gm_p_iinc (pc := 60) (j := 3) (z := 1) (by decide +kernel) rfl) ?_
      refine gm_sz (gm_p_goto (pc := 63) (off := (-32)) (by decide +kernel) (by decide)) ?_
      rw [tif_f (show ¬ (wop N ψ l dp) (i : Int) from (fun hh => h46 hh.1))] at he
      exact ih (i + 1) _ (by omega) (fr_t fr_0 hf (by decide)) he
    · have h46 : (N (95 + ((i : Int) * 3 + 2))) = (N (119 + (l * 7 + 2))) := Classical.not_not.mp h46
      refine gm_sz (gm_p_load (pc := 49) (i := .aload_n 0) (sr := 2) (j := 0) (by decide +kernel) rfl rfl rfl) ?_
      refine gm_sz (gm_p_load (pc := 50) (i := .iload_n 3) (sr := 0) (j := 3) (by decide +kernel) rfl rfl rfl) ?_
      refine gm_sz (gm_p_load (pc := 51) (i := .iload_n 1) (sr := 0) (j := 1) (by decide +kernel) rfl rfl rfl) ?_
      refine gm_c_virt (k := 226) (ci := 11) (mj := 323) (ix := 417) (pc := 52) (as := [gm_vi (i : Int), gm_vi l]) (st := []) (d' := d - 1) (bc' := 0) (bs' := 0) (by decide +kernel) (by decide +kernel) (by decide +kernel) (by decide +kernel) (e0k hE (k := 226) (c := 11) (by decide +kernel)).1 (e0k hE (k := 226) (c := 11) (by decide +kernel)).2 (by decide) (by decide +kernel) (show 2 = gm_na 323 by decide +kernel) (fw_c2 fw_si fw_si) (show 3 ≤ gm_ml 323 by decide +kernel) (Nat.le_of_ble_eq_true rfl) (by omega) (Nat.zero_le _) (Nat.zero_le _) ?_
      refine hmo _ _ _ _ _ (i : Int) l dp (by omega) ⟨by omega, by omega⟩ (tr_fr (W := [(226, some 17), (226, some 18), (226, some 19), (226, some 20), (226, some 21), (226, some 22), (226, some 23), (233, none)]) hT (fr_t fr_0 hf (by decide)) (by decide)) (hst [(226, some 17), (226, some 18), (226, some 19), (226, some 20), (226, some 21), (226, some 22), (226, some 23), (233, none)] _ _ (by decide) (fr_t fr_0 hf (by decide)) hI) (by rw [show M1 226 29 = M 226 29 from (fr_j hf (by decide))]; exact h29) (by rw [show M1 226 29 = M 226 29 from (fr_j hf (by decide)), show M1 237 (M 226 29) = M 237 (M 226 29) from ((fr_c hf (by decide)).trans rfl)]; exact hdp) (fun v52 M52 hf52 => ?_) (fun v52 M52 hf52 => ?_)
      · show gm_Wp X LX d _ _ 322 55 _ [gm_vi 1] n K _ _ Q
        refine fw_iffd (cc := .eq) (pc := 55) (off := 5) (by decide +kernel) (by decide) ⟨by decide, by decide⟩ (by decide) ?_
        refine gm_sz (gm_p_load (pc := 58) (i := .iload_n 3) (sr := 0) (j := 3) (by decide +kernel) rfl rfl rfl) ?_
        rw [tif_t (show (wop N ψ l dp) (i : Int) from ⟨h46, v52⟩)] at he
        rw [he] at hq
        exact gm_r_int (pc := 59) (by decide +kernel) (Or.inl (by decide +kernel)) (hq _ (fr_t (fr_t fr_0 hf (by decide)) hf52 (by decide)))
      · show gm_Wp X LX d _ _ 322 55 _ [gm_vi 0] n K _ _ Q
        refine fw_iftd (cc := .eq) (pc := 55) (off := 5) (by decide +kernel) (by decide) ⟨by decide, by decide⟩ (by decide) ?_
        refine gm_sz (gm_p_iinc (pc := 60) (j := 3) (z := 1) (by decide +kernel) rfl) ?_
        refine gm_sz (gm_p_goto (pc := 63) (off := (-32)) (by decide +kernel) (by decide)) ?_
        rw [tif_f (show ¬ (wop N ψ l dp) (i : Int) from (fun hh => v52 hh.2))] at he
        exact ih (i + 1) _ (by omega) (fr_t (fr_t fr_0 hf (by decide)) hf52 (by decide)) he
theorem ro_c322 (hd : 6 ≤ d) (hE : E0 n K R) (hT : TR N h M) (hN : NR N) (hst : RSt FI) (hmo : MOR X LX n K R N h FI ψ) (hI : FI M) (h1 : 0 ≤ l ∧ l < N 4) (hr : 0 ≤ (N (119 + (l * 7 + 0)))) (h29 : 0 ≤ M 226 29 ∧ M 226 29 < 300) (hdp : M 237 (M 226 29) = dp) (hq : ∀ M2, fr [(226, some 17), (226, some 18), (226, some 19), (226, some 20), (226, some 21), (226, some 22), (226, some 23), (233, none)] M M2 → Q (.inl (some (gm_vi (opf N ψ l dp)))) n K R M2) : gm_Wp X LX d bc bs 322 0 (gm_ent 322 [gm_vr 226, gm_vi l]) [] n K R M Q := by
  obtain ⟨⟨⟨a0, b0⟩, ⟨a1, b1⟩, ⟨a10, b10⟩, ⟨a11, b11⟩, ⟨a12, b12⟩, a9, b9⟩, ⟨⟨a2, b2⟩, ⟨a5, b5⟩, ⟨a3, b3⟩, ⟨a4, b4⟩, ⟨a6, b6⟩, ⟨a14, b14⟩, ⟨a7, b7⟩, a13, b13⟩, rF, rP, rL⟩ := id hN
  obtain ⟨r0, r1, r2, r3, -, -, -, r7⟩ := rL l h1.1 h1.2
  have r8 := r7 hr
  have to9 : 0 ≤ N (119 + (l * 7 + 1)) ∧ N (119 + (l * 7 + 1)) < N 3 := ⟨r8, r1.2⟩
  have ln9 : 0 ≤ N (119 + (l * 7 + 2)) ∧ N (119 + (l * 7 + 2)) < N 0 := r2
  obtain ⟨-, -, p2⟩ := rP _ to9.1 to9.2
  have p9 : -1 ≤ N (95 + (N (119 + (l * 7 + 1)) * 3 + 2)) ∧ N (95 + (N (119 + (l * 7 + 1)) * 3 + 2)) < N 0 := p2
  refine gm_sz (gm_p_load (pc := 0) (i := .aload_n 0) (sr := 2) (j := 0) (by decide +kernel) rfl rfl rfl) ?_
  refine gm_sz (gm_p_load (pc := 1) (i := .iload_n 1) (sr := 0) (j := 1) (by decide +kernel) rfl rfl rfl) ?_
  refine gm_sz (gm_p_const (pc := 2) (i := .iconst 2) (v := gm_vi 2) (by decide +kernel) (by decide +kernel)) ?_
  refine gm_c_virt (k := 226) (ci := 11) (mj := 301) (ix := 82) (pc := 3) (as := [gm_vi l, gm_vi 2]) (st := []) (d' := d - 1) (bc' := 0) (bs' := 0) (by decide +kernel) (by decide +kernel) (by decide +kernel) (by decide +kernel) (e0k hE (k := 226) (c := 11) (by decide +kernel)).1 (e0k hE (k := 226) (c := 11) (by decide +kernel)).2 (by decide) (by decide +kernel) (show 2 = gm_na 301 by decide +kernel) (fw_c2 fw_si fw_si) (show 3 ≤ gm_ml 301 by decide +kernel) (Nat.le_of_ble_eq_true rfl) (by omega) (Nat.zero_le _) (Nat.zero_le _) ?_
  refine re_ol hE hT hN ⟨by omega, by omega⟩ ⟨by omega, by omega⟩ ?_
  show gm_Wp X LX d _ _ 322 6 _ [gm_vi (N (119 + (l * 7 + 2)))] n K _ _ Q
  refine gm_sz (gm_p_stor (pc := 6) (i := .istore_n 2) (sr := 0) (j := 2) (by decide +kernel) rfl (show 3 ≤ _ from Nat.le_of_ble_eq_true rfl) rfl) ?_
  refine gm_sz (gm_p_load (pc := 7) (i := .aload_n 0) (sr := 2) (j := 0) (by decide +kernel) rfl rfl rfl) ?_
  refine gm_sz (gm_p_load (pc := 8) (i := .aload_n 0) (sr := 2) (j := 0) (by decide +kernel) rfl rfl rfl) ?_
  refine gm_sz (gm_p_load (pc := 9) (i := .iload_n 1) (sr := 0) (j := 1) (by decide +kernel) rfl rfl rfl) ?_
  refine gm_sz (gm_p_const (pc := 10) (i := .iconst 1) (v := gm_vi 1) (by decide +kernel) (by decide +kernel)) ?_
  refine gm_c_virt (k := 226) (ci := 11) (mj := 301) (ix := 82) (pc := 11) (as := [gm_vi l, gm_vi 1]) (st := [gm_vr 226]) (d' := d - 1) (bc' := 0) (bs' := 0) (by decide +kernel) (by decide +kernel) (by decide +kernel) (by decide +kernel) (e0k hE (k := 226) (c := 11) (by decide +kernel)).1 (e0k hE (k := 226) (c := 11) (by decide +kernel)).2 (by decide) (by decide +kernel) (show 2 = gm_na 301 by decide +kernel) (fw_c2 fw_si fw_si) (show 3 ≤ gm_ml 301 by decide +kernel) (Nat.le_of_ble_eq_true rfl) (by omega) (Nat.zero_le _) (Nat.zero_le _) ?_
  refine re_ol hE hT hN ⟨by omega, by omega⟩ ⟨by omega, by omega⟩ ?_
  show gm_Wp X LX d _ _ 322 14 _ [gm_vi (N (119 + (l * 7 + 1))), gm_vr 226] n K _ _ Q
  refine gm_sz (gm_p_const (pc := 14) (i := .iconst 2) (v := gm_vi 2) (by decide +kernel) (by decide +kernel)) ?_
  refine gm_c_virt (k := 226) (ci := 11) (mj := 299) (ix := 396) (pc := 15) (as := [gm_vi (N (119 + (l * 7 + 1))), gm_vi 2]) (st := []) (d' := d - 1) (bc' := 0) (bs' := 0) (by decide +kernel) (by decide +kernel) (by decide +kernel) (by decide +kernel) (e0k hE (k := 226) (c := 11) (by decide +kernel)).1 (e0k hE (k := 226) (c := 11) (by decide +kernel)).2 (by decide) (by decide +kernel) (show 2 = gm_na 299 by decide +kernel) (fw_c2 fw_si fw_si) (show 3 ≤ gm_ml 299 by decide +kernel) (Nat.le_of_ble_eq_true rfl) (by omega) (Nat.zero_le _) (Nat.zero_le _) ?_
  refine re_of hE hT hN ⟨by omega, by omega⟩ ⟨by omega, by omega⟩ ?_
  show gm_Wp X LX d _ _ 322 18 _ [gm_vi (N (95 + ((N (119 + (l * 7 + 1))) * 3 + 2)))] n K _ _ Q
  refine gm_sz (gm_p_load (pc := 18) (i := .iload_n 2) (sr := 0) (j := 2) (by decide +kernel) rfl rfl rfl) ?_
  refine fw_ic (cc := .ne) (pc := 19) (off := 10) (by decide +kernel) (by decide) ⟨by omega, by omega⟩ ⟨by omega, by omega⟩ (fun h19 => ?_) (fun h19 => ?_)
  · have h19 : ¬ (N (95 + ((N (119 + (l * 7 + 1))) * 3 + 2))) = (N (119 + (l * 7 + 2))) := h19
    refine gm_sz (gm_p_const (pc := 29) (i := .iconst 0) (v := gm_vi 0) (by decide +kernel) (by decide +kernel)) ?_
    refine gm_sz (gm_p_stor (pc := 30) (i := .istore_n 3) (sr := 0) (j := 3) (by decide +kernel) rfl (show 4 ≤ _ from Nat.le_of_ble_eq_true rfl) rfl) ?_
    exact ro_l hd hE hT hN hst hmo hI h1 hr h29 hdp h19 hq (N 3).toNat 0 M (by omega) fr_0 rfl
  · have h19 : (N (95 + ((N (119 + (l * 7 + 1))) * 3 + 2))) = (N (119 + (l * 7 + 2))) := Classical.not_not.mp h19
    refine gm_sz (gm_p_load (pc := 22) (i := .aload_n 0) (sr := 2) (j := 0) (by decide +kernel) rfl rfl rfl) ?_
    refine gm_sz (gm_p_load (pc := 23) (i := .iload_n 1) (sr := 0) (j := 1) (by decide +kernel) rfl rfl rfl) ?_
    refine gm_sz (gm_p_const (pc := 24) (i := .iconst 1) (v := gm_vi 1) (by decide +kernel) (by decide +kernel)) ?_
    refine gm_c_virt (k := 226) (ci := 11) (mj := 301) (ix := 82) (pc := 25) (as := [gm_vi l, gm_vi 1]) (st := []) (d' := d - 1) (bc' := 0) (bs' := 0) (by decide +kernel) (by decide +kernel) (by decide +kernel) (by decide +kernel) (e0k hE (k := 226) (c := 11) (by decide +kernel)).1 (e0k hE (k := 226) (c := 11) (by decide +kernel)).2 (by decide) (by decide +kernel) (show 2 = gm_na 301 by decide +kernel) (fw_c2 fw_si fw_si) (show 3 ≤ gm_ml 301 by decide +kernel) (Nat.le_of_ble_eq_true rfl) (by omega) (Nat.zero_le _) (Nat.zero_le _) ?_
    refine re_ol hE hT hN ⟨by omega, by omega⟩ ⟨by omega, by omega⟩ ?_
    show gm_Wp X LX d _ _ 322 28 _ [gm_vi (N (119 + (l * 7 + 1)))] n K _ _ Q
    have e9 : opf N ψ l dp = N (119 + (l * 7 + 1)) := tif_t h19
    rw [e9] at hq
    exact gm_r_int (pc := 28) (by decide +kernel) (Or.inl (by decide +kernel)) (hq M fr_0)
end RO3
end
