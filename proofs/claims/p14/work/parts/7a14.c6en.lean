/-! THE CLASS'S ENDS: when each LETTER is out, how deep (laid by wip/core/c6.py). -/
/-- when it is out (-1: never), how deep then -/
def OUTR (N h : Int → Int) (φ : Int → Int → Int → Int) (l o d : Int) : Prop := (o = -1 ∧ ∀ j : Nat, (N (119 + (l * 7 + 3))) + (j : Int) ≤ 299 → (nwy N h φ ((N (119 + (l * 7 + 2)))) (if (N (119 + (l * 7 + 0))) = -1 then 1 else 0) (-1) ((N (119 + (l * 7 + 3)))) ((N (119 + (l * 7 + 4)))) j).1 < N 1) ∨ ∃ j : Nat, (N (119 + (l * 7 + 3))) + (j : Int) ≤ 299 ∧ o = (N (119 + (l * 7 + 3))) + (j : Int) ∧ N 1 ≤ (nwy N h φ ((N (119 + (l * 7 + 2)))) (if (N (119 + (l * 7 + 0))) = -1 then 1 else 0) (-1) ((N (119 + (l * 7 + 3)))) ((N (119 + (l * 7 + 4)))) j).1 ∧ (∀ i, i < j → (nwy N h φ ((N (119 + (l * 7 + 2)))) (if (N (119 + (l * 7 + 0))) = -1 then 1 else 0) (-1) ((N (119 + (l * 7 + 3)))) ((N (119 + (l * 7 + 4)))) i).1 < N 1) ∧ d = (nwy N h φ ((N (119 + (l * 7 + 2)))) (if (N (119 + (l * 7 + 0))) = -1 then 1 else 0) (-1) ((N (119 + (l * 7 + 3)))) ((N (119 + (l * 7 + 4)))) j).2
theorem OUTR_u {N h : Int → Int} {φ : Int → Int → Int → Int} {l o d o2 d2 : Int} (a : OUTR N h φ l o d) (b : OUTR N h φ l o2 d2) : o = o2 ∧ (0 ≤ (N (119 + (l * 7 + 3))) → 0 ≤ o → d = d2) := by
  rcases a with ⟨a1, a2⟩ | ⟨j, a1, a2, a3, a4, a5⟩
  · rcases b with ⟨b1, b2⟩ | ⟨i, b1, b2, b3, b4, b5⟩
    · exact ⟨by omega, fun _ h => by omega⟩
    · have := a2 i b1
      omega
  · rcases b with ⟨b1, b2⟩ | ⟨i, b1, b2, b3, b4, b5⟩
    · have := b2 j a1
      omega
    · have e : i = j := by
        rcases Nat.lt_trichotomy i j with h | h | h
        · have := a4 i h
          omega
        · exact h
        · have := b4 j h
          omega
      subst e
      exact ⟨by omega, fun _ _ => a5.trans b5.symm⟩
theorem OUTR_b {N h : Int → Int} {φ : Int → Int → Int → Int} {l o d : Int} (a : OUTR N h φ l o d) (h0 : 0 ≤ (N (119 + (l * 7 + 3)))) : -1 ≤ o ∧ o ≤ 299 := by
  rcases a with ⟨a1, a2⟩ | ⟨j, a1, a2, a3, a4, a5⟩ <;> exact ⟨by omega, by omega⟩
/-- the ends are right -/
def ENDS (N h : Int → Int) (φ : Int → Int → Int → Int) (M : gm_M) : Prop := M 220 3 = N 4 ∧ ∀ l, 0 ≤ l → l < N 4 → OUTR N h φ l (M 221 (l * 2 + 0)) (M 221 (l * 2 + 1))
section EN6
variable {X : Int → Int} {LX d bc bs n : Nat} {K : gm_K} {R : gm_R} {M : gm_M} {Q : gm_Q} {l o y p : Int} {N h : Int → Int} {sp : Int → Int → Int} {FI : gm_M → Prop} {φ : Int → Int → Int → Int}
theorem en_l (hd : 17 ≤ d) (hE : E0 n K R) (hT : TI N h sp M) (hN : NR N) (hfw : FLW X LX n K R N h sp FI φ) (hq : ∀ M2, fr [(206, some 2), (206, some 3), (206, some 4), (206, some 5), (206, some 6), (206, some 7), (206, some 8), (200, some 6), (204, none), (205, none), (220, some 3), (221, none), (1, some 15)] M M2 → FI M2 → M2 1 15 = 1 → ENDS N h φ M2 → Q (.inl none) n K R M2) : ∀ (u i : Nat) (M1 : gm_M), (i : Int) + (u : Int) = N 4 → fr [(206, some 2), (206, some 3), (206, some 4), (206, some 5), (206, some 6), (206, some 7), (206, some 8), (200, some 6), (204, none), (205, none), (220, some 3), (221, none), (1, some 15)] M M1 → FI M1 → M1 220 3 = N 4 → (∀ l : Int, 0 ≤ l → l < (i : Int) → OUTR N h φ l (M1 221 (l * 2 + 0)) (M1 221 (l * 2 + 1))) → gm_Wp X LX d bc bs 24 27 [some (gm_vr 1), some (gm_vi (i : Int))] [] n K R M1 Q := by
  obtain ⟨⟨⟨a0, b0⟩, ⟨a1, b1⟩, ⟨a10, b10⟩, ⟨a11, b11⟩, ⟨a12, b12⟩, a9, b9⟩, ⟨⟨a2, b2⟩, ⟨a5, b5⟩, ⟨a3, b3⟩, ⟨a4, b4⟩, ⟨a6, b6⟩, ⟨a14, b14⟩, ⟨a7, b7⟩, a13, b13⟩, rF, rP, rL⟩ := id hN
  intro u
  induction u with
  | zero =>
    intro i M1 hi hf hI1 h3 ho
    refine gm_sz (gm_p_load (pc := 27) (i := .iload_n 1) (sr := 0) (j := 1) (by decide +kernel) rfl rfl rfl) ?_
    refine gm_sz (gm_p_load (pc := 28) (i := .aload_n 0) (sr := 2) (j := 0) (by decide +kernel) rfl rfl rfl) ?_
    refine gm_sz (fw_gr (pc := 29) (ix := 97) (ci := 0) (j := 14) (r := 220) (by decide +kernel) (e0k hE (k := 1) (c := 0) (by decide +kernel)) (by decide +kernel) (by decide +kernel) (e0r hE (k := 1) (j := 14) (r := 220) (by decide +kernel))) ?_
    refine gm_c_virt (k := 220) (ci := 2) (mj := 9) (ix := 277) (pc := 32) (as := []) (st := [gm_vi (i : Int)]) (d' := d - 1) (bc' := 0) (bs' := 0) (by decide +kernel) (by decide +kernel) (by decide +kernel) (by decide +kernel) (e0k hE (k := 220) (c := 2) (by decide +kernel)).1 (e0k hE (k := 220) (c := 2) (by decide +kernel)).2 (by decide) (by decide +kernel) (show 0 = gm_na 9 by decide +kernel) fw_c0 (show 1 ≤ gm_ml 9 by decide +kernel) (Nat.le_of_ble_eq_true rfl) (by omega) (Nat.zero_le _) (Nat.zero_le _) ?_
    refine rw_size (s := N 4) (e0k hE (k := 220) (c := 2) (by decide +kernel)) h3 ?_
    show gm_Wp X LX d _ _ 24 35 _ [gm_vi (N 4), gm_vi (i : Int)] n K _ _ Q
    refine fw_ict (cc := .ge) (pc := 35) (off := 52) (by decide +kernel) (by decide) ⟨by omega, by omega⟩ ⟨by omega, by omega⟩ (show (N 4) ≤ (i : Int) by omega) ?_
    refine gm_sz (gm_p_load (pc := 87) (i := .aload_n 0) (sr := 2) (j := 0) (by decide +kernel) rfl rfl rfl) ?_
    refine gm_sz (gm_p_const (pc := 88) (i := .iconst 1) (v := gm_vi 1) (by decide +kernel) (by decide +kernel)) ?_
    refine gm_sz (fw_pz (pc := 89) (ix := 101) (ci := 0) (j := 15) (M' := gm_uM M1 1 15 1) (by decide +kernel) (e0k hE (k := 1) (c := 0) (by decide +kernel)) (by decide +kernel) (by decide +kernel) (by decide +kernel) (Or.inr rfl) rfl) ?_
    refine gm_r_void (pc := 92) (by decide +kernel) (by decide +kernel) (hq (gm_uM M1 1 15 1) (fr_p (fr_t fr_0 hf (by decide)) (Or.inr (by decide))) (hfw.2.1 [(1, some 15)] _ _ (by decide) (fr_p fr_0 (Or.inr (by decide))) hI1) uM_at ⟨((uM_ne (by omega)).trans h3), fun l l0 l1 => ?_⟩)
    rw [show (gm_uM M1 1 15 1) 221 (l * 2 + 0) = M1 221 (l * 2 + 0) from uM_ne (by omega), show (gm_uM M1 1 15 1) 221 (l * 2 + 1) = M1 221 (l * 2 + 1) from uM_ne (by omega)]
    exact ho l l0 (by omega)
  | succ u ih =>
    intro i M1 hi hf hI1 h3 ho
    obtain ⟨-, -, l2, l3, l4, -⟩ := rL (i : Int) (by omega) (by omega)
    have l5 : 0 ≤ (N (119 + ((i : Int) * 7 + 4))) ∧ (N (119 + ((i : Int) * 7 + 4))) ≤ 300 := ⟨l4.1, by have := l4.2; omega⟩
    have l4 := l5
    have rk9 : 0 ≤ (if (N (119 + ((i : Int) * 7 + 0))) = -1 then (1 : Int) else 0) ∧ (if (N (119 + ((i : Int) * 7 + 0))) = -1 then (1 : Int) else 0) ≤ 1 := by split <;> exact ⟨by decide, by decide⟩
    refine gm_sz (gm_p_load (pc := 27) (i := .iload_n 1) (sr := 0) (j := 1) (by decide +kernel) rfl rfl rfl) ?_
    refine gm_sz (gm_p_load (pc := 28) (i := .aload_n 0) (sr := 2) (j := 0) (by decide +kernel) rfl rfl rfl) ?_
    refine gm_sz (fw_gr (pc := 29) (ix := 97) (ci := 0) (j := 14) (r := 220) (by decide +kernel) (e0k hE (k := 1) (c := 0) (by decide +kernel)) (by decide +kernel) (by decide +kernel) (e0r hE (k := 1) (j := 14) (r := 220) (by decide +kernel))) ?_
    refine gm_c_virt (k := 220) (ci := 2) (mj := 9) (ix := 277) (pc := 32) (as := []) (st := [gm_vi (i : Int)]) (d' := d - 1) (bc' := 0) (bs' := 0) (by decide +kernel) (by decide +kernel) (by decide +kernel) (by decide +kernel) (e0k hE (k := 220) (c := 2) (by decide +kernel)).1 (e0k hE (k := 220) (c := 2) (by decide +kernel)).2 (by decide) (by decide +kernel) (show 0 = gm_na 9 by decide +kernel) fw_c0 (show 1 ≤ gm_ml 9 by decide +kernel) (Nat.le_of_ble_eq_true rfl) (by omega) (Nat.zero_le _) (Nat.zero_le _) ?_
    refine rw_size (s := N 4) (e0k hE (k := 220) (c := 2) (by decide +kernel)) h3 ?_
    show gm_Wp X LX d _ _ 24 35 _ [gm_vi (N 4), gm_vi (i : Int)] n K _ _ Q
    refine fw_icf (cc := .ge) (pc := 35) (off := 52) (by decide +kernel) (by decide) ⟨by omega, by omega⟩ ⟨by omega, by omega⟩ (show ¬ (N 4) ≤ (i : Int) by omega) ?_
    refine gm_sz (gm_p_load (pc := 38) (i := .aload_n 0) (sr := 2) (j := 0) (by decide +kernel) rfl rfl rfl) ?_
    refine gm_sz (fw_gr (pc := 39) (ix := 58) (ci := 0) (j := 9) (r := 206) (by decide +kernel) (e0k hE (k := 1) (c := 0) (by decide +kernel)) (by decide +kernel) (by decide +kernel) (e0r hE (k := 1) (j := 9) (r := 206) (by decide +kernel))) ?_
    refine gm_sz (gm_p_load (pc := 42) (i := .iload_n 1) (sr := 0) (j := 1) (by decide +kernel) rfl rfl rfl) ?_
    refine gm_c_virt (k := 206) (ci := 5) (mj := 27) (ix := 217) (pc := 43) (as := [gm_vi (i : Int)]) (st := []) (d' := d - 1) (bc' := 0) (bs' := 0) (by decide +kernel) (by decide +kernel) (by decide +kernel) (by decide +kernel) (e0k hE (k := 206) (c := 5) (by decide +kernel)).1 (e0k hE (k := 206) (c := 5) (by decide +kernel)).2 (by decide) (by decide +kernel) (show 1 = gm_na 27 by decide +kernel) (fw_c1 fw_si) (show 2 ≤ gm_ml 27 by decide +kernel) (Nat.le_of_ble_eq_true rfl) (by omega) (Nat.zero_le _) (Nat.zero_le _) ?_
    refine wy_let206 (by omega) hE (ti_fr (W := [(206, some 2), (206, some 3), (206, some 4), (206, some 5), (206, some 6), (206, some 7), (206, some 8), (200, some 6), (204, none), (205, none), (220, some 3), (221, none), (1, some 15)]) hT (fr_t fr_0 hf (by decide)) (by decide) (by decide +kernel)) hN ⟨by omega, by omega⟩ ?_
    show gm_Wp X LX d _ _ 24 46 _ [] n K _ _ Q
    refine gm_sz (gm_p_load (pc := 46) (i := .aload_n 0) (sr := 2) (j := 0) (by decide +kernel) rfl rfl rfl) ?_
    refine gm_sz (fw_gr (pc := 47) (ix := 97) (ci := 0) (j := 14) (r := 220) (by decide +kernel) (e0k hE (k := 1) (c := 0) (by decide +kernel)) (by decide +kernel) (by decide +kernel) (e0r hE (k := 1) (j := 14) (r := 220) (by decide +kernel))) ?_
    refine gm_sz (gm_p_load (pc := 50) (i := .iload_n 1) (sr := 0) (j := 1) (by decide +kernel) rfl rfl rfl) ?_
    refine gm_sz (gm_p_const (pc := 51) (i := .iconst 0) (v := gm_vi 0) (by decide +kernel) (by decide +kernel)) ?_
    refine gm_sz (gm_p_load (pc := 52) (i := .aload_n 0) (sr := 2) (j := 0) (by decide +kernel) rfl rfl rfl) ?_
    refine gm_sz (fw_gr (pc := 53) (ix := 58) (ci := 0) (j := 9) (r := 206) (by decide +kernel) (e0k hE (k := 1) (c := 0) (by decide +kernel)) (by decide +kernel) (by decide +kernel) (e0r hE (k := 1) (j := 9) (r := 206) (by decide +kernel))) ?_
    refine gm_sz (gm_p_const (pc := 56) (i := .sipush 299) (v := gm_vi 299) (by decide +kernel) (by decide +kernel)) ?_
    refine gm_c_virt (k := 206) (ci := 5) (mj := 30) (ix := 295) (pc := 59) (as := [gm_vi 299]) (st := [gm_vi 0, gm_vi (i : Int), gm_vr 220]) (d' := d - 1) (bc' := 0) (bs' := 0) (by decide +kernel) (by decide +kernel) (by decide +kernel) (by decide +kernel) (e0k hE (k := 206) (c := 5) (by decide +kernel)).1 (e0k hE (k := 206) (c := 5) (by decide +kernel)).2 (by decide) (by decide +kernel) (show 1 = gm_na 30 by decide +kernel) (fw_c1 fw_si) (show 2 ≤ gm_ml 30 by decide +kernel) (Nat.le_of_ble_eq_true rfl) (by omega) (Nat.zero_le _) (Nat.zero_le _) ?_
    refine wy_c30_206 (lane := (N (119 + ((i : Int) * 7 + 2)))) (rock := (if (N (119 + ((i : Int) * 7 + 0))) = -1 then 1 else 0)) (wo := -1) (r0 := (N (119 + ((i : Int) * 7 + 4)))) (y0 := (N (119 + ((i : Int) * 7 + 3)))) (lim := 299) (by omega) hE (ti_fr (W := [(206, some 2), (206, some 3), (206, some 4), (206, some 5), (206, some 6), (206, some 7), (206, some 8), (200, some 6), (204, none), (205, none), (220, some 3), (221, none), (1, some 15)]) hT (fr_p (fr_p (fr_p (fr_p (fr_p (fr_p (fr_p (fr_t fr_0 hf (by decide)) (Or.inr (by decide))) (Or.inr (by decide))) (Or.inr (by decide))) (Or.inr (by decide))) (Or.inr (by decide))) (Or.inr (by decide))) (Or.inr (by decide))) (by decide) (by decide +kernel)) hN hfw (hfw.2.1 [(206, some 2), (206, some 5), (206, some 7), (206, some 3), (206, some 4), (206, some 6), (206, some 8)] _ _ (by decide) (fr_p (fr_p (fr_p (fr_p (fr_p (fr_p (fr_p fr_0 (Or.inr (by decide))) (Or.inr (by decide))) (Or.inr (by decide))) (Or.inr (by decide))) (Or.inr (by decide))) (Or.inr (by decide))) (Or.inr (by decide))) hI1) ((uM_ne (by omega)).trans ((uM_ne (by omega)).trans ((uM_ne (by omega)).trans ((uM_ne (by omega)).trans ((uM_ne (by omega)).trans ((uM_ne (by omega)).trans uM_at)))))) ((uM_ne (by omega)).trans ((uM_ne (by omega)).trans ((uM_ne (by omega)).trans uM_at))) ((uM_ne (by omega)).trans ((uM_ne (by omega)).trans uM_at)) ((uM_ne (by omega)).trans ((uM_ne (by omega)).trans ((uM_ne (by omega)).trans ((uM_ne (by omega)).trans ((uM_ne (by omega)).trans uM_at))))) ((uM_ne (by omega)).trans uM_at) ((uM_ne (by omega)).trans ((uM_ne (by omega)).trans ((uM_ne (by omega)).trans ((uM_ne (by omega)).trans uM_at)))) l3.1 l2 rk9 ⟨by decide, by decide⟩ l4 (by have := l3.2; omega) (by decide) (by decide) (fun j9 M30 hf30 hI30 g1 g2 g3 g5 g6 => ?_) (fun M30 hf30 hI30 g1 => ?_)
    · show gm_Wp X LX d _ _ 24 62 _ [gm_vi ((N (119 + ((i : Int) * 7 + 3))) + (j9 : Int)), gm_vi 0, gm_vi (i : Int), gm_vr 220] n K _ _ Q
      refine gm_c_virt (k := 220) (ci := 2) (mj := 45) (ix := 250) (pc := 62) (as := [gm_vi (i : Int), gm_vi 0, gm_vi ((N (119 + ((i : Int) * 7 + 3))) + (j9 : Int))]) (st := []) (d' := d - 1) (bc' := 0) (bs' := 0) (by decide +kernel) (by decide +kernel) (by decide +kernel) (by decide +kernel) (e0k hE (k := 220) (c := 2) (by decide +kernel)).1 (e0k hE (k := 220) (c := 2) (by decide +kernel)).2 (by decide) (by decide +kernel) (show 3 = gm_na 45 by decide +kernel) (fw_c3 fw_si fw_si fw_si) (show 4 ≤ gm_ml 45 by decide +kernel) (Nat.le_of_ble_eq_true rfl) (by omega) (Nat.zero_le _) (Nat.zero_le _) ?_
      refine rw_put (s := N 4) (w := 2) (e0k hE (k := 220) (c := 2) (by decide +kernel)) (e0a hE (k := 221) (q := (0, 48)) (by decide +kernel)) (e0r hE (k := 220) (j := 2) (r := 221) (by decide +kernel)) (by decide) ((fr_c hf30 (by decide)).trans ((uM_ne (by omega)).trans ((uM_ne (by omega)).trans ((uM_ne (by omega)).trans ((uM_ne (by omega)).trans ((uM_ne (by omega)).trans ((uM_ne (by omega)).trans ((uM_ne (by omega)).trans h3)))))))) ((fr_c hf30 (by decide)).trans ((uM_ne (by omega)).trans ((uM_ne (by omega)).trans ((uM_ne (by omega)).trans ((uM_ne (by omega)).trans ((uM_ne (by omega)).trans ((uM_ne (by omega)).trans ((uM_ne (by omega)).trans ((fr_j hf (by decide)).trans (hT.1 (220, 1, 2) (by decide))))))))))) ⟨by omega, by omega⟩ ⟨by omega, by omega⟩ ⟨by omega, by omega⟩ ⟨by omega, by omega⟩ ?_
      show gm_Wp X LX d _ _ 24 65 _ [] n K _ _ Q
      refine gm_sz (gm_p_load (pc := 65) (i := .aload_n 0) (sr := 2) (j := 0) (by decide +kernel) rfl rfl rfl) ?_
      refine gm_sz (fw_gr (pc := 66) (ix := 97) (ci := 0) (j := 14) (r := 220) (by decide +kernel) (e0k hE (k := 1) (c := 0) (by decide +kernel)) (by decide +kernel) (by decide +kernel) (e0r hE (k := 1) (j := 14) (r := 220) (by decide +kernel))) ?_
      refine gm_sz (gm_p_load (pc := 69) (i := .iload_n 1) (sr := 0) (j := 1) (by decide +kernel) rfl rfl rfl) ?_
      refine gm_sz (gm_p_const (pc := 70) (i := .iconst 1) (v := gm_vi 1) (by decide +kernel) (by decide +kernel)) ?_
      refine gm_sz (gm_p_load (pc := 71) (i := .aload_n 0) (sr := 2) (j := 0) (by decide +kernel) rfl rfl rfl) ?_
      refine gm_sz (fw_gr (pc := 72) (ix := 58) (ci := 0) (j := 9) (r := 206) (by decide +kernel) (e0k hE (k := 1) (c := 0) (by decide +kernel)) (by decide +kernel) (by decide +kernel) (e0r hE (k := 1) (j := 9) (r := 206) (by decide +kernel))) ?_
      refine gm_sz (fw_gi (pc := 75) (ix := 209) (ci := 5) (j := 6) (x := (nwy N h φ ((N (119 + ((i : Int) * 7 + 2)))) (if (N (119 + ((i : Int) * 7 + 0))) = -1 then 1 else 0) (-1) ((N (119 + ((i : Int) * 7 + 3)))) ((N (119 + ((i : Int) * 7 + 4)))) j9).2) (by decide +kernel) (e0k hE (k := 206) (c := 5) (by decide +kernel)) (by decide +kernel) (by decide +kernel) ((uM_ne (by omega)).trans g6)) ?_
      refine gm_c_virt (k := 220) (ci := 2) (mj := 45) (ix := 250) (pc := 78) (as := [gm_vi (i : Int), gm_vi 1, gm_vi ((nwy N h φ ((N (119 + ((i : Int) * 7 + 2)))) (if (N (119 + ((i : Int) * 7 + 0))) = -1 then 1 else 0) (-1) ((N (119 + ((i : Int) * 7 + 3)))) ((N (119 + ((i : Int) * 7 + 4)))) j9).2)]) (st := []) (d' := d - 1) (bc' := 0) (bs' := 0) (by decide +kernel) (by decide +kernel) (by decide +kernel) (by decide +kernel) (e0k hE (k := 220) (c := 2) (by decide +kernel)).1 (e0k hE (k := 220) (c := 2) (by decide +kernel)).2 (by decide) (by decide +kernel) (show 3 = gm_na 45 by decide +kernel) (fw_c3 fw_si fw_si fw_si) (show 4 ≤ gm_ml 45 by decide +kernel) (Nat.le_of_ble_eq_true rfl) (by omega) (Nat.zero_le _) (Nat.zero_le _) ?_
      refine rw_put (s := N 4) (w := 2) (e0k hE (k := 220) (c := 2) (by decide +kernel)) (e0a hE (k := 221) (q := (0, 48)) (by decide +kernel)) (e0r hE (k := 220) (j := 2) (r := 221) (by decide +kernel)) (by decide) ((uM_ne (by omega)).trans ((fr_c hf30 (by decide)).trans ((uM_ne (by omega)).trans ((uM_ne (by omega)).trans ((uM_ne (by omega)).trans ((uM_ne (by omega)).trans ((uM_ne (by omega)).trans ((uM_ne (by omega)).trans ((uM_ne (by omega)).trans h3))))))))) ((uM_ne (by omega)).trans ((fr_c hf30 (by decide)).trans ((uM_ne (by omega)).trans ((uM_ne (by omega)).trans ((uM_ne (by omega)).trans ((uM_ne (by omega)).trans ((uM_ne (by omega)).trans ((uM_ne (by omega)).trans ((uM_ne (by omega)).trans ((fr_j hf (by decide)).trans (hT.1 (220, 1, 2) (by decide)))))))))))) ⟨by omega, by omega⟩ ⟨by omega, by omega⟩ ⟨by omega, by omega⟩ ⟨by omega, by omega⟩ ?_
      show gm_Wp X LX d _ _ 24 81 _ [] n K _ _ Q
      refine gm_sz (gm_p_iinc (pc := 81) (j := 1) (z := 1) (by decide +kernel) rfl) ?_
      refine gm_sz (gm_p_goto (pc := 84) (off := (-57)) (by decide +kernel) (by decide)) ?_
      refine ih (i + 1) _ (by omega) (fr_p (fr_p (fr_t (fr_p (fr_p (fr_p (fr_p (fr_p (fr_p (fr_p (fr_t fr_0 hf (by decide)) (Or.inr (by decide))) (Or.inr (by decide))) (Or.inr (by decide))) (Or.inr (by decide))) (Or.inr (by decide))) (Or.inr (by decide))) (Or.inr (by decide))) hf30 (by decide)) (Or.inl (by decide))) (Or.inl (by decide))) (hfw.2.1 [(221, none)] _ _ (by decide) (fr_p (fr_p fr_0 (Or.inl (by decide))) (Or.inl (by decide))) hI30) ((uM_ne (by omega)).trans ((uM_ne (by omega)).trans ((fr_c hf30 (by decide)).trans ((uM_ne (by omega)).trans ((uM_ne (by omega)).trans ((uM_ne (by omega)).trans ((uM_ne (by omega)).trans ((uM_ne (by omega)).trans ((uM_ne (by omega)).trans ((uM_ne (by omega)).trans h3)))))))))) (fun l l0 l1 => ?_)
      by_cases e : l = (i : Int)
      · subst e
        rw [show (gm_uM (gm_uM M30 221 ((i : Int) * 2 + 0) ((N (119 + ((i : Int) * 7 + 3))) + (j9 : Int))) 221 ((i : Int) * 2 + 1) ((nwy N h φ ((N (119 + ((i : Int) * 7 + 2)))) (if (N (119 + ((i : Int) * 7 + 0))) = -1 then 1 else 0) (-1) ((N (119 + ((i : Int) * 7 + 3)))) ((N (119 + ((i : Int) * 7 + 4)))) j9).2)) 221 ((i : Int) * 2 + 0) = (N (119 + ((i : Int) * 7 + 3))) + (j9 : Int) from ((uM_ne (by omega)).trans uM_at), show (gm_uM (gm_uM M30 221 ((i : Int) * 2 + 0) ((N (119 + ((i : Int) * 7 + 3))) + (j9 : Int))) 221 ((i : Int) * 2 + 1) ((nwy N h φ ((N (119 + ((i : Int) * 7 + 2)))) (if (N (119 + ((i : Int) * 7 + 0))) = -1 then 1 else 0) (-1) ((N (119 + ((i : Int) * 7 + 3)))) ((N (119 + ((i : Int) * 7 + 4)))) j9).2)) 221 ((i : Int) * 2 + 1) = (nwy N h φ ((N (119 + ((i : Int) * 7 + 2)))) (if (N (119 + ((i : Int) * 7 + 0))) = -1 then 1 else 0) (-1) ((N (119 + ((i : Int) * 7 + 3)))) ((N (119 + ((i : Int) * 7 + 4)))) j9).2 from uM_at]
        exact Or.inr ⟨j9, g1, rfl, g2, g3, rfl⟩
      · rw [show (gm_uM (gm_uM M30 221 ((i : Int) * 2 + 0) ((N (119 + ((i : Int) * 7 + 3))) + (j9 : Int))) 221 ((i : Int) * 2 + 1) ((nwy N h φ ((N (119 + ((i : Int) * 7 + 2)))) (if (N (119 + ((i : Int) * 7 + 0))) = -1 then 1 else 0) (-1) ((N (119 + ((i : Int) * 7 + 3)))) ((N (119 + ((i : Int) * 7 + 4)))) j9).2)) 221 (l * 2 + 0) = M1 221 (l * 2 + 0) from ((uM_ne (by omega)).trans ((uM_ne (by omega)).trans ((fr_c hf30 (by decide)).trans ((uM_ne (by omega)).trans ((uM_ne (by omega)).trans ((uM_ne (by omega)).trans ((uM_ne (by omega)).trans ((uM_ne (by omega)).trans ((uM_ne (by omega)).trans ((uM_ne (by omega)).trans rfl)))))))))), show (gm_uM (gm_uM M30 221 ((i : Int) * 2 + 0) ((N (119 + ((i : Int) * 7 + 3))) + (j9 : Int))) 221 ((i : Int) * 2 + 1) ((nwy N h φ ((N (119 + ((i : Int) * 7 + 2)))) (if (N (119 + ((i : Int) * 7 + 0))) = -1 then 1 else 0) (-1) ((N (119 + ((i : Int) * 7 + 3)))) ((N (119 + ((i : Int) * 7 + 4)))) j9).2)) 221 (l * 2 + 1) = M1 221 (l * 2 + 1) from ((uM_ne (by omega)).trans ((uM_ne (by omega)).trans ((fr_c hf30 (by decide)).trans ((uM_ne (by omega)).trans ((uM_ne (by omega)).trans ((uM_ne (by omega)).trans ((uM_ne (by omega)).trans ((uM_ne (by omega)).trans ((uM_ne (by omega)).trans ((uM_ne (by omega)).trans rfl))))))))))]
        exact ho l l0 (by omega)
    · show gm_Wp X LX d _ _ 24 62 _ [gm_vi (-1), gm_vi 0, gm_vi (i : Int), gm_vr 220] n K _ _ Q
      refine gm_c_virt (k := 220) (ci := 2) (mj := 45) (ix := 250) (pc := 62) (as := [gm_vi (i : Int), gm_vi 0, gm_vi (-1)]) (st := []) (d' := d - 1) (bc' := 0) (bs' := 0) (by decide +kernel) (by decide +kernel) (by decide +kernel) (by decide +kernel) (e0k hE (k := 220) (c := 2) (by decide +kernel)).1 (e0k hE (k := 220) (c := 2) (by decide +kernel)).2 (by decide) (by decide +kernel) (show 3 = gm_na 45 by decide +kernel) (fw_c3 fw_si fw_si fw_si) (show 4 ≤ gm_ml 45 by decide +kernel) (Nat.le_of_ble_eq_true rfl) (by omega) (Nat.zero_le _) (Nat.zero_le _) ?_
      refine rw_put (s := N 4) (w := 2) (e0k hE (k := 220) (c := 2) (by decide +kernel)) (e0a hE (k := 221) (q := (0, 48)) (by decide +kernel)) (e0r hE (k := 220) (j := 2) (r := 221) (by decide +kernel)) (by decide) ((fr_c hf30 (by decide)).trans ((uM_ne (by omega)).trans ((uM_ne (by omega)).trans ((uM_ne (by omega)).trans ((uM_ne (by omega)).trans ((uM_ne (by omega)).trans ((uM_ne (by omega)).trans ((uM_ne (by omega)).trans h3)))))))) ((fr_c hf30 (by decide)).trans ((uM_ne (by omega)).trans ((uM_ne (by omega)).trans ((uM_ne (by omega)).trans ((uM_ne (by omega)).trans ((uM_ne (by omega)).trans ((uM_ne (by omega)).trans ((uM_ne (by omega)).trans ((fr_j hf (by decide)).trans (hT.1 (220, 1, 2) (by decide))))))))))) ⟨by omega, by omega⟩ ⟨by omega, by omega⟩ ⟨by omega, by omega⟩ ⟨by omega, by omega⟩ ?_
      show gm_Wp X LX d _ _ 24 65 _ [] n K _ _ Q
      refine gm_sz (gm_p_load (pc := 65) (i := .aload_n 0) (sr := 2) (j := 0) (by decide +kernel) rfl rfl rfl) ?_
      refine gm_sz (fw_gr (pc := 66) (ix := 97) (ci := 0) (j := 14) (r := 220) (by decide +kernel) (e0k hE (k := 1) (c := 0) (by decide +kernel)) (by decide +kernel) (by decide +kernel) (e0r hE (k := 1) (j := 14) (r := 220) (by decide +kernel))) ?_
      refine gm_sz (gm_p_load (pc := 69) (i := .iload_n 1) (sr := 0) (j := 1) (by decide +kernel) rfl rfl rfl) ?_
      refine gm_sz (gm_p_const (pc := 70) (i := .iconst 1) (v := gm_vi 1) (by decide +kernel) (by decide +kernel)) ?_
      refine gm_sz (gm_p_load (pc := 71) (i := .aload_n 0) (sr := 2) (j := 0) (by decide +kernel) rfl rfl rfl) ?_
      refine gm_sz (fw_gr (pc := 72) (ix := 58) (ci := 0) (j := 9) (r := 206) (by decide +kernel) (e0k hE (k := 1) (c := 0) (by decide +kernel)) (by decide +kernel) (by decide +kernel) (e0r hE (k := 1) (j := 9) (r := 206) (by decide +kernel))) ?_
      refine gm_sz (fw_gi (pc := 75) (ix := 209) (ci := 5) (j := 6) (x := M30 206 6) (by decide +kernel) (e0k hE (k := 206) (c := 5) (by decide +kernel)) (by decide +kernel) (by decide +kernel) (uM_ne (by omega))) ?_
      refine gm_c_virt (k := 220) (ci := 2) (mj := 45) (ix := 250) (pc := 78) (as := [gm_vi (i : Int), gm_vi 1, gm_vi (M30 206 6)]) (st := []) (d' := d - 1) (bc' := 0) (bs' := 0) (by decide +kernel) (by decide +kernel) (by decide +kernel) (by decide +kernel) (e0k hE (k := 220) (c := 2) (by decide +kernel)).1 (e0k hE (k := 220) (c := 2) (by decide +kernel)).2 (by decide) (by decide +kernel) (show 3 = gm_na 45 by decide +kernel) (fw_c3 fw_si fw_si fw_si) (show 4 ≤ gm_ml 45 by decide +kernel) (Nat.le_of_ble_eq_true rfl) (by omega) (Nat.zero_le _) (Nat.zero_le _) ?_
      refine rw_put (s := N 4) (w := 2) (e0k hE (k := 220) (c := 2) (by decide +kernel)) (e0a hE (k := 221) (q := (0, 48)) (by decide +kernel)) (e0r hE (k := 220) (j := 2) (r := 221) (by decide +kernel)) (by decide) ((uM_ne (by omega)).trans ((fr_c hf30 (by decide)).trans ((uM_ne (by omega)).trans ((uM_ne (by omega)).trans ((uM_ne (by omega)).trans ((uM_ne (by omega)).trans ((uM_ne (by omega)).trans ((uM_ne (by omega)).trans ((uM_ne (by omega)).trans h3))))))))) ((uM_ne (by omega)).trans ((fr_c hf30 (by decide)).trans ((uM_ne (by omega)).trans ((uM_ne (by omega)).trans ((uM_ne (by omega)).trans ((uM_ne (by omega)).trans ((uM_ne (by omega)).trans ((uM_ne (by omega)).trans ((uM_ne (by omega)).trans ((fr_j hf (by decide)).trans (hT.1 (220, 1, 2) (by decide)))))))))))) ⟨by omega, by omega⟩ ⟨by omega, by omega⟩ ⟨by omega, by omega⟩ ⟨by omega, by omega⟩ ?_
      show gm_Wp X LX d _ _ 24 81 _ [] n K _ _ Q
      refine gm_sz (gm_p_iinc (pc := 81) (j := 1) (z := 1) (by decide +kernel) rfl) ?_
      refine gm_sz (gm_p_goto (pc := 84) (off := (-57)) (by decide +kernel) (by decide)) ?_
      refine ih (i + 1) _ (by omega) (fr_p (fr_p (fr_t (fr_p (fr_p (fr_p (fr_p (fr_p (fr_p (fr_p (fr_t fr_0 hf (by decide)) (Or.inr (by decide))) (Or.inr (by decide))) (Or.inr (by decide))) (Or.inr (by decide))) (Or.inr (by decide))) (Or.inr (by decide))) (Or.inr (by decide))) hf30 (by decide)) (Or.inl (by decide))) (Or.inl (by decide))) (hfw.2.1 [(221, none)] _ _ (by decide) (fr_p (fr_p fr_0 (Or.inl (by decide))) (Or.inl (by decide))) hI30) ((uM_ne (by omega)).trans ((uM_ne (by omega)).trans ((fr_c hf30 (by decide)).trans ((uM_ne (by omega)).trans ((uM_ne (by omega)).trans ((uM_ne (by omega)).trans ((uM_ne (by omega)).trans ((uM_ne (by omega)).trans ((uM_ne (by omega)).trans ((uM_ne (by omega)).trans h3)))))))))) (fun l l0 l1 => ?_)
      by_cases e : l = (i : Int)
      · subst e
        rw [show (gm_uM (gm_uM M30 221 ((i : Int) * 2 + 0) (-1)) 221 ((i : Int) * 2 + 1) (M30 206 6)) 221 ((i : Int) * 2 + 0) = (-1) from ((uM_ne (by omega)).trans uM_at), show (gm_uM (gm_uM M30 221 ((i : Int) * 2 + 0) (-1)) 221 ((i : Int) * 2 + 1) (M30 206 6)) 221 ((i : Int) * 2 + 1) = M30 206 6 from uM_at]
        exact Or.inl ⟨rfl, g1⟩
      · rw [show (gm_uM (gm_uM M30 221 ((i : Int) * 2 + 0) (-1)) 221 ((i : Int) * 2 + 1) (M30 206 6)) 221 (l * 2 + 0) = M1 221 (l * 2 + 0) from ((uM_ne (by omega)).trans ((uM_ne (by omega)).trans ((fr_c hf30 (by decide)).trans ((uM_ne (by omega)).trans ((uM_ne (by omega)).trans ((uM_ne (by omega)).trans ((uM_ne (by omega)).trans ((uM_ne (by omega)).trans ((uM_ne (by omega)).trans ((uM_ne (by omega)).trans rfl)))))))))), show (gm_uM (gm_uM M30 221 ((i : Int) * 2 + 0) (-1)) 221 ((i : Int) * 2 + 1) (M30 206 6)) 221 (l * 2 + 1) = M1 221 (l * 2 + 1) from ((uM_ne (by omega)).trans ((uM_ne (by omega)).trans ((fr_c hf30 (by decide)).trans ((uM_ne (by omega)).trans ((uM_ne (by omega)).trans ((uM_ne (by omega)).trans ((uM_ne (by omega)).trans ((uM_ne (by omega)).trans ((uM_ne (by omega)).trans ((uM_ne (by omega)).trans rfl))))))))))]
        exact ho l l0 (by omega)
theorem en_c24 (hd : 17 ≤ d) (hE : E0 n K R) (hT : TI N h sp M) (hN : NR N) (hfw : FLW X LX n K R N h sp FI φ) (hI : FI M) (hb : gm_ir (M 1 15)) (hk : ¬ M 1 15 = 0 → M 1 15 = 1 ∧ ENDS N h φ M) (hq : ∀ M2, fr [(206, some 2), (206, some 3), (206, some 4), (206, some 5), (206, some 6), (206, some 7), (206, some 8), (200, some 6), (204, none), (205, none), (220, some 3), (221, none), (1, some 15)] M M2 → FI M2 → M2 1 15 = 1 → ENDS N h φ M2 → Q (.inl none) n K R M2) : gm_Wp X LX d bc bs 24 0 (gm_ent 24 [gm_vr 1]) [] n K R M Q := by
  obtain ⟨⟨⟨a0, b0⟩, ⟨a1, b1⟩, ⟨a10, b10⟩, ⟨a11, b11⟩, ⟨a12, b12⟩, a9, b9⟩, ⟨⟨a2, b2⟩, ⟨a5, b5⟩, ⟨a3, b3⟩, ⟨a4, b4⟩, ⟨a6, b6⟩, ⟨a14, b14⟩, ⟨a7, b7⟩, a13, b13⟩, rF, rP, rL⟩ := id hN
  refine gm_sz (gm_p_load (pc := 0) (i := .aload_n 0) (sr := 2) (j := 0) (by decide +kernel) rfl rfl rfl) ?_
  refine gm_sz (fw_gi (pc := 1) (ix := 101) (ci := 0) (j := 15) (x := M 1 15) (by decide +kernel) (e0k hE (k := 1) (c := 0) (by decide +kernel)) (by decide +kernel) (by decide +kernel) rfl) ?_
  refine fw_if (cc := .eq) (pc := 4) (off := 4) (by decide +kernel) (by decide) hb (fun h4 => ?_) (fun h4 => ?_)
  · have h4 : (M 1 15) = 0 := h4
    refine gm_sz (gm_p_load (pc := 8) (i := .aload_n 0) (sr := 2) (j := 0) (by decide +kernel) rfl rfl rfl) ?_
    refine gm_sz (fw_gr (pc := 9) (ix := 97) (ci := 0) (j := 14) (r := 220) (by decide +kernel) (e0k hE (k := 1) (c := 0) (by decide +kernel)) (by decide +kernel) (by decide +kernel) (e0r hE (k := 1) (j := 14) (r := 220) (by decide +kernel))) ?_
    refine gm_sz (gm_p_load (pc := 12) (i := .aload_n 0) (sr := 2) (j := 0) (by decide +kernel) rfl rfl rfl) ?_
    refine gm_sz (fw_gr (pc := 13) (ix := 23) (ci := 0) (j := 3) (r := 3) (by decide +kernel) (e0k hE (k := 1) (c := 0) (by decide +kernel)) (by decide +kernel) (by decide +kernel) (e0r hE (k := 1) (j := 3) (r := 3) (by decide +kernel))) ?_
    refine gm_sz (fw_gr (pc := 16) (ix := 203) (ci := 1) (j := 12) (r := 10) (by decide +kernel) (e0k hE (k := 3) (c := 1) (by decide +kernel)) (by decide +kernel) (by decide +kernel) (e0r hE (k := 3) (j := 12) (r := 10) (by decide +kernel))) ?_
    refine gm_c_virt (k := 10) (ci := 2) (mj := 9) (ix := 277) (pc := 19) (as := []) (st := [gm_vr 220]) (d' := d - 1) (bc' := 0) (bs' := 0) (by decide +kernel) (by decide +kernel) (by decide +kernel) (by decide +kernel) (e0k hE (k := 10) (c := 2) (by decide +kernel)).1 (e0k hE (k := 10) (c := 2) (by decide +kernel)).2 (by decide) (by decide +kernel) (show 0 = gm_na 9 by decide +kernel) fw_c0 (show 1 ≤ gm_ml 9 by decide +kernel) (Nat.le_of_ble_eq_true rfl) (by omega) (Nat.zero_le _) (Nat.zero_le _) ?_
    refine rw_size (s := N 4) (e0k hE (k := 10) (c := 2) (by decide +kernel)) (ti_let hT) ?_
    show gm_Wp X LX d _ _ 24 22 _ [gm_vi (N 4), gm_vr 220] n K _ _ Q
    refine gm_c_virt (k := 220) (ci := 2) (mj := 25) (ix := 390) (pc := 22) (as := [gm_vi (N 4)]) (st := []) (d' := d - 1) (bc' := 0) (bs' := 0) (by decide +kernel) (by decide +kernel) (by decide +kernel) (by decide +kernel) (e0k hE (k := 220) (c := 2) (by decide +kernel)).1 (e0k hE (k := 220) (c := 2) (by decide +kernel)).2 (by decide) (by decide +kernel) (show 1 = gm_na 25 by decide +kernel) (fw_c1 fw_si) (show 2 ≤ gm_ml 25 by decide +kernel) (Nat.le_of_ble_eq_true rfl) (by omega) (Nat.zero_le _) (Nat.zero_le _) ?_
    refine rw_reset (m := 24) (by omega) (e0k hE (k := 220) (c := 2) (by decide +kernel)) (e0a hE (k := 221) (q := (0, 48)) (by decide +kernel)) (e0r hE (k := 220) (j := 2) (r := 221) (by decide +kernel)) (by decide) (hT.1 (220, 0, 24) (by decide)) ⟨by omega, by omega⟩ (by omega) ?_
    show gm_Wp X LX d _ _ 24 25 _ [] n K _ _ Q
    refine gm_sz (gm_p_const (pc := 25) (i := .iconst 0) (v := gm_vi 0) (by decide +kernel) (by decide +kernel)) ?_
    refine gm_sz (gm_p_stor (pc := 26) (i := .istore_n 1) (sr := 0) (j := 1) (by decide +kernel) rfl (show 2 ≤ _ from Nat.le_of_ble_eq_true rfl) rfl) ?_
    exact en_l hd hE hT hN hfw hq (N 4).toNat 0 _ (by omega) (fr_t (fr_p fr_0 (Or.inr (by decide))) gm_fil_fr (by decide)) (hfw.2.1 [(220, some 3), (221, none)] _ _ (by decide) (fr_t (fr_p fr_0 (Or.inr (by decide))) gm_fil_fr (by decide)) hI) ((fr_c gm_fil_fr (by decide)).trans uM_at) (fun l l0 l1 => by omega)
  · have h4 : ¬ (M 1 15) = 0 := h4
    exact gm_r_void (pc := 7) (by decide +kernel) (by decide +kernel) (hq M fr_0 hI (hk h4).1 (hk h4).2)
theorem wt_67 (i1 : gm_ir o) (i2 : gm_ir y) (q0 : o = (-1) → Q (.inl (some (gm_vi 0))) n K R (M)) (q1 : ¬ o = (-1) → y < o → Q (.inl (some (gm_vi 0))) n K R (M)) (q2 : ¬ o = (-1) → ¬ y < o → Q (.inl (some (gm_vi 1))) n K R (M)) : gm_Wp X LX d bc bs 67 0 (gm_ent 67 [gm_vr 1, gm_vi o, gm_vi y]) [] n K R M Q := by
  refine gm_sz (gm_p_load (pc := 0) (i := .iload_n 1) (sr := 0) (j := 1) (by decide +kernel) rfl rfl rfl) ?_
  refine gm_sz (gm_p_const (pc := 1) (i := .iconst (-1)) (v := gm_vi (-1)) (by decide +kernel) (by decide +kernel)) ?_
  refine fw_ic (cc := .eq) (pc := 2) (off := 12) (by decide +kernel) (by decide) i1 ⟨by decide, by decide⟩ (fun h2 => ?_) (fun h2 => ?_)
  · have h2 : o = (-1) := h2
    refine gm_sz (gm_p_const (pc := 14) (i := .iconst 0) (v := gm_vi 0) (by decide +kernel) (by decide +kernel)) ?_
    exact gm_r_int (pc := 15) (by decide +kernel) (Or.inr ⟨(by decide +kernel), Or.inl rfl⟩) (q0 h2)
  · have h2 : ¬ o = (-1) := h2
    refine gm_sz (gm_p_load (pc := 5) (i := .iload_n 1) (sr := 0) (j := 1) (by decide +kernel) rfl rfl rfl) ?_
    refine gm_sz (gm_p_load (pc := 6) (i := .iload_n 2) (sr := 0) (j := 2) (by decide +kernel) rfl rfl rfl) ?_
    refine fw_ic (cc := .gt) (pc := 7) (off := 7) (by decide +kernel) (by decide) i1 i2 (fun h7 => ?_) (fun h7 => ?_)
    · have h7 : y < o := h7
      refine gm_sz (gm_p_const (pc := 14) (i := .iconst 0) (v := gm_vi 0) (by decide +kernel) (by decide +kernel)) ?_
      exact gm_r_int (pc := 15) (by decide +kernel) (Or.inr ⟨(by decide +kernel), Or.inl rfl⟩) (q1 h2 h7)
    · have h7 : ¬ y < o := h7
      refine gm_sz (gm_p_const (pc := 10) (i := .iconst 1) (v := gm_vi 1) (by decide +kernel) (by decide +kernel)) ?_
      refine gm_sz (gm_p_goto (pc := 11) (off := 4) (by decide +kernel) (by decide)) ?_
      exact gm_r_int (pc := 15) (by decide +kernel) (Or.inr ⟨(by decide +kernel), Or.inr rfl⟩) (q2 h2 h7)
/-- whether it waits -/
def WTS (N : Int → Int) (l o : Int) : Prop := ¬ (N (119 + (l * 7 + 0))) = -1 ∧ (N (119 + (l * 7 + 5))) = -1 ∧ ¬ o = -1 ∧ o ≤ N 9
theorem wt_c66 (hd : 2 ≤ d) (hE : E0 n K R) (hT : TI N h sp M) (hN : NR N) (h1 : 0 ≤ l ∧ l < N 4) (h3 : M 220 3 = N 4) (ho : M 221 (l * 2 + 0) = o) (hb : -1 ≤ o ∧ o ≤ 299) (q1 : WTS N l o → Q (.inl (some (gm_vi 1))) n K R M) (q0 : ¬ WTS N l o → Q (.inl (some (gm_vi 0))) n K R M) : gm_Wp X LX d bc bs 66 0 (gm_ent 66 [gm_vr 1, gm_vi l]) [] n K R M Q := by
  obtain ⟨⟨⟨a0, b0⟩, ⟨a1, b1⟩, ⟨a10, b10⟩, ⟨a11, b11⟩, ⟨a12, b12⟩, a9, b9⟩, ⟨⟨a2, b2⟩, ⟨a5, b5⟩, ⟨a3, b3⟩, ⟨a4, b4⟩, ⟨a6, b6⟩, ⟨a14, b14⟩, ⟨a7, b7⟩, a13, b13⟩, rF, rP, rL⟩ := id hN
  obtain ⟨r0, r1, -, -, -, r5, -⟩ := rL l h1.1 h1.2
  have rk9 : (if (N (119 + (l * 7 + 0))) = -1 then (1 : Int) else 0) = 1 ∧ (N (119 + (l * 7 + 0))) = -1 ∨ (if (N (119 + (l * 7 + 0))) = -1 then (1 : Int) else 0) = 0 ∧ ¬ (N (119 + (l * 7 + 0))) = -1 := by
    by_cases hh : (N (119 + (l * 7 + 0))) = -1
    · exact Or.inl ⟨if_pos hh, hh⟩
    · exact Or.inr ⟨if_neg hh, hh⟩
  refine gm_sz (gm_p_load (pc := 0) (i := .aload_n 0) (sr := 2) (j := 0) (by decide +kernel) rfl rfl rfl) ?_
  refine gm_sz (fw_gr (pc := 1) (ix := 23) (ci := 0) (j := 3) (r := 3) (by decide +kernel) (e0k hE (k := 1) (c := 0) (by decide +kernel)) (by decide +kernel) (by decide +kernel) (e0r hE (k := 1) (j := 3) (r := 3) (by decide +kernel))) ?_
  refine gm_sz (gm_p_load (pc := 4) (i := .iload_n 1) (sr := 0) (j := 1) (by decide +kernel) rfl rfl rfl) ?_
  refine gm_c_virt (k := 3) (ci := 1) (mj := 28) (ix := 450) (pc := 5) (as := [gm_vi l]) (st := []) (d' := d - 1) (bc' := 0) (bs' := 0) (by decide +kernel) (by decide +kernel) (by decide +kernel) (by decide +kernel) (e0k hE (k := 3) (c := 1) (by decide +kernel)).1 (e0k hE (k := 3) (c := 1) (by decide +kernel)).2 (by decide) (by decide +kernel) (show 1 = gm_na 28 by decide +kernel) (fw_c1 fw_si) (show 2 ≤ gm_ml 28 by decide +kernel) (Nat.le_of_ble_eq_true rfl) (by omega) (Nat.zero_le _) (Nat.zero_le _) ?_
  refine cs_rock9 (by omega) hE hT hN ⟨by omega, by omega⟩ ?_
  show gm_Wp X LX d _ _ 66 8 _ [gm_vi (if (N (119 + (l * 7 + 0))) = -1 then (1 : Int) else 0)] n K _ _ Q
  refine fw_if (cc := .ne) (pc := 8) (off := 23) (by decide +kernel) (by decide) ⟨by omega, by omega⟩ (fun h8 => ?_) (fun h8 => ?_)
  · have h8 : ¬ (if (N (119 + (l * 7 + 0))) = -1 then (1 : Int) else 0) = 0 := h8
    refine gm_sz (gm_p_const (pc := 31) (i := .iconst 0) (v := gm_vi 0) (by decide +kernel) (by decide +kernel)) ?_
    refine gm_sz (gm_p_stor (pc := 32) (i := .istore_n 2) (sr := 0) (j := 2) (by decide +kernel) rfl (show 3 ≤ _ from Nat.le_of_ble_eq_true rfl) rfl) ?_
    refine gm_sz (gm_p_load (pc := 33) (i := .iload_n 2) (sr := 0) (j := 2) (by decide +kernel) rfl rfl rfl) ?_
    refine fw_iftd (cc := .eq) (pc := 34) (off := 30) (by decide +kernel) (by decide) ⟨by decide, by decide⟩ (by decide) ?_
    refine gm_sz (gm_p_const (pc := 64) (i := .iconst 0) (v := gm_vi 0) (by decide +kernel) (by decide +kernel)) ?_
    have a9 : ¬ WTS N l o := fun ⟨a1, a2, a3, a4⟩ => by omega
    exact gm_r_int (pc := 65) (by decide +kernel) (Or.inr ⟨(by decide +kernel), Or.inl rfl⟩) (q0 a9)
  · have h8 : (if (N (119 + (l * 7 + 0))) = -1 then (1 : Int) else 0) = 0 := Classical.not_not.mp h8
    refine gm_sz (gm_p_load (pc := 11) (i := .aload_n 0) (sr := 2) (j := 0) (by decide +kernel) rfl rfl rfl) ?_
    refine gm_sz (fw_gr (pc := 12) (ix := 23) (ci := 0) (j := 3) (r := 3) (by decide +kernel) (e0k hE (k := 1) (c := 0) (by decide +kernel)) (by decide +kernel) (by decide +kernel) (e0r hE (k := 1) (j := 3) (r := 3) (by decide +kernel))) ?_
    refine gm_sz (fw_gr (pc := 15) (ix := 203) (ci := 1) (j := 12) (r := 10) (by decide +kernel) (e0k hE (k := 3) (c := 1) (by decide +kernel)) (by decide +kernel) (by decide +kernel) (e0r hE (k := 3) (j := 12) (r := 10) (by decide +kernel))) ?_
    refine gm_sz (gm_p_load (pc := 18) (i := .iload_n 1) (sr := 0) (j := 1) (by decide +kernel) rfl rfl rfl) ?_
    refine gm_sz (gm_p_const (pc := 19) (i := .iconst 5) (v := gm_vi 5) (by decide +kernel) (by decide +kernel)) ?_
    refine gm_c_virt (k := 10) (ci := 2) (mj := 10) (ix := 186) (pc := 20) (as := [gm_vi l, gm_vi 5]) (st := []) (d' := d - 1) (bc' := 0) (bs' := 0) (by decide +kernel) (by decide +kernel) (by decide +kernel) (by decide +kernel) (e0k hE (k := 10) (c := 2) (by decide +kernel)).1 (e0k hE (k := 10) (c := 2) (by decide +kernel)).2 (by decide) (by decide +kernel) (show 2 = gm_na 10 by decide +kernel) (fw_c2 fw_si fw_si) (show 3 ≤ gm_ml 10 by decide +kernel) (Nat.le_of_ble_eq_true rfl) (by omega) (Nat.zero_le _) (Nat.zero_le _) ?_
    refine rw_get (s := N 4) (w := 7) (x := N (119 + (l * 7 + 5))) (e0k hE (k := 10) (c := 2) (by decide +kernel)) (e0a hE (k := 11) (q := (0, 168)) (by decide +kernel)) (e0r hE (k := 10) (j := 2) (r := 11) (by decide +kernel)) (by decide) (ti_let hT) (hT.1 (10, 1, 7) (by decide)) ⟨by omega, by omega⟩ ⟨by omega, by omega⟩ ⟨by omega, by omega⟩ ⟨by omega, by omega⟩ (ti_aL hT (by omega) (by omega)) ?_
    show gm_Wp X LX d _ _ 66 23 _ [gm_vi (N (119 + (l * 7 + 5)))] n K _ _ Q
    refine gm_sz (gm_p_const (pc := 23) (i := .iconst (-1)) (v := gm_vi (-1)) (by decide +kernel) (by decide +kernel)) ?_
    refine fw_ic (cc := .ne) (pc := 24) (off := 7) (by decide +kernel) (by decide) ⟨by omega, by omega⟩ ⟨by decide, by decide⟩ (fun h24 => ?_) (fun h24 => ?_)
    · have h24 : ¬ (N (119 + (l * 7 + 5))) = (-1) := h24
      refine gm_sz (gm_p_const (pc := 31) (i := .iconst 0) (v := gm_vi 0) (by decide +kernel) (by decide +kernel)) ?_
      refine gm_sz (gm_p_stor (pc := 32) (i := .istore_n 2) (sr := 0) (j := 2) (by decide +kernel) rfl (show 3 ≤ _ from Nat.le_of_ble_eq_true rfl) rfl) ?_
      refine gm_sz (gm_p_load (pc := 33) (i := .iload_n 2) (sr := 0) (j := 2) (by decide +kernel) rfl rfl rfl) ?_
      refine fw_iftd (cc := .eq) (pc := 34) (off := 30) (by decide +kernel) (by decide) ⟨by decide, by decide⟩ (by decide) ?_
      refine gm_sz (gm_p_const (pc := 64) (i := .iconst 0) (v := gm_vi 0) (by decide +kernel) (by decide +kernel)) ?_
      have a9 : ¬ WTS N l o := fun ⟨a1, a2, a3, a4⟩ => by omega
      exact gm_r_int (pc := 65) (by decide +kernel) (Or.inr ⟨(by decide +kernel), Or.inl rfl⟩) (q0 a9)
    · have h24 : (N (119 + (l * 7 + 5))) = (-1) := Classical.not_not.mp h24
      refine gm_sz (gm_p_const (pc := 27) (i := .iconst 1) (v := gm_vi 1) (by decide +kernel) (by decide +kernel)) ?_
      refine gm_sz (gm_p_goto (pc := 28) (off := 4) (by decide +kernel) (by decide)) ?_
      refine gm_sz (gm_p_stor (pc := 32) (i := .istore_n 2) (sr := 0) (j := 2) (by decide +kernel) rfl (show 3 ≤ _ from Nat.le_of_ble_eq_true rfl) rfl) ?_
      refine gm_sz (gm_p_load (pc := 33) (i := .iload_n 2) (sr := 0) (j := 2) (by decide +kernel) rfl rfl rfl) ?_
      refine fw_iffd (cc := .eq) (pc := 34) (off := 30) (by decide +kernel) (by decide) ⟨by decide, by decide⟩ (by decide) ?_
      refine gm_sz (gm_p_load (pc := 37) (i := .aload_n 0) (sr := 2) (j := 0) (by decide +kernel) rfl rfl rfl) ?_
      refine gm_sz (gm_p_load (pc := 38) (i := .aload_n 0) (sr := 2) (j := 0) (by decide +kernel) rfl rfl rfl) ?_
      refine gm_sz (fw_gr (pc := 39) (ix := 97) (ci := 0) (j := 14) (r := 220) (by decide +kernel) (e0k hE (k := 1) (c := 0) (by decide +kernel)) (by decide +kernel) (by decide +kernel) (e0r hE (k := 1) (j := 14) (r := 220) (by decide +kernel))) ?_
      refine gm_sz (gm_p_load (pc := 42) (i := .iload_n 1) (sr := 0) (j := 1) (by decide +kernel) rfl rfl rfl) ?_
      refine gm_sz (gm_p_const (pc := 43) (i := .iconst 0) (v := gm_vi 0) (by decide +kernel) (by decide +kernel)) ?_
      refine gm_c_virt (k := 220) (ci := 2) (mj := 10) (ix := 186) (pc := 44) (as := [gm_vi l, gm_vi 0]) (st := [gm_vr 1]) (d' := d - 1) (bc' := 0) (bs' := 0) (by decide +kernel) (by decide +kernel) (by decide +kernel) (by decide +kernel) (e0k hE (k := 220) (c := 2) (by decide +kernel)).1 (e0k hE (k := 220) (c := 2) (by decide +kernel)).2 (by decide) (by decide +kernel) (show 2 = gm_na 10 by decide +kernel) (fw_c2 fw_si fw_si) (show 3 ≤ gm_ml 10 by decide +kernel) (Nat.le_of_ble_eq_true rfl) (by omega) (Nat.zero_le _) (Nat.zero_le _) ?_
      refine rw_get (s := N 4) (w := 2) (x := o) (e0k hE (k := 220) (c := 2) (by decide +kernel)) (e0a hE (k := 221) (q := (0, 48)) (by decide +kernel)) (e0r hE (k := 220) (j := 2) (r := 221) (by decide +kernel)) (by decide) h3 (hT.1 (220, 1, 2) (by decide)) ⟨by omega, by omega⟩ ⟨by omega, by omega⟩ ⟨by omega, by omega⟩ ⟨by omega, by omega⟩ ho ?_
      show gm_Wp X LX d _ _ 66 47 _ [gm_vi o, gm_vr 1] n K _ _ Q
      refine gm_sz (gm_p_load (pc := 47) (i := .aload_n 0) (sr := 2) (j := 0) (by decide +kernel) rfl rfl rfl) ?_
      refine gm_sz (fw_gr (pc := 48) (ix := 23) (ci := 0) (j := 3) (r := 3) (by decide +kernel) (e0k hE (k := 1) (c := 0) (by decide +kernel)) (by decide +kernel) (by decide +kernel) (e0r hE (k := 1) (j := 3) (r := 3) (by decide +kernel))) ?_
      refine gm_sz (fw_gi (pc := 51) (ix := 269) (ci := 1) (j := 6) (x := N 9) (by decide +kernel) (e0k hE (k := 3) (c := 1) (by decide +kernel)) (by decide +kernel) (by decide +kernel) (ti_now hT)) ?_
      refine gm_c_virt (k := 1) (ci := 0) (mj := 67) (ix := 408) (pc := 54) (as := [gm_vi o, gm_vi (N 9)]) (st := []) (d' := d - 1) (bc' := 0) (bs' := 0) (by decide +kernel) (by decide +kernel) (by decide +kernel) (by decide +kernel) (e0k hE (k := 1) (c := 0) (by decide +kernel)).1 (e0k hE (k := 1) (c := 0) (by decide +kernel)).2 (by decide) (by decide +kernel) (show 2 = gm_na 67 by decide +kernel) (fw_c2 fw_si fw_si) (show 3 ≤ gm_ml 67 by decide +kernel) (Nat.le_of_ble_eq_true rfl) (by omega) (Nat.zero_le _) (Nat.zero_le _) ?_
      refine wt_67 ⟨by omega, by omega⟩ ⟨by omega, by omega⟩ (fun u54 => ?_) (fun u54 v54 => ?_) (fun u54 v54 => ?_)
      · show gm_Wp X LX d _ _ 66 57 _ [gm_vi 0] n K _ _ Q
        refine fw_iftd (cc := .eq) (pc := 57) (off := 7) (by decide +kernel) (by decide) ⟨by decide, by decide⟩ (by decide) ?_
        refine gm_sz (gm_p_const (pc := 64) (i := .iconst 0) (v := gm_vi 0) (by decide +kernel) (by decide +kernel)) ?_
        have a9 : ¬ WTS N l o := fun ⟨a1, a2, a3, a4⟩ => by omega
        exact gm_r_int (pc := 65) (by decide +kernel) (Or.inr ⟨(by decide +kernel), Or.inl rfl⟩) (q0 a9)
      · show gm_Wp X LX d _ _ 66 57 _ [gm_vi 0] n K _ _ Q
        refine fw_iftd (cc := .eq) (pc := 57) (off := 7) (by decide +kernel) (by decide) ⟨by decide, by decide⟩ (by decide) ?_
        refine gm_sz (gm_p_const (pc := 64) (i := .iconst 0) (v := gm_vi 0) (by decide +kernel) (by decide +kernel)) ?_
        have a9 : ¬ WTS N l o := fun ⟨a1, a2, a3, a4⟩ => by omega
        exact gm_r_int (pc := 65) (by decide +kernel) (Or.inr ⟨(by decide +kernel), Or.inl rfl⟩) (q0 a9)
      · show gm_Wp X LX d _ _ 66 57 _ [gm_vi 1] n K _ _ Q
        refine fw_iffd (cc := .eq) (pc := 57) (off := 7) (by decide +kernel) (by decide) ⟨by decide, by decide⟩ (by decide) ?_
        refine gm_sz (gm_p_const (pc := 60) (i := .iconst 1) (v := gm_vi 1) (by decide +kernel) (by decide +kernel)) ?_
        refine gm_sz (gm_p_goto (pc := 61) (off := 4) (by decide +kernel) (by decide)) ?_
        have a9 : WTS N l o := ⟨by omega, by omega, by omega, by omega⟩
        exact gm_r_int (pc := 65) (by decide +kernel) (Or.inr ⟨(by decide +kernel), Or.inr rfl⟩) (q1 a9)
end EN6
