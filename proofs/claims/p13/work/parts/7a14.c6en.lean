/-! 7a14.c6en -/
section
/-! THE CLASS'S ENDS: when each LETTER is out, how deep (laid by wip/core/c6.py). -/
/-- when it is out (-1: never), how deep then -/
noncomputable def OUTR (N h : Int → Int) (φ : Int → Int → Int → Int) (l o d : Int) : Prop := (o = -1 ∧ ∀ j : Nat, (N (119 + (l * 7 + 3))) + (j : Int) ≤ 299 → (nwy N h φ ((N (119 + (l * 7 + 2)))) (if (N (119 + (l * 7 + 0))) = -1 then 1 else 0) (-1) ((N (119 + (l * 7 + 3)))) ((N (119 + (l * 7 + 4)))) j).1 < N 1) ∨ ∃ j : Nat, (N (119 + (l * 7 + 3))) + (j : Int) ≤ 299 ∧ o = (N (119 + (l * 7 + 3))) + (j : Int) ∧ N 1 ≤ (nwy N h φ ((N (119 + (l * 7 + 2)))) (if (N (119 + (l * 7 + 0))) = -1 then 1 else 0) (-1) ((N (119 + (l * 7 + 3)))) ((N (119 + (l * 7 + 4)))) j).1 ∧ (∀ i, i < j → (nwy N h φ ((N (119 + (l * 7 + 2)))) (if (N (119 + (l * 7 + 0))) = -1 then 1 else 0) (-1) ((N (119 + (l * 7 + 3)))) ((N (119 + (l * 7 + 4)))) i).1 < N 1) ∧ d = (nwy N h φ ((N (119 + (l * 7 + 2)))) (if (N (119 + (l * 7 + 0))) = -1 then 1 else 0) (-1) ((N (119 + (l * 7 + 3)))) ((N (119 + (l * 7 + 4)))) j).2
theorem OUTR_u {N h : Int → Int} {φ : Int → Int → Int → Int} {l o d o2 d2 : Int} (a : OUTR N h φ l o d) (b : OUTR N h φ l o2 d2) : o = o2 ∧ (0 ≤ (N (119 + (l * 7 + 3))) → 0 ≤ o → d = d2) := by
  rcases a with ⟨a1, a2⟩ | ⟨j, a1, a2, a3, a4, a5⟩
  · rcases b with ⟨b1, b2⟩ | ⟨i, b1, b2, b3, b4, b5⟩
    · exact ⟨by omega, fun _ h => by omega⟩
    · have := a2 i b1
      omega
  · rcases b with ⟨b1, b2⟩ | ⟨i, b1, b2, b3, b4, b5⟩
    · have := b2 j a1
      omega
    · have e : i = j := by
        rcases Nat.lt_trichotomy i j with h | h | h
        · have := a4 i h
          omega
        · exact h
        · have := b4 j h
          omega
      subst e
      exact ⟨by omega, fun _ _ => a5.trans b5.symm⟩
theorem OUTR_b {N h : Int → Int} {φ : Int → Int → Int → Int} {l o d : Int} (a : OUTR N h φ l o d) (h0 : 0 ≤ (N (119 + (l * 7 + 3)))) : -1 ≤ o ∧ o ≤ 299 := by
  rcases a with ⟨a1, a2⟩ | ⟨j, a1, a2, a3, a4, a5⟩ <;> exact ⟨by omega, by omega⟩
/-- the ends are right -/
noncomputable def ENDS (N h : Int → Int) (φ : Int → Int → Int → Int) (M : gm_M) : Prop := M 220 3 = N 4 ∧ ∀ l, 0 ≤ l → l < N 4 → OUTR N h φ l (M 221 (l * 2 + 0)) (M 221 (l * 2 + 1))
section EN6
variable {X : Int → Int} {LX d bc bs n : Nat} {K : gm_K} {R : gm_R} {M : gm_M} {Q : gm_Q} {l o y p : Int} {N h : Int → Int} {sp : Int → Int → Int} {FI : gm_M → Prop} {φ : Int → Int → Int → Int}
theorem en_l (hd : 17 ≤ d) (hE : E0 n K R) (hT : TI N h sp M) (hN : NR N) (hfw : FLW X LX n K R N h sp FI φ) (hq : ∀ M2, fr [((206 : Nat), some (2 : Int)), ((206 : Nat), some (3 : Int)), ((206 : Nat), some (4 : Int)), ((206 : Nat), some (5 : Int)), ((206 : Nat), some (6 : Int)), ((206 : Nat), some (7 : Int)), ((206 : Nat), some (8 : Int)), ((200 : Nat), some (6 : Int)), ((204 : Nat), none), ((205 : Nat), none), ((220 : Nat), some (3 : Int)), ((221 : Nat), none), ((1 : Nat), some (15 : Int))] M M2 → FI M2 → M2 1 15 = 1 → ENDS N h φ M2 → Q (.inl none) n K R M2) : ∀ (u i : Nat) (M1 : gm_M), (i : Int) + (u : Int) = N 4 → fr [((206 : Nat), some (2 : Int)), ((206 : Nat), some (3 : Int)), ((206 : Nat), some (4 : Int)), ((206 : Nat), some (5 : Int)), ((206 : Nat), some (6 : Int)), ((206 : Nat), some (7 : Int)), ((206 : Nat), some (8 : Int)), ((200 : Nat), some (6 : Int)), ((204 : Nat), none), ((205 : Nat), none), ((220 : Nat), some (3 : Int)), ((221 : Nat), none), ((1 : Nat), some (15 : Int))] M M1 → FI M1 → M1 220 3 = N 4 → (∀ l : Int, 0 ≤ l → l < (i : Int) → OUTR N h φ l (M1 221 (l * 2 + 0)) (M1 221 (l * 2 + 1))) → gm_Wp X LX d bc bs 24 27 [some (gm_vr 1), some (gm_vi (i : Int))] [] n K R M1 Q := by
  obtain ⟨⟨⟨a0, b0⟩, ⟨a1, b1⟩, ⟨a10, b10⟩, ⟨a11, b11⟩, ⟨a12, b12⟩, a9, b9⟩, ⟨⟨a2, b2⟩, ⟨a5, b5⟩, ⟨a3, b3⟩, ⟨a4, b4⟩, ⟨a6, b6⟩, ⟨a14, b14⟩, ⟨a7, b7⟩, a13, b13⟩, rF, rP, rL⟩ := id hN
  intro u
  induction u with
  | zero =>
    intro i M1 hi hf hI1 h3 ho
    refine gm_sz (gm_p_load (pc := 27) (i := .iload_n 1) (sr := 0) (j := 1) (by decide +kernel) rfl rfl rfl) ?_
    refine gm_sz (gm_p_load (pc := 28) (i := .aload_n 0) (sr := 2) (j := 0) (by decide +kernel) rfl rfl rfl) ?_
    refine gm_sz (fw_gr (pc := 29) (ix := 97) (ci := 0) (j := 14) (r := 220) (by decide +kernel) (e0k hE (k := 1) (c := 0) (by decide +kernel)) (by decide +kernel) (by decide +kernel) (e0r hE (k := 1) (j := 14) (r := 220) (by decide +kernel))) ?_
    refine gm_c_virt (k := 220) (ci := 2) (mj := 9) (ix := 277) (pc := 32) (as := []) (st := [gm_vi (i : Int)]) (d' := d - 1) (bc' := 0) (bs' := 0) (by decide +kernel) (by decide +kernel) (by decide +kernel) (by decide +kernel) (e0k hE (k := 220) (c := 2) (by decide +kernel)).1 (e0k hE (k := 220) (c := 2) (by decide +kernel)).2 (by decide) (by decide +kernel) (show 0 = gm_na 9 by decide +kernel) fw_c0 (show 1 ≤ gm_ml 9 by decide +kernel) (Nat.le_of_ble_eq_true rfl) (by omega) (Nat.zero_le _) (Nat.zero_le _) ?_
    refine rw_size (s := N 4) (e0k hE (k := 220) (c := 2) (by decide +kernel)) h3 ?_
    show gm_Wp X LX d _ _ 24 35 _ [gm_vi (N 4), gm_vi (i : Int)] n K _ _ Q
    refine fw_ict (cc := .ge) (pc := 35) (off := 52) (by decide +kernel) (by decide) ⟨by omega, by omega⟩ ⟨by omega, by omega⟩ (show (N 4) ≤ (i : Int) by omega) ?_
    refine gm_sz (gm_p_load (pc := 87) (i := .aload_n 0) (sr := 2) (j := 0) (by decide +kernel) rfl rfl rfl) ?_
    refine gm_sz (gm_p_const (pc := 88) (i := .iconst 1) (v := gm_vi 1) (by decide +kernel) (by decide +kernel)) ?_
    refine gm_sz (fw_pz (pc := 89) (ix := 101) (ci := 0) (j := 15) (M' := gm_uM M1 1 15 1) (by decide +kernel) (e0k hE (k := 1) (c := 0) (by decide +kernel)) (by decide +kernel) (by decide +kernel) (by decide +kernel) (Or.inr rfl) rfl) ?_
    refine gm_r_void (pc := 92) (by decide +kernel) (by decide +kernel) (hq (gm_uM M1 1 15 1) (fr_p (fr_t fr_0 hf (by decide)) (Or.inr (by decide))) (hfw.2.1 [((1 : Nat), some (15 : Int))] _ _ (by decide) (fr_p fr_0 (Or.inr (by decide))) hI1) uM_at ⟨((uM_ne (by omega)).trans h3), fun l l0 l1 => ?_⟩)
    rw [show (gm_uM M1 1 15 1) 221 (l * 2 + 0) = M1 221 (l * 2 + 0) from uM_ne (by omega), show (gm_uM M1 1 15 1) 221 (l * 2 + 1) = M1 221 (l * 2 + 1) from uM_ne (by omega)]
    exact ho l l0 (by omega)
  | succ u ih =>
    intro i M1 hi hf hI1 h3 ho
    obtain ⟨-, -, l2, l3, l4, -⟩ := rL (i : Int) (by omega) (by omega)
    have l5 : 0 ≤ (N (119 + ((i : Int) * 7 + 4))) ∧ (N (119 + ((i : Int) * 7 + 4))) ≤ 300 := ⟨l4.1, by have := l4.2; omega⟩
    have l4 := l5
    have rk9 : 0 ≤ (if (N (119 + ((i : Int) * 7 + 0))) = -1 then (1 : Int) else 0) ∧ (if (N (119 + ((i : Int) * 7 + 0))) = -1 then (1 : Int) else 0) ≤ 1 := by split <;> exact ⟨by decide, by decide⟩
    refine gm_sz (gm_p_load (pc := 27) (i := .iload_n 1) (sr := 0) (j := 1) (by decide +kernel) rfl rfl rfl) ?_
    refine gm_sz (gm_p_load (pc := 28) (i := .aload_n 0) (sr := 2) (j := 0) (by decide +kernel) rfl rfl rfl) ?_
    refine gm_sz (fw_gr (pc := 29) (ix := 97) (ci := 0) (j := 14) (r := 220) (by decide +kernel) (e0k hE (k := 1) (c := 0) (by decide +kernel)) (by decide +kernel) (by decide +kernel) (e0r hE (k := 1) (j := 14) (r := 220) (by decide +kernel))) ?_
    refine gm_c_virt (k := 220) (ci := 2) (mj := 9) (ix := 277) (pc := 32) (as := []) (st := [gm_vi (i : Int)]) (d' := d - 1) (bc' := 0) (bs' := 0) (by decide +kernel) (by decide +kernel) (by decide +kernel) (by decide +kernel) (e0k hE (k := 220) (c := 2) (by decide +kernel)).1 (e0k hE (k := 220) (c := 2) (by decide +kernel)).2 (by decide) (by decide +kernel) (show 0 = gm_na 9 by decide +kernel) fw_c0 (show 1 ≤ gm_ml 9 by decide +kernel) (Nat.le_of_ble_eq_true rfl) (by omega) (Nat.zero_le _) (Nat.zero_le _) ?_
    refine rw_size (s := N 4) (e0k hE (k := 220) (c := 2) (by decide +kernel)) h3 ?_
    show gm_Wp X LX d _ _ 24 35 _ [gm_vi (N 4), gm_vi (i : Int)] n K _ _ Q
    refine fw_icf (cc := .ge) (pc := 35) (off := 52) (by decide +kernel) (by decide) ⟨by omega, by omega⟩ ⟨by omega, by omega⟩ (show ¬ (N 4) ≤ (i : Int) by omega) ?_
    refine gm_sz (gm_p_load (pc := 38) (i := .aload_n 0) (sr := 2) (j := 0) (by decide +kernel) rfl rfl rfl) ?_
    refine gm_sz (fw_gr (pc := 39) (ix := 58) (ci := 0) (j := 9) (r := 206) (by decide +kernel) (e0k hE (k := 1) (c := 0) (by decide +kernel)) (by decide +kernel) (by decide +kernel) (e0r hE (k := 1) (j := 9) (r := 206) (by decide +kernel))) ?_
    refine gm_sz (gm_p_load (pc := 42) (i := .iload_n 1) (sr := 0) (j := 1) (by decide +kernel) rfl rfl rfl) ?_
    refine gm_c_virt (k := 206) (ci := 5) (mj := 27) (ix := 217) (pc := 43) (as := [gm_vi (i : Int)]) (st := []) (d' := d - 1) (bc' := 0) (bs' := 0) (by decide +kernel) (by decide +kernel) (by decide +kernel) (by decide +kernel) (e0k hE (k := 206) (c := 5) (by decide +kernel)).1 (e0k hE (k := 206) (c := 5) (by decide +kernel)).2 (by decide) (by decide +kernel) (show 1 = gm_na 27 by decide +kernel) (fw_c1 fw_si) (show 2 ≤ gm_ml 27 by decide +kernel) (Nat.le_of_ble_eq_true rfl) (by omega) (Nat.zero_le _) (Nat.zero_le _) ?_
    refine wy_let206 (by omega) hE (ti_fr (W := [((206 : Nat), some (2 : Int)), ((206 : Nat), some (3 : Int)), ((206 : Nat), some (4 : Int)), ((206 : Nat), some (5 : Int)), ((206 : Nat), some (6 : Int)), ((206 : Nat), some (7 : Int)), ((206 : Nat), some (8 : Int)), ((200 : Nat), some (6 : Int)), ((204 : Nat), none), ((205 : Nat), none), ((220 : Nat), some (3 : Int)), ((221 : Nat), none), ((1 : Nat), some (15 : Int))]) hT (fr_t fr_0 hf (by decide)) (by decide) (by decide +kernel)) hN ⟨by omega, by omega⟩ ?_
    show gm_Wp X LX d _ _ 24 46 _ [] n K _ _ Q
    refine gm_sz (gm_p_load (pc := 46) (i := .aload_n 0) (sr := 2) (j := 0) (by decide +kernel) rfl rfl rfl) ?_
    refine gm_sz (fw_gr (pc := 47) (ix := 97) (ci := 0) (j := 14) (r := 220) (by decide +kernel) (e0k hE (k := 1) (c := 0) (by decide +kernel)) (by decide +kernel) (by decide +kernel) (e0r hE (k := 1) (j := 14) (r := 220) (by decide +kernel))) ?_
    refine gm_sz (gm_p_load (pc := 50) (i := .iload_n 1) (sr := 0) (j := 1) (by decide +kernel) rfl rfl rfl) ?_
    refine gm_sz (gm_p_const (pc := 51) (i := .iconst 0) (v := gm_vi 0) (by decide +kernel) (by decide +kernel)) ?_
    refine gm_sz (gm_p_load (pc := 52) (i := .aload_n 0) (sr := 2) (j := 0) (by decide +kernel) rfl rfl rfl) ?_
    refine gm_sz (fw_gr (pc := 53) (ix := 58) (ci := 0) (j := 9) (r := 206) (by decide +kernel) (e0k hE (k := 1) (c := 0) (by decide +kernel)) (by decide +kernel) (by decide +kernel) (e0r hE (k := 1) (j := 9) (r := 206) (by decide +kernel))) ?_
    refine gm_sz (gm_p_const (pc := 56) (i := .sipush 299) (v := gm_vi 299) (by decide +kernel) (by decide +kernel)) ?_
    refine gm_c_virt (k := 206) (ci := 5) (mj := 30) (ix := 295) (pc := 59) (as := [gm_vi 299]) (st := [gm_vi 0, gm_vi (i : Int), gm_vr 220]) (d' := d - 1) (bc' := 0) (bs' := 0) (by decide +kernel) (by decide +kernel) (by decide +kernel) (by decide +kernel) (e0k hE (k := 206) (c := 5) (by decide +kernel)).1 (e0k hE (k := 206) (c := 5) (by decide +kernel)).2 (by decide) (by decide +kernel) (show 1 = gm_na 30 by decide +kernel) (fw_c1 fw_si) (show 2 ≤ gm_ml 30 by decide +kernel) (Nat.le_of_ble_eq_true rfl) (by omega) (Nat.zero_le _) (Nat.zero_le _) ?_
    refine wy_c30_206 (lane := (N (119 + ((i : Int) * 7 + 2)))) (rock := (if (N (119 + ((i : Int) * 7 + 0))) = -1 then 1 else 0)) (wo := -1) (r0 := (N (119 + ((i : Int) * 7 + 4)))) (y0 := (N (119 + ((i : Int) * 7 + 3)))) (lim := 299) (by omega) hE (ti_fr (W := [((206 : Nat), some (2 : Int)), ((206 : Nat), some (3 : Int)), ((206 : Nat), some (4 : Int)), ((206 : Nat), some (5 : Int)), ((206 : Nat), some (6 : Int)), ((206 : Nat), some (7 : Int)), ((206 : Nat), some (8 : Int)), ((200 : Nat), some (6 : Int)), ((204 : Nat), none), ((205 : Nat), none), ((220 : Nat), some (3 : Int)), ((221 : Nat), none), ((1 : Nat), some (15 : Int))]) hT (fr_p (fr_p (fr_p (fr_p (fr_p (fr_p (fr_p (fr_t fr_0 hf (by decide)) (Or.inr (by decide))) (Or.inr (by decide))) (Or.inr (by decide))) (Or.inr (by decide))) (Or.inr (by decide))) (Or.inr (by decide))) (Or.inr (by decide))) (by decide) (by decide +kernel)) hN hfw (hfw.2.1 [((206 : Nat), some (2 : Int)), ((206 : Nat), some (5 : Int)), ((206 : Nat), some (7 : Int)), ((206 : Nat), some (3 : Int)), ((206 : Nat), some (4 : Int)), ((206 : Nat), some (6 : Int)), ((206 : Nat), some (8 : Int))] _ _ (by decide) (fr_p (fr_p (fr_p (fr_p (fr_p (fr_p (fr_p fr_0 (Or.inr (by decide))) (Or.inr (by decide))) (Or.inr (by decide))) (Or.inr (by decide))) (Or.inr (by decide))) (Or.inr (by decide))) (Or.inr (by decide))) hI1) ((uM_ne (by omega)).trans ((uM_ne (by omega)).trans ((uM_ne (by omega)).trans ((uM_ne (by omega)).trans ((uM_ne (by omega)).trans ((uM_ne (by omega)).trans uM_at)))))) ((uM_ne (by omega)).trans ((uM_ne (by omega)).trans ((uM_ne (by omega)).trans uM_at))) ((uM_ne (by omega)).trans ((uM_ne (by omega)).trans uM_at)) ((uM_ne (by omega)).trans ((uM_ne (by omega)).trans ((uM_ne (by omega)).trans ((uM_ne (by omega)).trans ((uM_ne (by omega)).trans uM_at))))) ((uM_ne (by omega)).trans uM_at) ((uM_ne (by omega)).trans ((uM_ne (by omega)).trans ((uM_ne (by omega)).trans ((uM_ne (by omega)).trans uM_at)))) l3.1 l2 rk9 ⟨by decide, by decide⟩ l4 (by have := l3.2; omega) (by decide) (by decide) (fun j9 M30 hf30 hI30 g1 g2 g3 g5 g6 => ?_) (fun M30 hf30 hI30 g1 => ?_)
    · show gm_Wp X LX d _ _ 24 62 _ [gm_vi ((N (119 + ((i : Int) * 7 + 3))) + (j9 : Int)), gm_vi 0, gm_vi (i : Int), gm_vr 220] n K _ _ Q
      refine gm_c_virt (k := 220) (ci := 2) (mj := 45) (ix := 250) (pc := 62) (as := [gm_vi (i : Int), gm_vi 0, gm_vi ((N (119 + ((i : Int) * 7 + 3))) + (j9 : Int))]) (st := []) (d' := d - 1) (bc' := 0) (bs' := 0) (by decide +kernel) (by decide +kernel) (by decide +kernel) (by decide +kernel) (e0k hE (k := 220) (c := 2) (by decide +kernel)).1 (e0k hE (k := 220) (c := 2) (by decide +kernel)).2 (by decide) (by decide +kernel) (show 3 = gm_na 45 by decide +kernel) (fw_c3 fw_si fw_si fw_si) (show 4 ≤ gm_ml 45 by decide +kernel) (Nat.le_of_ble_eq_true rfl) (by omega) (Nat.zero_le _) (Nat.zero_le _) ?_
      refine rw_put (s := N 4) (w := 2) (e0k hE (k := 220) (c := 2) (by decide +kernel)) (e0a hE (k := 221) (q := ((0 : Nat), (48 : Nat))) (by decide +kernel)) (e0r hE (k := 220) (j := 2) (r := 221) (by decide +kernel)) (by decide) ((fr_c hf30 (by decide)).trans ((uM_ne (by omega)).trans ((uM_ne (by omega)).trans ((uM_ne (by omega)).trans ((uM_ne (by omega)).trans ((uM_ne (by omega)).trans ((uM_ne (by omega)).trans ((uM_ne (by omega)).trans h3)))))))) ((fr_c hf30 (by decide)).trans ((uM_ne (by omega)).trans ((uM_ne (by omega)).trans ((uM_ne (by omega)).trans ((uM_ne (by omega)).trans ((uM_ne (by omega)).trans ((uM_ne (by omega)).trans ((uM_ne (by omega)).trans ((fr_j hf (by decide)).trans (hT.1 (220, 1, 2) (by decide))))))))))) ⟨by omega, by omega⟩ ⟨by omega, by omega⟩ ⟨by omega, by omega⟩ ⟨by omega, by omega⟩ ?_
      show gm_Wp X LX d _ _ 24 65 _ [] n K _ _ Q
      refine gm_sz (gm_p_load (pc := 65) (i := .aload_n 0) (sr := 2) (j := 0) (by decide +kernel) rfl rfl rfl) ?_
      refine gm_sz (fw_gr (pc := 66) (ix := 97) (ci := 0) (j := 14) (r := 220) (by decide +kernel) (e0k hE (k := 1) (c := 0) (by decide +kernel)) (by decide +kernel) (by decide +kernel) (e0r hE (k := 1) (j := 14) (r := 220) (by decide +kernel))) ?_
      refine gm_sz (gm_p_load (pc := 69) (i := .iload_n 1) (sr := 0) (j := 1) (by decide +kernel) rfl rfl rfl) ?_
      refine gm_sz (gm_p_const (pc := 70) (i := .iconst 1) (v := gm_vi 1) (by decide +kernel) (by decide +kernel)) ?_
      refine gm_sz (gm_p_load (pc := 71) (i := .aload_n 0) (sr := 2) (j := 0) (by decide +kernel) rfl rfl rfl) ?_
      refine gm_sz (fw_gr (pc := 72) (ix := 58) (ci := 0) (j := 9) (r := 206) (by decide +kernel) (e0k hE (k := 1) (c := 0) (by decide +kernel)) (by decide +kernel) (by decide +kernel) (e0r hE (k := 1) (j := 9) (r := 206) (by decide +kernel))) ?_
      refine gm_sz (fw_gi (pc := 75) (ix := 209) (ci := 5) (j := 6) (x := (nwy N h φ ((N (119 + ((i : Int) * 7 + 2)))) (if (N (119 + ((i : Int) * 7 + 0))) = -1 then 1 else 0) (-1) ((N (119 + ((i : Int) * 7 + 3)))) ((N (119 + ((i : Int) * 7 + 4)))) j9).2) (by decide +kernel) (e0k hE (k := 206) (c := 5) (by decide +kernel)) (by decide +kernel) (by decide +kernel) ((uM_ne (by omega)).trans g6)) ?_
      refine gm_c_virt (k := 220) (ci := 2) (mj := 45) (ix := 250) (pc := 78) (as := [gm_vi (i : Int), gm_vi 1, gm_vi ((nwy N h φ ((N (119 + ((i : Int) * 7 + 2)))) (if (N (119 + ((i : Int) * 7 + 0))) = -1 then 1 else 0) (-1) ((N (119 + ((i : Int) * 7 + 3)))) ((N (119 + ((i : Int) * 7 + 4)))) j9).2)]) (st := []) (d' := d - 1) (bc' := 0) (bs' := 0) (by decide +kernel) (by decide +kernel) (by decide +kernel) (by decide +kernel) (e0k hE (k := 220) (c := 2) (by decide +kernel)).1 (e0k hE (k := 220) (c := 2) (by decide +kernel)).2 (by decide) (by decide +kernel) (show 3 = gm_na 45 by decide +kernel) (fw_c3 fw_si fw_si fw_si) (show 4 ≤ gm_ml 45 by decide +kernel) (Nat.le_of_ble_eq_true rfl) (by omega) (Nat.zero_le _) (Nat.zero_le _) ?_
      refine rw_put (s := N 4) (w := 2) (e0k hE (k := 220) (c := 2) (by decide +kernel)) (e0a hE (k := 221) (q := ((0 : Nat), (48 : Nat))) (by decide +kernel)) (e0r hE (k := 220) (j := 2) (r := 221) (by decide +kernel)) (by decide) ((uM_ne (by omega)).trans ((fr_c hf30 (by decide)).trans ((uM_ne (by omega)).trans ((uM_ne (by omega)).trans ((uM_ne (by omega)).trans ((uM_ne (by omega)).trans ((uM_ne (by omega)).trans ((uM_ne (by omega)).trans ((uM_ne (by omega)).trans h3))))))))) ((uM_ne (by omega)).trans ((fr_c hf30 (by decide)).trans ((uM_ne (by omega)).trans ((uM_ne (by omega)).trans ((uM_ne (by omega)).trans ((uM_ne (by omega)).trans ((uM_ne (by omega)).trans ((uM_ne (by omega)).trans ((uM_ne (by omega)).trans ((fr_j hf (by decide)).trans (hT.1 (220, 1, 2) (by decide)))))))))))) ⟨by omega, by omega⟩ ⟨by omega, by omega⟩ ⟨by omega, by omega⟩ ⟨by omega, by omega⟩ ?_
      show gm_Wp X LX d _ _ 24 81 _ [] n K _ _ Q
      refine gm_sz (gm_p_iinc (pc := 81) (j := 1) (z := 1) (by decide +kernel) rfl) ?_
      refine gm_sz (gm_p_goto (pc := 84) (off := (-57)) (by decide +kernel) (by decide)) ?_
      refine ih (i + 1) _ (by omega) (fr_p (fr_p (fr_t (fr_p (fr_p (fr_p (fr_p (fr_p (fr_p (fr_p (fr_t fr_0 hf (by decide)) (Or.inr (by decide))) (Or.inr (by decide))) (Or.inr (by decide))) (Or.inr (by decide))) (Or.inr (by decide))) (Or.inr (by decide))) (Or.inr (by decide))) hf30 (by decide)) (Or.inl (by decide))) (Or.inl (by decide))) (hfw.2.1 [((221 : Nat), none)] _ _ (by decide) (fr_p (fr_p fr_0 (Or.inl (by decide))) (Or.inl (by decide))) hI30) ((uM_ne (by omega)).trans ((uM_ne (by omega)).trans ((fr_c hf30 (by decide)).trans ((uM_ne (by omega)).trans ((uM_ne (by omega)).trans ((uM_ne (by omega)).trans ((uM_ne (by omega)).trans ((uM_ne (by omega)).trans ((uM_ne (by omega)).trans ((uM_ne (by omega)).trans h3)))))))))) (fun l l0 l1 => ?_)
      by_cases e : l = (i : Int)
      · subst e
        rw [show (gm_uM (gm_uM M30 221 ((i : Int) * 2 + 0) ((N (119 + ((i : Int) * 7 + 3))) + (j9 : Int))) 221 ((i : Int) * 2 + 1) ((nwy N h φ ((N (119 + ((i : Int) * 7 + 2)))) (if (N (119 + ((i : Int) * 7 + 0))) = -1 then 1 else 0) (-1) ((N (119 + ((i : Int) * 7 + 3)))) ((N (119 + ((i : Int) * 7 + 4)))) j9).2)) 221 ((i : Int) * 2 + 0) = (N (119 + ((i : Int) * 7 + 3))) + (j9 : Int) from ((uM_ne (by omega)).trans uM_at), show (gm_uM (gm_uM M30 221 ((i : Int) * 2 + 0) ((N (119 + ((i : Int) * 7 + 3))) + (j9 : Int))) 221 ((i : Int) * 2 + 1) ((nwy N h φ ((N (119 + ((i : Int) * 7 + 2)))) (if (N (119 + ((i : Int) * 7 + 0))) = -1 then 1 else 0) (-1) ((N (119 + ((i : Int) * 7 + 3)))) ((N (119 + ((i : Int) * 7 + 4)))) j9).2)) 221 ((i : Int) * 2 + 1) = (nwy N h φ ((N (119 + ((i : Int) * 7 + 2)))) (if (N (119 + ((i : Int) * 7 + 0))) = -1 then 1 else 0) (-1) ((N (119 + ((i : Int) * 7 + 3)))) ((N (119 + ((i : Int) * 7 + 4)))) j9).2 from uM_at]
        exact Or.inr ⟨j9, g1, rfl, g2, g3, rfl⟩
      · rw [show (gm_uM (gm_uM M30 221 ((i : Int) * 2 + 0) ((N (119 + ((i : Int) * 7 + 3))) + (j9 : Int))) 221 ((i : Int) * 2 + 1) ((nwy N h φ ((N (119 + ((i : Int) * 7 + 2)))) (if (N (119 + ((i : Int) * 7 + 0))) = -1 then 1 else 0) (-1) ((N (119 + ((i : Int) * 7 + 3)))) ((N (119 + ((i : Int) * 7 + 4)))) j9).2)) 221 (l * 2 + 0) = M1 221 (l * 2 + 0) from ((uM_ne (by omega)).trans ((uM_ne (by omega)).trans ((fr_c hf30 (by decide)).trans ((uM_ne (by omega)).trans ((uM_ne (by omega)).trans ((uM_ne (by omega)).trans ((uM_ne (by omega)).trans ((uM_ne (by omega)).trans ((uM_ne (by omega)).trans ((uM_ne (by omega)).trans rfl)))))))))), show (gm_uM (gm_uM M30 221 ((i : Int) * 2 + 0) ((N (119 + ((i : Int) * 7 + 3))) + (j9 : Int))) 221 ((i : Int) * 2 + 1) ((nwy N h φ ((N (119 + ((i : Int) * 7 + 2)))) (if (N (119 + ((i : Int) * 7 + 0))) = -1 then 1 else 0) (-1) ((N (119 + ((i : Int) * 7 + 3)))) ((N (119 + ((i : Int) * 7 + 4)))) j9).2)) 221 (l * 2 + 1) = M1 221 (l * 2 + 1) from ((uM_ne (by omega)).trans ((uM_ne (by omega)).trans ((fr_c hf30 (by decide)).trans ((uM_ne (by omega)).trans ((uM_ne (by omega)).trans ((uM_ne (by omega)).trans ((uM_ne (by omega)).trans ((uM_ne (by omega)).trans ((uM_ne (by omega)).trans ((uM_ne (by omega)).trans rfl))))))))))]
        exact ho l l0 (by omega)
    · show gm_Wp X LX d _ _ 24 62 _ [gm_vi (-1), gm_vi 0, gm_vi (i : Int), gm_vr 220] n K _ _ Q
      refine gm_c_virt (k := 220) (ci := 2) (mj := 45) (ix := 250) (pc := 62) (as := [gm_vi (i : Int), gm_vi 0, gm_vi (-1)]) (st := []) (d' := d - 1) (bc' := 0) (bs' := 0) (by decide +kernel) (by decide +kernel) (by decide +kernel) (by decide +kernel) (e0k hE (k := 220) (c := 2) (by decide +kernel)).1 (e0k hE (k := 220) (c := 2) (by decide +kernel)).2 (by decide) (by decide +kernel) (show 3 = gm_na 45 by decide +kernel) (fw_c3 fw_si fw_si fw_si) (show 4 ≤ gm_ml 45 by decide +kernel) (Nat.le_of_ble_eq_true rfl) (by omega) (Nat.zero_le _) (Nat.zero_le _) ?_
      refine rw_put (s := N 4) (w := 2) (e0k hE (k := 220) (c := 2) (by decide +kernel)) (e0a hE (k := 221) (q := ((0 : Nat), (48 : Nat))) (by decide +kernel)) (e0r hE (k := 220) (j := 2) (r := 221) (by decide +kernel)) (by decide) ((fr_c hf30 (by decide)).trans ((uM_ne (by omega)).trans ((uM_ne (by omega)).trans ((uM_ne (by omega)).trans ((uM_ne (by omega)).trans ((uM_ne (by omega)).trans ((uM_ne (by omega)).trans ((uM_ne (by omega)).trans h3)))))))) ((fr_c hf30 (by decide)).trans ((uM_ne (by omega)).trans ((uM_ne (by omega)).trans ((uM_ne (by omega)).trans ((uM_ne (by omega)).trans ((uM_ne (by omega)).trans ((uM_ne (by omega)).trans ((uM_ne (by omega)).trans ((fr_j hf (by decide)).trans (hT.1 (220, 1, 2) (by decide))))))))))) ⟨by omega, by omega⟩ ⟨by omega, by omega⟩ ⟨by omega, by omega⟩ ⟨by omega, by omega⟩ ?_
      show gm_Wp X LX d _ _ 24 65 _ [] n K _ _ Q
      refine gm_sz (gm_p_load (pc := 65) (i := .aload_n 0) (sr := 2) (j := 0) (by decide +kernel) rfl rfl rfl) ?_
      refine gm_sz (fw_gr (pc := 66) (ix := 97) (ci := 0) (j := 14) (r := 220) (by decide +kernel) (e0k hE (k := 1) (c := 0) (by decide +kernel)) (by decide +kernel) (by decide +kernel) (e0r hE (k := 1) (j := 14) (r := 220) (by decide +kernel))) ?_
      refine gm_sz (gm_p_load (pc := 69) (i := .iload_n 1) (sr := 0) (j := 1) (by decide +kernel) rfl rfl rfl) ?_
      refine gm_sz (gm_p_const (pc := 70) (i := .iconst 1) (v := gm_vi 1) (by decide +kernel) (by decide +kernel)) ?_
      refine gm_sz (gm_p_load (pc := 71) (i := .aload_n 0) (sr := 2) (j := 0) (by decide +kernel) rfl rfl rfl) ?_
      refine gm_sz (fw_gr (pc := 72) (ix := 58) (ci := 0) (j := 9) (r := 206) (by decide +kernel) (e0k hE (k := 1) (c := 0) (by decide +kernel)) (by decide +kernel) (by decide +kernel) (e0r hE (k := 1) (j := 9) (r := 206) (by decide +kernel))) ?_
      refine gm_sz (fw_gi (pc := 75) (ix := 209) (ci := 5) (j := 6) (x := M30 206 6) (by decide +kernel) (e0k hE (k := 206) (c := 5) (by decide +kernel)) (by decide +kernel) (by decide +kernel) (uM_ne (by omega))) ?_
      refine gm_c_virt (k := 220) (ci := 2) (mj := 45) (ix := 250) (pc := 78) (as := [gm_vi (i : Int), gm_vi 1, gm_vi (M30 206 6)]) (st := []) (d' := d - 1) (bc' := 0) (bs' := 0) (by decide +kernel) (by decide +kernel) (by decide +kernel) (by decide +kernel) (e0k hE (k := 220) (c := 2) (by decide +kernel)).1 (e0k hE (k := 220) (c := 2) (by decide +kernel)).2 (by decide) (by decide +kernel) (show 3 = gm_na 45 by decide +kernel) (fw_c3 fw_si fw_si fw_si) (show 4 ≤ gm_ml 45 by decide +kernel) (Nat.le_of_ble_eq_true rfl) (by omega) (Nat.zero_le _) (Nat.zero_le _) ?_
      refine rw_put (s := N 4) (w := 2) (e0k hE (k := 220) (c := 2) (by decide +kernel)) (e0a hE (k := 221) (q := ((0 : Nat), (48 : Nat))) (by decide +kernel)) (e0r hE (k := 220) (j := 2) (r := 221) (by decide +kernel)) (by decide) ((uM_ne (by omega)).trans ((fr_c hf30 (by decide)).trans ((uM_ne (by omega)).trans ((uM_ne (by omega)).trans ((uM_ne (by omega)).trans ((uM_ne (by omega)).trans ((uM_ne (by omega)).trans ((uM_ne (by omega)).trans ((uM_ne (by omega)).trans h3))))))))) ((uM_ne (by omega)).trans ((fr_c hf30 (by decide)).trans ((uM_ne (by omega)).trans ((uM_ne (by omega)).trans ((uM_ne (by omega)).trans ((uM_ne (by omega)).trans ((uM_ne (by omega)).trans ((uM_ne (by omega)).trans ((uM_ne (by omega)).trans ((fr_j hf (by decide)).trans (hT.1 (220, 1, 2) (by decide)))))))))))) ⟨by omega, by omega⟩ ⟨by omega, by omega⟩ ⟨by omega, by omega⟩ ⟨by omega, by omega⟩ ?_
      show gm_Wp X LX d _ _ 24 81 _ [] n K _ _ Q
      refine gm_sz (gm_p_iinc (pc := 81) (j := 1) (z := 1) (by decide +kernel) rfl) ?_
      refine gm_sz (gm_p_goto (pc := 84) (off := (-57)) (by decide +kernel) (by decide)) ?_
      refine ih (i + 1) _ (by omega) (fr_p (fr_p (fr_t (fr_p (fr_p (fr_p (fr_p (fr_p (fr_p (fr_p (fr_t fr_0 hf (by decide)) (Or.inr (by decide))) (Or.inr (by decide))) (Or.inr (by decide))) (Or.inr (by decide))) (Or.inr (by decide))) (Or.inr (by decide))) (Or.inr (by decide))) hf30 (by decide)) (Or.inl (by decide))) (Or.inl (by decide))) (hfw.2.1 [((221 : Nat), none)] _ _ (by decide) (fr_p (fr_p fr_0 (Or.inl (by decide))) (Or.inl (by decide))) hI30) ((uM_ne (by omega)).trans ((uM_ne (by omega)).trans ((fr_c hf30 (by decide)).trans ((uM_ne (by omega)).trans ((uM_ne (by omega)).trans ((uM_ne (by omega)).trans ((uM_ne (by omega)).trans ((uM_ne (by omega)).trans ((uM_ne (by omega)).trans ((uM_ne (by omega)).trans h3)))))))))) (fun l l0 l1 => ?_)
      by_cases e : l = (i : Int)
      · subst e
        rw [show (gm_uM (gm_uM M30 221 ((i : Int) * 2 + 0) (-1)) 221 ((i : Int) * 2 + 1) (M30 206 6)) 221 ((i : Int) * 2 + 0) = (-1) from ((uM_ne (by omega)).trans uM_at), show (gm_uM (gm_uM M30 221 ((i : Int) * 2 + 0) (-1)) 221 ((i : Int) * 2 + 1) (M30 206 6)) 221 ((i : Int) * 2 + 1) = M30 206 6 from uM_at]
        exact Or.inl ⟨rfl, g1⟩
      · rw [show (gm_uM (gm_uM M30 221 ((i : Int) * 2 + 0) (-1)) 221 ((i : Int) * 2 + 1) (M30 206 6)) 221 (l * 2 + 0) = M1 221 (l * 2 + 0) from ((uM_ne (by omega)).trans ((uM_ne (by omega)).trans ((fr_c hf30 (by decide)).trans ((uM_ne (by omega)).trans ((uM_ne (by omega)).trans ((uM_ne (by omega)).trans ((uM_ne (by omega)).trans ((uM_ne (by omega)).trans ((uM_ne (by omega)).trans ((uM_ne (by omega)).trans rfl)))))))))), show (gm_uM (gm_uM M30 221 ((i : Int) * 2 + 0) (-1)) 221 ((i : Int) * 2 + 1) (M30 206 6)) 221 (l * 2 + 1) = M1 221 (l * 2 + 1) from ((uM_ne (by omega)).trans ((uM_ne (by omega)).trans ((fr_c hf30 (by decide)).trans ((uM_ne (by omega)).trans ((uM_ne (by omega)).trans ((uM_ne (by omega)).trans ((uM_ne (by omega)).trans ((uM_ne (by omega)).trans ((uM_ne (by omega)).trans ((uM_ne (by omega)).trans rfl))))))))))]
        exact ho l l0 (by omega)
theorem en_c24 (hd : 17 ≤ d) (hE : E0 n K R) (hT : TI N h sp M) (hN : NR N) (hfw : FLW X LX n K R N h sp FI φ) (hI : FI M) (hb : gm_ir (M 1 15)) (hk : ¬ M 1 15 = 0 → M 1 15 = 1 ∧ ENDS N h φ M) (hq : ∀ M2, fr [((206 : Nat), some (2 : Int)), ((206 : Nat), some (3 : Int)), ((206 : Nat), some (4 : Int)), ((206 : Nat), some (5 : Int)), ((206 : Nat), some (6 : Int)), ((206 : Nat), some (7 : Int)), ((206 : Nat), some (8 : Int)), ((200 : Nat), some (6 : Int)), ((204 : Nat), none), ((205 : Nat), none), ((220 : Nat), some (3 : Int)), ((221 : Nat), none), ((1 : Nat), some (15 : Int))] M M2 → FI M2 → M2 1 15 = 1 → ENDS N h φ M2 → Q (.inl none) n K R M2) : gm_Wp X LX d bc bs 24 0 (gm_ent 24 [gm_vr 1]) [] n K R M Q := by
  obtain ⟨⟨⟨a0, b0⟩, ⟨a1, b1⟩, ⟨a10, b10⟩, ⟨a11, b11⟩, ⟨a12, b12⟩, a9, b9⟩, ⟨⟨a2, b2⟩, ⟨a5, b5⟩, ⟨a3, b3⟩, ⟨a4, b4⟩, ⟨a6, b6⟩, ⟨a14, b14⟩, ⟨a7, b7⟩, a13, b13⟩, rF, rP, rL⟩ := id hN
  refine gm_sz (gm_p_load (pc := 0) (i := .aload_n 0) (sr := 2) (j := 0) (by decide +kernel) rfl rfl rfl) ?_
  refine gm_sz (fw_gi (pc := 1) (ix := 101) (ci := 0) (j := 15) (x := M 1 15) (by decide +kernel) (e0k hE (k := 1) (c := 0) (by decide +kernel)) (by decide +kernel) (by decide +kernel) rfl) ?_
  refine fw_if (cc := .eq) (pc := 4) (off := 4) (by decide +kernel) (by decide) hb (fun h4 => ?_) (fun h4 => ?_)
  · have h4 : (M 1 15) = 0 := h4
    refine gm_sz (gm_p_load (pc := 8) (i := .aload_n 0) (sr := 2) (j := 0) (by decide +kernel) rfl rfl rfl) ?_
    refine gm_sz (fw_gr (pc := 9) (ix := 97) (ci := 0) (j := 14) (r := 220) (by decide +kernel) (e0k hE (k := 1) (c := 0) (by decide +kernel)) (by decide +kernel) (by decide +kernel) (e0r hE (k := 1) (j := 14) (r := 220) (by decide +kernel))) ?_
    refine gm_sz (gm_p_load (pc := 12) (i := .aload_n 0) (sr := 2) (j := 0) (by decide +kernel) rfl rfl rfl) ?_
    refine gm_sz (fw_gr (pc := 13) (ix := 23) (ci := 0) (j := 3) (r := 3) (by decide +kernel) (e0k hE (k := 1) (c := 0) (by decide +kernel)) (by decide +kernel) (by decide +kernel) (e0r hE (k := 1) (j := 3) (r := 3) (by decide +kernel))) ?_
    refine gm_sz (fw_gr (pc := 16) (ix := 203) (ci := 1) (j := 12) (r := 10) (by decide +kernel) (e0k hE (k := 3) (c := 1) (by decide +kernel)) (by decide +kernel) (by decide +kernel) (e0r hE (k := 3) (j := 12) (r := 10) (by decide +kernel))) ?_
    refine gm_c_virt (k := 10) (ci := 2) (mj := 9) (ix := 277) (pc := 19) (as := []) (st := [gm_vr 220]) (d' := d - 1) (bc' := 0) (bs' := 0) (by decide +kernel) (by decide +kernel) (by decide +kernel) (by decide +kernel) (e0k hE (k := 10) (c := 2) (by decide +kernel)).1 (e0k hE (k := 10) (c := 2) (by decide +kernel)).2 (by decide) (by decide +kernel) (show 0 = gm_na 9 by decide +kernel) fw_c0 (show 1 ≤ gm_ml 9 by decide +kernel) (Nat.le_of_ble_eq_true rfl) (by omega) (Nat.zero_le _) (Nat.zero_le _) ?_
    refine rw_size (s := N 4) (e0k hE (k := 10) (c := 2) (by decide +kernel)) (ti_let hT) ?_
    show gm_Wp X LX d _ _ 24 22 _ [gm_vi (N 4), gm_vr 220] n K _ _ Q
    refine gm_c_virt (k := 220) (ci := 2) (mj := 25) (ix := 390) (pc := 22) (as := [gm_vi (N 4)]) (st := []) (d' := d - 1) (bc' := 0) (bs' := 0) (by decide +kernel) (by decide +kernel) (by decide +kernel) (by decide +kernel) (e0k hE (k := 220) (c := 2) (by decide +kernel)).1 (e0k hE (k := 220) (c := 2) (by decide +kernel)).2 (by decide) (by decide +kernel) (show 1 = gm_na 25 by decide +kernel) (fw_c1 fw_si) (show 2 ≤ gm_ml 25 by decide +kernel) (Nat.le_of_ble_eq_true rfl) (by omega) (Nat.zero_le _) (Nat.zero_le _) ?_
    refine rw_reset (m := 24) (by omega) (e0k hE (k := 220) (c := 2) (by decide +kernel)) (e0a hE (k := 221) (q := ((0 : Nat), (48 : Nat))) (by decide +kernel)) (e0r hE (k := 220) (j := 2) (r := 221) (by decide +kernel)) (by decide) (hT.1 (220, 0, 24) (by decide)) ⟨by omega, by omega⟩ (by omega) ?_
    show gm_Wp X LX d _ _ 24 25 _ [] n K _ _ Q
    refine gm_sz (gm_p_const (pc := 25) (i := .iconst 0) (v := gm_vi 0) (by decide +kernel) (by decide +kernel)) ?_
    refine gm_sz (gm_p_stor (pc := 26) (i := .istore_n 1) (sr := 0) (j := 1) (by decide +kernel) rfl (show 2 ≤ _ from Nat.le_of_ble_eq_true rfl) rfl) ?_
    exact en_l hd hE hT hN hfw hq (N 4).toNat 0 _ (by omega) (fr_t (fr_p fr_0 (Or.inr (by decide))) gm_fil_fr (by decide)) (hfw.2.1 [((220 : Nat), some (3 : Int)), ((221 : Nat), none)] _ _ (by decide) (fr_t (fr_p fr_0 (Or.inr (by decide))) gm_fil_fr (by decide)) hI) ((fr_c gm_fil_fr (by decide)).trans uM_at) (fun l l0 l1 => by omega)
  · have h4 : ¬ (M 1 15) = 0 := h4
    exact gm_r_void (pc := 7) (by decide +kernel) (by decide +kernel) (hq M fr_0 hI (hk h4).1 (hk h4).2)
theorem wt_67 (i1 : gm_ir o) (i2 : gm_ir y) (q0 : o = (-1) → Q (.inl (some (gm_vi 0))) n K R (M)) (q1 : ¬ o = (-1) → y < o → Q (.inl (some (gm_vi 0))) n K R (M)) (q2 : ¬ o = (-1) → ¬ y < o → Q (.inl (some (gm_vi 1))) n K R (M)) : gm_Wp X LX d bc bs 67 0 (gm_ent 67 [gm_vr 1, gm_vi o, gm_vi y]) [] n K R M Q := by
  refine gm_sz (gm_p_load (pc := 0) (i := .iload_n 1) (sr := 0) (j := 1) (by decide +kernel) rfl rfl rfl) ?_
  refine gm_sz (gm_p_const (pc := 1) (i := .iconst (-1)) (v := gm_vi (-1)) (by decide +kernel) (by decide +kernel)) ?_
  refine fw_ic (cc := .eq) (pc := 2) (off := 12) (by decide +kernel) (by decide) i1 ⟨by decide, by decide⟩ (fun h2 => ?_) (fun h2 => ?_)
  · have h2 : o = (-1) := h2
    refine gm_sz (gm_p_const (pc := 14) (i := .iconst 0) (v := gm_vi 0) (by decide +kernel) (by decide +kernel)) ?_
    exact gm_r_int (pc := 15) (by decide +kernel) (Or.inr ⟨(by decide +kernel), Or.inl rfl⟩) (q0 h2)
  · have h2 : ¬ o = (-1) := h2
    refine gm_sz (gm_p_load (pc := 5) (i := .iload_n 1) (sr := 0) (j := 1) (by decide +kernel) rfl rfl rfl) ?_
    refine gm_sz (gm_p_load (pc := 6) (i := .iload_n 2) (sr := 0) (j := 2) (by decide +kernel) rfl rfl rfl) ?_
    refine fw_ic (cc := .gt) (pc := 7) (off := 7) (by decide +kernel) (by decide) i1 i2 (fun h7 => ?_) (fun h7 => ?_)
    · have h7 : y < o := h7
      refine gm_sz (gm_p_const (pc := 14) (i := .iconst 0) (v := gm_vi 0) (by decide +kernel) (by decide +kernel)) ?_
      exact gm_r_int (pc := 15) (by decide +kernel) (Or.inr ⟨(by decide +kernel), Or.inl rfl⟩) (q1 h2 h7)
    · have h7 : ¬ y < o := h7
      refine gm_sz (gm_p_const (pc := 10) (i := .iconst 1) (v := gm_vi 1) (by decide +kernel) (by decide +kernel)) ?_
      refine gm_sz (gm_p_goto (pc := 11) (off := 4) (by decide +kernel) (by decide)) ?_
      exact gm_r_int (pc := 15) (by decide +kernel) (Or.inr ⟨(by decide +kernel), Or.inr rfl⟩) (q2 h2 h7)
/-- whether it waits -/
noncomputable def WTS (N : Int → Int) (l o : Int) : Prop := ¬ (N (119 + (l * 7 + 0))) = -1 ∧ (N (119 + (l * 7 + 5))) = -1 ∧ ¬ o = -1 ∧ o ≤ N 9
theorem wt_c66 (hd : 2 ≤ d) (hE : E0 n K R) (hT : TI N h sp M) (hN : NR N) (h1 : 0 ≤ l ∧ l < N 4) (h3 : M 220 3 = N 4) (ho : M 221 (l * 2 + 0) = o) (hb : -1 ≤ o ∧ o ≤ 299) (q1 : WTS N l o → Q (.inl (some (gm_vi 1))) n K R M) (q0 : ¬ WTS N l o → Q (.inl (some (gm_vi 0))) n K R M) : gm_Wp X LX d bc bs 66 0 (gm_ent 66 [gm_vr 1, gm_vi l]) [] n K R M Q := by
  obtain ⟨⟨⟨a0, b0⟩, ⟨a1, b1⟩, ⟨a10, b10⟩, ⟨a11, b11⟩, ⟨a12, b12⟩, a9, b9⟩, ⟨⟨a2, b2⟩, ⟨a5, b5⟩, ⟨a3, b3⟩, ⟨a4, b4⟩, ⟨a6, b6⟩, ⟨a14, b14⟩, ⟨a7, b7⟩, a13, b13⟩, rF, rP, rL⟩ := id hN
  obtain ⟨r0, r1, -, -, -, r5, -⟩ := rL l h1.1 h1.2
  have rk9 : (if (N (119 + (l * 7 + 0))) = -1 then (1 : Int) else 0) = 1 ∧ (N (119 + (l * 7 + 0))) = -1 ∨ (if (N (119 + (l * 7 + 0))) = -1 then (1 : Int) else 0) = 0 ∧ ¬ (N (119 + (l * 7 + 0))) = -1 := by
    by_cases hh : (N (119 + (l * 7 + 0))) = -1
    · exact Or.inl ⟨if_pos hh, hh⟩
    · exact Or.inr ⟨if_neg hh, hh⟩
  refine gm_sz (gm_p_load (pc := 0) (i := .aload_n 0) (sr := 2) (j := 0) (by decide +kernel) rfl rfl rfl) ?_
  refine gm_sz (fw_gr (pc := 1) (ix := 23) (ci := 0) (j := 3) (r := 3) (by decide +kernel) (e0k hE (k := 1) (c := 0) (by decide +kernel)) (by decide +kernel) (by decide +kernel) (e0r hE (k := 1) (j := 3) (r := 3) (by decide +kernel))) ?_
  refine gm_sz (gm_p_load (pc := 4) (i := .iload_n 1) (sr := 0) (j := 1) (by decide +kernel) rfl rfl rfl) ?_
  refine gm_c_virt (k := 3) (ci := 1) (mj := 28) (ix := 450) (pc := 5) (as := [gm_vi l]) (st := []) (d' := d - 1) (bc' := 0) (bs' := 0) (by decide +kernel) (by decide +kernel) (by decide +kernel) (by decide +kernel) (e0k hE (k := 3) (c := 1) (by decide +kernel)).1 (e0k hE (k := 3) (c := 1) (by decide +kernel)).2 (by decide) (by decide +kernel) (show 1 = gm_na 28 by decide +kernel) (fw_c1 fw_si) (show 2 ≤ gm_ml 28 by decide +kernel) (Nat.le_of_ble_eq_true rfl) (by omega) (Nat.zero_le _) (Nat.zero_le _) ?_
  refine cs_rock9 (by omega) hE hT hN ⟨by omega, by omega⟩ ?_
  show gm_Wp X LX d _ _ 66 8 _ [gm_vi (if (N (119 + (l * 7 + 0))) = -1 then (1 : Int) else 0)] n K _ _ Q
  refine fw_if (cc := .ne) (pc := 8) (off := 23) (by decide +kernel) (by decide) ⟨by omega, by omega⟩ (fun h8 => ?_) (fun h8 => ?_)
  · have h8 : ¬ (if (N (119 + (l * 7 + 0))) = -1 then (1 : Int) else 0) = 0 := h8
    refine gm_sz (gm_p_const (pc := 31) (i := .iconst 0) (v := gm_vi 0) (by decide +kernel) (by decide +kernel)) ?_
    refine gm_sz (gm_p_stor (pc := 32) (i := .istore_n 2) (sr := 0) (j := 2) (by decide +kernel) rfl (show 3 ≤ _ from Nat.le_of_ble_eq_true rfl) rfl) ?_
    refine gm_sz (gm_p_load (pc := 33) (i := .iload_n 2) (sr := 0) (j := 2) (by decide +kernel) rfl rfl rfl) ?_
    refine fw_iftd (cc := .eq) (pc := 34) (off := 30) (by decide +kernel) (by decide) ⟨by decide, by decide⟩ (by decide) ?_
    refine gm_sz (gm_p_const (pc := 64) (i := .iconst 0) (v := gm_vi 0) (by decide +kernel) (by decide +kernel)) ?_
    have a9 : ¬ WTS N l o := fun ⟨a1, a2, a3, a4⟩ => by omega
    exact gm_r_int (pc := 65) (by decide +kernel) (Or.inr ⟨(by decide +kernel), Or.inl rfl⟩) (q0 a9)
  · have h8 : (if (N (119 + (l * 7 + 0))) = -1 then (1 : Int) else 0) = 0 := Classical.not_not.mp h8
    refine gm_sz (gm_p_load (pc := 11) (i := .aload_n 0) (sr := 2) (j := 0) (by decide +kernel) rfl rfl rfl) ?_
    refine gm_sz (fw_gr (pc := 12) (ix := 23) (ci := 0) (j := 3) (r := 3) (by decide +kernel) (e0k hE (k := 1) (c := 0) (by decide +kernel)) (by decide +kernel) (by decide +kernel) (e0r hE (k := 1) (j := 3) (r := 3) (by decide +kernel))) ?_
    refine gm_sz (fw_gr (pc := 15) (ix := 203) (ci := 1) (j := 12) (r := 10) (by decide +kernel) (e0k hE (k := 3) (c := 1) (by decide +kernel)) (by decide +kernel) (by decide +kernel) (e0r hE (k := 3) (j := 12) (r := 10) (by decide +kernel))) ?_
    refine gm_sz (gm_p_load (pc := 18) (i := .iload_n 1) (sr := 0) (j := 1) (by decide +kernel) rfl rfl rfl) ?_
    refine gm_sz (gm_p_const (pc := 19) (i := .iconst 5) (v := gm_vi 5) (by decide +kernel) (by decide +kernel)) ?_
    refine gm_c_virt (k := 10) (ci := 2) (mj := 10) (ix := 186) (pc := 20) (as := [gm_vi l, gm_vi 5]) (st := []) (d' := d - 1) (bc' := 0) (bs' := 0) (by decide +kernel) (by decide +kernel) (by decide +kernel) (by decide +kernel) (e0k hE (k := 10) (c := 2) (by decide +kernel)).1 (e0k hE (k := 10) (c := 2) (by decide +kernel)).2 (by decide) (by decide +kernel) (show 2 = gm_na 10 by decide +kernel) (fw_c2 fw_si fw_si) (show 3 ≤ gm_ml 10 by decide +kernel) (Nat.le_of_ble_eq_true rfl) (by omega) (Nat.zero_le _) (Nat.zero_le _) ?_
    refine rw_get (s := N 4) (w := 7) (x := N (119 + (l * 7 + 5))) (e0k hE (k := 10) (c := 2) (by decide +kernel)) (e0a hE (k := 11) (q := ((0 : Nat), (168 : Nat))) (by decide +kernel)) (e0r hE (k := 10) (j := 2) (r := 11) (by decide +kernel)) (by decide) (ti_let hT) (hT.1 (10, 1, 7) (by decide)) ⟨by omega, by omega⟩ ⟨by omega, by omega⟩ ⟨by omega, by omega⟩ ⟨by omega, by omega⟩ (ti_aL hT (by omega) (by omega)) ?_
    show gm_Wp X LX d _ _ 66 23 _ [gm_vi (N (119 + (l * 7 + 5)))] n K _ _ Q
    refine gm_sz (gm_p_const (pc := 23) (i := .iconst (-1)) (v := gm_vi (-1)) (by decide +kernel) (by decide +kernel)) ?_
    refine fw_ic (cc := .ne) (pc := 24) (off := 7) (by decide +kernel) (by decide) ⟨by omega, by omega⟩ ⟨by decide, by decide⟩ (fun h24 => ?_) (fun h24 => ?_)
    · have h24 : ¬ (N (119 + (l * 7 + 5))) = (-1) := h24
      refine gm_sz (gm_p_const (pc := 31) (i := .iconst 0) (v := gm_vi 0) (by decide +kernel) (by decide +kernel)) ?_
      refine gm_sz (gm_p_stor (pc := 32) (i := .istore_n 2) (sr := 0) (j := 2) (by decide +kernel) rfl (show 3 ≤ _ from Nat.le_of_ble_eq_true rfl) rfl) ?_
      refine gm_sz (gm_p_load (pc := 33) (i := .iload_n 2) (sr := 0) (j := 2) (by decide +kernel) rfl rfl rfl) ?_
      refine fw_iftd (cc := .eq) (pc := 34) (off := 30) (by decide +kernel) (by decide) ⟨by decide, by decide⟩ (by decide) ?_
      refine gm_sz (gm_p_const (pc := 64) (i := .iconst 0) (v := gm_vi 0) (by decide +kernel) (by decide +kernel)) ?_
      have a9 : ¬ WTS N l o := fun ⟨a1, a2, a3, a4⟩ => by omega
      exact gm_r_int (pc := 65) (by decide +kernel) (Or.inr ⟨(by decide +kernel), Or.inl rfl⟩) (q0 a9)
    · have h24 : (N (119 + (l * 7 + 5))) = (-1) := Classical.not_not.mp h24
      refine gm_sz (gm_p_const (pc := 27) (i := .iconst 1) (v := gm_vi 1) (by decide +kernel) (by decide +kernel)) ?_
      refine gm_sz (gm_p_goto (pc := 28) (off := 4) (by decide +kernel) (by decide)) ?_
      refine gm_sz (gm_p_stor (pc := 32) (i := .istore_n 2) (sr := 0) (j := 2) (by decide +kernel) rfl (show 3 ≤ _ from Nat.le_of_ble_eq_true rfl) rfl) ?_
      refine gm_sz (gm_p_load (pc := 33) (i := .iload_n 2) (sr := 0) (j := 2) (by decide +kernel) rfl rfl rfl) ?_
      refine fw_iffd (cc := .eq) (pc := 34) (off := 30) (by decide +kernel) (by decide) ⟨by decide, by decide⟩ (by decide) ?_
      refine gm_sz (gm_p_load (pc := 37) (i := .aload_n 0) (sr := 2) (j := 0) (by decide +kernel) rfl rfl rfl) ?_
      refine gm_sz (gm_p_load (pc := 38) (i := .aload_n 0) (sr := 2) (j := 0) (by decide +kernel) rfl rfl rfl) ?_
      refine gm_sz (fw_gr (pc := 39) (ix := 97) (ci := 0) (j := 14) (r := 220) (by decide +kernel) (e0k hE (k := 1) (c := 0) (by decide +kernel)) (by decide +kernel) (by decide +kernel) (e0r hE (k := 1) (j := 14) (r := 220) (by decide +kernel))) ?_
      refine gm_sz (gm_p_load (pc := 42) (i := .iload_n 1) (sr := 0) (j := 1) (by decide +kernel) rfl rfl rfl) ?_
      refine gm_sz (gm_p_const (pc := 43) (i := .iconst 0) (v := gm_vi 0) (by decide +kernel) (by decide +kernel)) ?_
      refine gm_c_virt (k := 220) (ci := 2) (mj := 10) (ix := 186) (pc := 44) (as := [gm_vi l, gm_vi 0]) (st := [gm_vr 1]) (d' := d - 1) (bc' := 0) (bs' := 0) (by decide +kernel) (by decide +kernel) (by decide +kernel) (by decide +kernel) (e0k hE (k := 220) (c := 2) (by decide +kernel)).1 (e0k hE (k := 220) (c := 2) (by decide +kernel)).2 (by decide) (by decide +kernel) (show 2 = gm_na 10 by decide +kernel) (fw_c2 fw_si fw_si) (show 3 ≤ gm_ml 10 by decide +kernel) (Nat.le_of_ble_eq_true rfl) (by omega) (Nat.zero_le _) (Nat.zero_le _) ?_
      refine rw_get (s := N 4) (w := 2) (x := o) (e0k hE (k := 220) (c := 2) (by decide +kernel)) (e0a hE (k := 221) (q := ((0 : Nat), (48 : Nat))) (by decide +kernel)) (e0r hE (k := 220) (j := 2) (r := 221) (by decide +kernel)) (by decide) h3 (hT.1 (220, 1, 2) (by decide)) ⟨by omega, by omega⟩ ⟨by omega, by omega⟩ ⟨by omega, by omega⟩ ⟨by omega, by omega⟩ ho ?_
      show gm_Wp X LX d _ _ 66 47 _ [gm_vi o, gm_vr 1] n K _ _ Q
      refine gm_sz (gm_p_load (pc := 47) (i := .aload_n 0) (sr := 2) (j := 0) (by decide +kernel) rfl rfl rfl) ?_
      refine gm_sz (fw_gr (pc := 48) (ix := 23) (ci := 0) (j := 3) (r := 3) (by decide +kernel) (e0k hE (k := 1) (c := 0) (by decide +kernel)) (by decide +kernel) (by decide +kernel) (e0r hE (k := 1) (j := 3) (r := 3) (by decide +kernel))) ?_
      refine gm_sz (fw_gi (pc := 51) (ix := 269) (ci := 1) (j := 6) (x := N 9) (by decide +kernel) (e0k hE (k := 3) (c := 1) (by decide +kernel)) (by decide +kernel) (by decide +kernel) (ti_now hT)) ?_
      refine gm_c_virt (k := 1) (ci := 0) (mj := 67) (ix := 408) (pc := 54) (as := [gm_vi o, gm_vi (N 9)]) (st := []) (d' := d - 1) (bc' := 0) (bs' := 0) (by decide +kernel) (by decide +kernel) (by decide +kernel) (by decide +kernel) (e0k hE (k := 1) (c := 0) (by decide +kernel)).1 (e0k hE (k := 1) (c := 0) (by decide +kernel)).2 (by decide) (by decide +kernel) (show 2 = gm_na 67 by decide +kernel) (fw_c2 fw_si fw_si) (show 3 ≤ gm_ml 67 by decide +kernel) (Nat.le_of_ble_eq_true rfl) (by omega) (Nat.zero_le _) (Nat.zero_le _) ?_
      refine wt_67 ⟨by omega, by omega⟩ ⟨by omega, by omega⟩ (fun u54 => ?_) (fun u54 v54 => ?_) (fun u54 v54 => ?_)
      · show gm_Wp X LX d _ _ 66 57 _ [gm_vi 0] n K _ _ Q
        refine fw_iftd (cc := .eq) (pc := 57) (off := 7) (by decide +kernel) (by decide) ⟨by decide, by decide⟩ (by decide) ?_
        refine gm_sz (gm_p_const (pc := 64) (i := .iconst 0) (v := gm_vi 0) (by decide +kernel) (by decide +kernel)) ?_
        have a9 : ¬ WTS N l o := fun ⟨a1, a2, a3, a4⟩ => by omega
        exact gm_r_int (pc := 65) (by decide +kernel) (Or.inr ⟨(by decide +kernel), Or.inl rfl⟩) (q0 a9)
      · show gm_Wp X LX d _ _ 66 57 _ [gm_vi 0] n K _ _ Q
        refine fw_iftd (cc := .eq) (pc := 57) (off := 7) (by decide +kernel) (by decide) ⟨by decide, by decide⟩ (by decide) ?_
        refine gm_sz (gm_p_const (pc := 64) (i := .iconst 0) (v := gm_vi 0) (by decide +kernel) (by decide +kernel)) ?_
        have a9 : ¬ WTS N l o := fun ⟨a1, a2, a3, a4⟩ => by omega
        exact gm_r_int (pc := 65) (by decide +kernel) (Or.inr ⟨(by decide +kernel), Or.inl rfl⟩) (q0 a9)
      · show gm_Wp X LX d _ _ 66 57 _ [gm_vi 1] n K _ _ Q
        refine fw_iffd (cc := .eq) (pc := 57) (off := 7) (by decide +kernel) (by decide) ⟨by decide, by decide⟩ (by decide) ?_
        refine gm_sz (gm_p_const (pc := 60) (i := .iconst 1) (v := gm_vi 1) (by decide +kernel) (by decide +kernel)) ?_
        refine gm_sz (gm_p_goto (pc := 61) (off := 4) (by decide +kernel) (by decide)) ?_
        have a9 : WTS N l o := ⟨by omega, by omega, by omega, by omega⟩
        exact gm_r_int (pc := 65) (by decide +kernel) (Or.inr ⟨(by decide +kernel), Or.inr rfl⟩) (q1 a9)
end EN6
end
/-! 7a15.c7yr -/
section
/-! THE CLASS: by whom a LETTER is opened, a YEAR more (laid by wip/core/c7.py). -/
/-- the first of u from i on -/
noncomputable def fo (C : Int → Prop) : Nat → Int → Int
  | 0, _ => -1
  | u + 1, i => tif (C i) i (fo C u (i + 1))
theorem fo_b {C : Int → Prop} : ∀ (u : Nat) (i : Int), 0 ≤ i → -1 ≤ fo C u i ∧ fo C u i < i + (u : Int) ∧ (fo C u i = -1 ∨ i ≤ fo C u i) := by
  intro u
  induction u with
  | zero => exact fun i h => ⟨Int.le_refl _, by show (-1 : Int) < _; omega, Or.inl rfl⟩
  | succ u ih =>
    intro i h
    unfold fo
    by_cases hc : C i
    · rw [tif_t hc]
      exact ⟨by omega, by omega, Or.inr (Int.le_refl _)⟩
    · rw [tif_f hc]
      obtain ⟨a, b, c⟩ := ih (i + 1) (by omega)
      exact ⟨a, by omega, by omega⟩
/-- whether one who watches that lane may -/
noncomputable def wop (N : Int → Int) (ψ : Int → Int → Int → Int → Prop) (l dp p : Int) : Prop := (N (95 + (p * 3 + 2))) = (N (119 + (l * 7 + 2))) ∧ ψ p ((N (119 + (l * 7 + 2)))) (N 9 - (N (119 + (l * 7 + 3)))) dp
/-- by whom it is opened (-1: by nobody) -/
noncomputable def opf (N : Int → Int) (ψ : Int → Int → Int → Int → Prop) (l dp : Int) : Int := tif ((N (95 + (((N (119 + (l * 7 + 1)))) * 3 + 2))) = (N (119 + (l * 7 + 2)))) ((N (119 + (l * 7 + 1)))) (fo (wop N ψ l dp) (N 3).toNat 0)
section YR7
variable {X : Int → Int} {LX d bc bs n : Nat} {K : gm_K} {R : gm_R} {M : gm_M} {Q : gm_Q} {l o y p dp : Int} {N h : Int → Int} {sp : Int → Int → Int} {FI : gm_M → Prop} {φ : Int → Int → Int → Int} {ψ : Int → Int → Int → Int → Prop}
theorem op_l (hd : 4 ≤ d) (hE : E0 n K R) (hT : TI N h sp M) (hN : NR N) (hst : FSt FI) (hmo : MOW X LX n K R N h sp FI ψ) (hI : FI M) (h1 : 0 ≤ l ∧ l < N 4) (hr : 0 ≤ (N (119 + (l * 7 + 0)))) (h3 : M 220 3 = N 4) (hdp : M 221 (l * 2 + 1) = dp) (hne : ¬ (N (95 + (((N (119 + (l * 7 + 1)))) * 3 + 2))) = (N (119 + (l * 7 + 2)))) (hq : ∀ M2, fr [((204 : Nat), none)] M M2 → Q (.inl (some (gm_vi (opf N ψ l dp)))) n K R M2) : ∀ (u i : Nat) (M1 : gm_M), (i : Int) + (u : Int) = N 3 → fr [((204 : Nat), none)] M M1 → fo (wop N ψ l dp) (N 3).toNat 0 = fo (wop N ψ l dp) u (i : Int) → gm_Wp X LX d bc bs 163 69 [some (gm_vr 1), some (gm_vi l), some (gm_vi (N (119 + (l * 7 + 2)))), some (gm_vi (N (119 + (l * 7 + 1)))), some (gm_vi (N 9 - N (119 + (l * 7 + 3)))), some (gm_vi (i : Int))] [] n K R M1 Q := by
  obtain ⟨⟨⟨a0, b0⟩, ⟨a1, b1⟩, ⟨a10, b10⟩, ⟨a11, b11⟩, ⟨a12, b12⟩, a9, b9⟩, ⟨⟨a2, b2⟩, ⟨a5, b5⟩, ⟨a3, b3⟩, ⟨a4, b4⟩, ⟨a6, b6⟩, ⟨a14, b14⟩, ⟨a7, b7⟩, a13, b13⟩, rF, rP, rL⟩ := id hN
  obtain ⟨r0, r1, r2, r3, -, -, -, r7⟩ := rL l h1.1 h1.2
  have r8 := r7 hr
  have to9 : 0 ≤ N (119 + (l * 7 + 1)) ∧ N (119 + (l * 7 + 1)) < N 3 := ⟨r8, r1.2⟩
  have ln9 : 0 ≤ N (119 + (l * 7 + 2)) ∧ N (119 + (l * 7 + 2)) < N 0 := r2
  have yr9 : 0 ≤ N (119 + (l * 7 + 3)) ∧ N (119 + (l * 7 + 3)) ≤ N 9 := r3
  have e9 : opf N ψ l dp = fo (wop N ψ l dp) (N 3).toNat 0 := tif_f hne
  rw [e9] at hq
  intro u
  induction u with
  | zero =>
    intro i M1 hi hf he
    have he : fo (wop N ψ l dp) (N 3).toNat 0 = -1 := he
    rw [he] at hq
    refine gm_sz (gm_p_load (pc := 69) (i := .iload 5) (sr := 0) (j := 5) (by decide +kernel) rfl rfl rfl) ?_
    refine gm_sz (gm_p_load (pc := 71) (i := .aload_n 0) (sr := 2) (j := 0) (by decide +kernel) rfl rfl rfl) ?_
    refine gm_sz (fw_gr (pc := 72) (ix := 23) (ci := 0) (j := 3) (r := 3) (by decide +kernel) (e0k hE (k := 1) (c := 0) (by decide +kernel)) (by decide +kernel) (by decide +kernel) (e0r hE (k := 1) (j := 3) (r := 3) (by decide +kernel))) ?_
    refine gm_sz (fw_gr (pc := 75) (ix := 183) (ci := 1) (j := 11) (r := 8) (by decide +kernel) (e0k hE (k := 3) (c := 1) (by decide +kernel)) (by decide +kernel) (by decide +kernel) (e0r hE (k := 3) (j := 11) (r := 8) (by decide +kernel))) ?_
    refine gm_c_virt (k := 8) (ci := 2) (mj := 9) (ix := 277) (pc := 78) (as := []) (st := [gm_vi (i : Int)]) (d' := d - 1) (bc' := 0) (bs' := 0) (by decide +kernel) (by decide +kernel) (by decide +kernel) (by decide +kernel) (e0k hE (k := 8) (c := 2) (by decide +kernel)).1 (e0k hE (k := 8) (c := 2) (by decide +kernel)).2 (by decide) (by decide +kernel) (show 0 = gm_na 9 by decide +kernel) fw_c0 (show 1 ≤ gm_ml 9 by decide +kernel) (Nat.le_of_ble_eq_true rfl) (by omega) (Nat.zero_le _) (Nat.zero_le _) ?_
    refine rw_size (s := N 3) (e0k hE (k := 8) (c := 2) (by decide +kernel)) ((fr_c hf (by decide)).trans (ti_peo hT)) ?_
    show gm_Wp X LX d _ _ 163 81 _ [gm_vi (N 3), gm_vi (i : Int)] n K _ _ Q
    refine fw_ict (cc := .ge) (pc := 81) (off := 53) (by decide +kernel) (by decide) ⟨by omega, by omega⟩ ⟨by omega, by omega⟩ (show (N 3) ≤ (i : Int) by omega) ?_
    refine gm_sz (gm_p_const (pc := 134) (i := .iconst (-1)) (v := gm_vi (-1)) (by decide +kernel) (by decide +kernel)) ?_
    exact gm_r_int (pc := 135) (by decide +kernel) (Or.inl (by decide +kernel)) (hq M1 hf)
  | succ u ih =>
    intro i M1 hi hf he
    obtain ⟨-, -, p2⟩ := rP (i : Int) (by omega) (by omega)
    have p9 : -1 ≤ N (95 + ((i : Int) * 3 + 2)) ∧ N (95 + ((i : Int) * 3 + 2)) < N 0 := p2
    have he : fo (wop N ψ l dp) (N 3).toNat 0 = tif ((wop N ψ l dp) (i : Int)) (i : Int) (fo (wop N ψ l dp) u ((i : Int) + 1)) := he
    refine gm_sz (gm_p_load (pc := 69) (i := .iload 5) (sr := 0) (j := 5) (by decide +kernel) rfl rfl rfl) ?_
    refine gm_sz (gm_p_load (pc := 71) (i := .aload_n 0) (sr := 2) (j := 0) (by decide +kernel) rfl rfl rfl) ?_
    refine gm_sz (fw_gr (pc := 72) (ix := 23) (ci := 0) (j := 3) (r := 3) (by decide +kernel) (e0k hE (k := 1) (c := 0) (by decide +kernel)) (by decide +kernel) (by decide +kernel) (e0r hE (k := 1) (j := 3) (r := 3) (by decide +kernel))) ?_
    refine gm_sz (fw_gr (pc := 75) (ix := 183) (ci := 1) (j := 11) (r := 8) (by decide +kernel) (e0k hE (k := 3) (c := 1) (by decide +kernel)) (by decide +kernel) (by decide +kernel) (e0r hE (k := 3) (j := 11) (r := 8) (by decide +kernel))) ?_
    refine gm_c_virt (k := 8) (ci := 2) (mj := 9) (ix := 277) (pc := 78) (as := []) (st := [gm_vi (i : Int)]) (d' := d - 1) (bc' := 0) (bs' := 0) (by decide +kernel) (by decide +kernel) (by decide +kernel) (by decide +kernel) (e0k hE (k := 8) (c := 2) (by decide +kernel)).1 (e0k hE (k := 8) (c := 2) (by decide +kernel)).2 (by decide) (by decide +kernel) (show 0 = gm_na 9 by decide +kernel) fw_c0 (show 1 ≤ gm_ml 9 by decide +kernel) (Nat.le_of_ble_eq_true rfl) (by omega) (Nat.zero_le _) (Nat.zero_le _) ?_
    refine rw_size (s := N 3) (e0k hE (k := 8) (c := 2) (by decide +kernel)) ((fr_c hf (by decide)).trans (ti_peo hT)) ?_
    show gm_Wp X LX d _ _ 163 81 _ [gm_vi (N 3), gm_vi (i : Int)] n K _ _ Q
    refine fw_icf (cc := .ge) (pc := 81) (off := 53) (by decide +kernel) (by decide) ⟨by omega, by omega⟩ ⟨by omega, by omega⟩ (show ¬ (N 3) ≤ (i : Int) by omega) ?_
    refine gm_sz (gm_p_load (pc := 84) (i := .aload_n 0) (sr := 2) (j := 0) (by decide +kernel) rfl rfl rfl) ?_
    refine gm_sz (fw_gr (pc := 85) (ix := 23) (ci := 0) (j := 3) (r := 3) (by decide +kernel) (e0k hE (k := 1) (c := 0) (by decide +kernel)) (by decide +kernel) (by decide +kernel) (e0r hE (k := 1) (j := 3) (r := 3) (by decide +kernel))) ?_
    refine gm_sz (fw_gr (pc := 88) (ix := 183) (ci := 1) (j := 11) (r := 8) (by decide +kernel) (e0k hE (k := 3) (c := 1) (by decide +kernel)) (by decide +kernel) (by decide +kernel) (e0r hE (k := 3) (j := 11) (r := 8) (by decide +kernel))) ?_
    refine gm_sz (gm_p_load (pc := 91) (i := .iload 5) (sr := 0) (j := 5) (by decide +kernel) rfl rfl rfl) ?_
    refine gm_sz (gm_p_const (pc := 93) (i := .iconst 2) (v := gm_vi 2) (by decide +kernel) (by decide +kernel)) ?_
    refine gm_c_virt (k := 8) (ci := 2) (mj := 10) (ix := 186) (pc := 94) (as := [gm_vi (i : Int), gm_vi 2]) (st := []) (d' := d - 1) (bc' := 0) (bs' := 0) (by decide +kernel) (by decide +kernel) (by decide +kernel) (by decide +kernel) (e0k hE (k := 8) (c := 2) (by decide +kernel)).1 (e0k hE (k := 8) (c := 2) (by decide +kernel)).2 (by decide) (by decide +kernel) (show 2 = gm_na 10 by decide +kernel) (fw_c2 fw_si fw_si) (show 3 ≤ gm_ml 10 by decide +kernel) (Nat.le_of_ble_eq_true rfl) (by omega) (Nat.zero_le _) (Nat.zero_le _) ?_
    refine rw_get (s := N 3) (w := 3) (x := N (95 + ((i : Int) * 3 + 2))) (e0k hE (k := 8) (c := 2) (by decide +kernel)) (e0a hE (k := 9) (q := ((0 : Nat), (24 : Nat))) (by decide +kernel)) (e0r hE (k := 8) (j := 2) (r := 9) (by decide +kernel)) (by decide) ((fr_c hf (by decide)).trans (ti_peo hT)) ((fr_c hf (by decide)).trans (hT.1 (8, 1, 3) (by decide))) ⟨by omega, by omega⟩ ⟨by omega, by omega⟩ ⟨by omega, by omega⟩ ⟨by omega, by omega⟩ ((fr_c hf (by decide)).trans (ti_aP hT (by omega) (by omega))) ?_
    show gm_Wp X LX d _ _ 163 97 _ [gm_vi (N (95 + ((i : Int) * 3 + 2)))] n K _ _ Q
    refine gm_sz (gm_p_load (pc := 97) (i := .iload_n 2) (sr := 0) (j := 2) (by decide +kernel) rfl rfl rfl) ?_
    refine fw_ic (cc := .ne) (pc := 98) (off := 30) (by decide +kernel) (by decide) ⟨by omega, by omega⟩ ⟨by omega, by omega⟩ (fun h98 => ?_) (fun h98 => ?_)
    · have h98 : ¬ (N (95 + ((i : Int) * 3 + 2))) = (N (119 + (l * 7 + 2))) := h98
      refine gm_sz (gm_p_iinc (pc := 128) (j := 5) (z := 1) (by decide +kernel) rfl) ?_
      refine gm_sz (gm_p_goto (pc := 131) (off := (-62)) (by decide +kernel) (by decide)) ?_
      rw [tif_f (show ¬ (wop N ψ l dp) (i : Int) from (fun hh => h98 hh.1))] at he
      exact ih (i + 1) _ (by omega) (fr_t fr_0 hf (by decide)) he
    · have h98 : (N (95 + ((i : Int) * 3 + 2))) = (N (119 + (l * 7 + 2))) := Classical.not_not.mp h98
      refine gm_sz (gm_p_load (pc := 101) (i := .aload_n 0) (sr := 2) (j := 0) (by decide +kernel) rfl rfl rfl) ?_
      refine gm_sz (fw_gr (pc := 102) (ix := 49) (ci := 0) (j := 8) (r := 200) (by decide +kernel) (e0k hE (k := 1) (c := 0) (by decide +kernel)) (by decide +kernel) (by decide +kernel) (e0r hE (k := 1) (j := 8) (r := 200) (by decide +kernel))) ?_
      refine gm_sz (gm_p_load (pc := 105) (i := .iload 5) (sr := 0) (j := 5) (by decide +kernel) rfl rfl rfl) ?_
      refine gm_sz (gm_p_load (pc := 107) (i := .iload_n 2) (sr := 0) (j := 2) (by decide +kernel) rfl rfl rfl) ?_
      refine gm_sz (gm_p_load (pc := 108) (i := .iload 4) (sr := 0) (j := 4) (by decide +kernel) rfl rfl rfl) ?_
      refine gm_sz (gm_p_load (pc := 110) (i := .aload_n 0) (sr := 2) (j := 0) (by decide +kernel) rfl rfl rfl) ?_
      refine gm_sz (fw_gr (pc := 111) (ix := 97) (ci := 0) (j := 14) (r := 220) (by decide +kernel) (e0k hE (k := 1) (c := 0) (by decide +kernel)) (by decide +kernel) (by decide +kernel) (e0r hE (k := 1) (j := 14) (r := 220) (by decide +kernel))) ?_
      refine gm_sz (gm_p_load (pc := 114) (i := .iload_n 1) (sr := 0) (j := 1) (by decide +kernel) rfl rfl rfl) ?_
      refine gm_sz (gm_p_const (pc := 115) (i := .iconst 1) (v := gm_vi 1) (by decide +kernel) (by decide +kernel)) ?_
      refine gm_c_virt (k := 220) (ci := 2) (mj := 10) (ix := 186) (pc := 116) (as := [gm_vi l, gm_vi 1]) (st := [gm_vi (N 9 - N (119 + (l * 7 + 3))), gm_vi (N (119 + (l * 7 + 2))), gm_vi (i : Int), gm_vr 200]) (d' := d - 1) (bc' := 0) (bs' := 0) (by decide +kernel) (by decide +kernel) (by decide +kernel) (by decide +kernel) (e0k hE (k := 220) (c := 2) (by decide +kernel)).1 (e0k hE (k := 220) (c := 2) (by decide +kernel)).2 (by decide) (by decide +kernel) (show 2 = gm_na 10 by decide +kernel) (fw_c2 fw_si fw_si) (show 3 ≤ gm_ml 10 by decide +kernel) (Nat.le_of_ble_eq_true rfl) (by omega) (Nat.zero_le _) (Nat.zero_le _) ?_
      refine rw_get (s := N 4) (w := 2) (x := dp) (e0k hE (k := 220) (c := 2) (by decide +kernel)) (e0a hE (k := 221) (q := ((0 : Nat), (48 : Nat))) (by decide +kernel)) (e0r hE (k := 220) (j := 2) (r := 221) (by decide +kernel)) (by decide) ((fr_c hf (by decide)).trans h3) ((fr_c hf (by decide)).trans (hT.1 (220, 1, 2) (by decide))) ⟨by omega, by omega⟩ ⟨by omega, by omega⟩ ⟨by omega, by omega⟩ ⟨by omega, by omega⟩ ((fr_c hf (by decide)).trans hdp) ?_
      show gm_Wp X LX d _ _ 163 119 _ [gm_vi dp, gm_vi (N 9 - N (119 + (l * 7 + 3))), gm_vi (N (119 + (l * 7 + 2))), gm_vi (i : Int), gm_vr 200] n K _ _ Q
      refine gm_c_virt (k := 200) (ci := 4) (mj := 164) (ix := 283) (pc := 119) (as := [gm_vi (i : Int), gm_vi (N (119 + (l * 7 + 2))), gm_vi (N 9 - N (119 + (l * 7 + 3))), gm_vi dp]) (st := []) (d' := d - 1) (bc' := 0) (bs' := 0) (by decide +kernel) (by decide +kernel) (by decide +kernel) (by decide +kernel) (e0k hE (k := 200) (c := 4) (by decide +kernel)).1 (e0k hE (k := 200) (c := 4) (by decide +kernel)).2 (by decide) (by decide +kernel) (show 4 = gm_na 164 by decide +kernel) (fw_c4 fw_si fw_si fw_si fw_si) (show 5 ≤ gm_ml 164 by decide +kernel) (Nat.le_of_ble_eq_true rfl) (by omega) (Nat.zero_le _) (Nat.zero_le _) ?_
      refine hmo _ _ _ _ _ (i : Int) (N (119 + (l * 7 + 2))) (N 9 - N (119 + (l * 7 + 3))) dp (by omega) ⟨by omega, by omega⟩ (ti_fr (W := [((204 : Nat), none)]) hT (fr_t fr_0 hf (by decide)) (by decide) (by decide +kernel)) (hst [(204, none)] _ _ (by decide) (fr_t fr_0 hf (by decide)) hI) (fun v119 M119 hf119 => ?_) (fun v119 M119 hf119 => ?_)
      · show gm_Wp X LX d _ _ 163 122 _ [gm_vi 1] n K _ _ Q
        refine fw_iffd (cc := .eq) (pc := 122) (off := 6) (by decide +kernel) (by decide) ⟨by decide, by decide⟩ (by decide) ?_
        refine gm_sz (gm_p_load (pc := 125) (i := .iload 5) (sr := 0) (j := 5) (by decide +kernel) rfl rfl rfl) ?_
        rw [tif_t (show (wop N ψ l dp) (i : Int) from ⟨h98, v119⟩)] at he
        rw [he] at hq
        exact gm_r_int (pc := 127) (by decide +kernel) (Or.inl (by decide +kernel)) (hq _ (fr_t (fr_t fr_0 hf (by decide)) hf119 (by decide)))
      · show gm_Wp X LX d _ _ 163 122 _ [gm_vi 0] n K _ _ Q
        refine fw_iftd (cc := .eq) (pc := 122) (off := 6) (by decide +kernel) (by decide) ⟨by decide, by decide⟩ (by decide) ?_
        refine gm_sz (gm_p_iinc (pc := 128) (j := 5) (z := 1) (by decide +kernel) rfl) ?_
        refine gm_sz (gm_p_goto (pc := 131) (off := (-62)) (by decide +kernel) (by decide)) ?_
        rw [tif_f (show ¬ (wop N ψ l dp) (i : Int) from (fun hh => v119 hh.2))] at he
        exact ih (i + 1) _ (by omega) (fr_t (fr_t fr_0 hf (by decide)) hf119 (by decide)) he
theorem op_c163 (hd : 4 ≤ d) (hE : E0 n K R) (hT : TI N h sp M) (hN : NR N) (hst : FSt FI) (hmo : MOW X LX n K R N h sp FI ψ) (hI : FI M) (h1 : 0 ≤ l ∧ l < N 4) (hr : 0 ≤ (N (119 + (l * 7 + 0)))) (h3 : M 220 3 = N 4) (hdp : M 221 (l * 2 + 1) = dp) (hq : ∀ M2, fr [((204 : Nat), none)] M M2 → Q (.inl (some (gm_vi (opf N ψ l dp)))) n K R M2) : gm_Wp X LX d bc bs 163 0 (gm_ent 163 [gm_vr 1, gm_vi l]) [] n K R M Q := by
  obtain ⟨⟨⟨a0, b0⟩, ⟨a1, b1⟩, ⟨a10, b10⟩, ⟨a11, b11⟩, ⟨a12, b12⟩, a9, b9⟩, ⟨⟨a2, b2⟩, ⟨a5, b5⟩, ⟨a3, b3⟩, ⟨a4, b4⟩, ⟨a6, b6⟩, ⟨a14, b14⟩, ⟨a7, b7⟩, a13, b13⟩, rF, rP, rL⟩ := id hN
  obtain ⟨r0, r1, r2, r3, -, -, -, r7⟩ := rL l h1.1 h1.2
  have r8 := r7 hr
  have to9 : 0 ≤ N (119 + (l * 7 + 1)) ∧ N (119 + (l * 7 + 1)) < N 3 := ⟨r8, r1.2⟩
  have ln9 : 0 ≤ N (119 + (l * 7 + 2)) ∧ N (119 + (l * 7 + 2)) < N 0 := r2
  have yr9 : 0 ≤ N (119 + (l * 7 + 3)) ∧ N (119 + (l * 7 + 3)) ≤ N 9 := r3
  obtain ⟨-, -, p2⟩ := rP _ to9.1 to9.2
  have p9 : -1 ≤ N (95 + (N (119 + (l * 7 + 1)) * 3 + 2)) ∧ N (95 + (N (119 + (l * 7 + 1)) * 3 + 2)) < N 0 := p2
  refine gm_sz (gm_p_load (pc := 0) (i := .aload_n 0) (sr := 2) (j := 0) (by decide +kernel) rfl rfl rfl) ?_
  refine gm_sz (fw_gr (pc := 1) (ix := 23) (ci := 0) (j := 3) (r := 3) (by decide +kernel) (e0k hE (k := 1) (c := 0) (by decide +kernel)) (by decide +kernel) (by decide +kernel) (e0r hE (k := 1) (j := 3) (r := 3) (by decide +kernel))) ?_
  refine gm_sz (fw_gr (pc := 4) (ix := 203) (ci := 1) (j := 12) (r := 10) (by decide +kernel) (e0k hE (k := 3) (c := 1) (by decide +kernel)) (by decide +kernel) (by decide +kernel) (e0r hE (k := 3) (j := 12) (r := 10) (by decide +kernel))) ?_
  refine gm_sz (gm_p_load (pc := 7) (i := .iload_n 1) (sr := 0) (j := 1) (by decide +kernel) rfl rfl rfl) ?_
  refine gm_sz (gm_p_const (pc := 8) (i := .iconst 2) (v := gm_vi 2) (by decide +kernel) (by decide +kernel)) ?_
  refine gm_c_virt (k := 10) (ci := 2) (mj := 10) (ix := 186) (pc := 9) (as := [gm_vi l, gm_vi 2]) (st := []) (d' := d - 1) (bc' := 0) (bs' := 0) (by decide +kernel) (by decide +kernel) (by decide +kernel) (by decide +kernel) (e0k hE (k := 10) (c := 2) (by decide +kernel)).1 (e0k hE (k := 10) (c := 2) (by decide +kernel)).2 (by decide) (by decide +kernel) (show 2 = gm_na 10 by decide +kernel) (fw_c2 fw_si fw_si) (show 3 ≤ gm_ml 10 by decide +kernel) (Nat.le_of_ble_eq_true rfl) (by omega) (Nat.zero_le _) (Nat.zero_le _) ?_
  refine rw_get (s := N 4) (w := 7) (x := N (119 + (l * 7 + 2))) (e0k hE (k := 10) (c := 2) (by decide +kernel)) (e0a hE (k := 11) (q := ((0 : Nat), (168 : Nat))) (by decide +kernel)) (e0r hE (k := 10) (j := 2) (r := 11) (by decide +kernel)) (by decide) (ti_let hT) (hT.1 (10, 1, 7) (by decide)) ⟨by omega, by omega⟩ ⟨by omega, by omega⟩ ⟨by omega, by omega⟩ ⟨by omega, by omega⟩ (ti_aL hT (by omega) (by omega)) ?_
  show gm_Wp X LX d _ _ 163 12 _ [gm_vi (N (119 + (l * 7 + 2)))] n K _ _ Q
  refine gm_sz (gm_p_stor (pc := 12) (i := .istore_n 2) (sr := 0) (j := 2) (by decide +kernel) rfl (show 3 ≤ _ from Nat.le_of_ble_eq_true rfl) rfl) ?_
  refine gm_sz (gm_p_load (pc := 13) (i := .aload_n 0) (sr := 2) (j := 0) (by decide +kernel) rfl rfl rfl) ?_
  refine gm_sz (fw_gr (pc := 14) (ix := 23) (ci := 0) (j := 3) (r := 3) (by decide +kernel) (e0k hE (k := 1) (c := 0) (by decide +kernel)) (by decide +kernel) (by decide +kernel) (e0r hE (k := 1) (j := 3) (r := 3) (by decide +kernel))) ?_
  refine gm_sz (fw_gr (pc := 17) (ix := 203) (ci := 1) (j := 12) (r := 10) (by decide +kernel) (e0k hE (k := 3) (c := 1) (by decide +kernel)) (by decide +kernel) (by decide +kernel) (e0r hE (k := 3) (j := 12) (r := 10) (by decide +kernel))) ?_
  refine gm_sz (gm_p_load (pc := 20) (i := .iload_n 1) (sr := 0) (j := 1) (by decide +kernel) rfl rfl rfl) ?_
  refine gm_sz (gm_p_const (pc := 21) (i := .iconst 1) (v := gm_vi 1) (by decide +kernel) (by decide +kernel)) ?_
  refine gm_c_virt (k := 10) (ci := 2) (mj := 10) (ix := 186) (pc := 22) (as := [gm_vi l, gm_vi 1]) (st := []) (d' := d - 1) (bc' := 0) (bs' := 0) (by decide +kernel) (by decide +kernel) (by decide +kernel) (by decide +kernel) (e0k hE (k := 10) (c := 2) (by decide +kernel)).1 (e0k hE (k := 10) (c := 2) (by decide +kernel)).2 (by decide) (by decide +kernel) (show 2 = gm_na 10 by decide +kernel) (fw_c2 fw_si fw_si) (show 3 ≤ gm_ml 10 by decide +kernel) (Nat.le_of_ble_eq_true rfl) (by omega) (Nat.zero_le _) (Nat.zero_le _) ?_
  refine rw_get (s := N 4) (w := 7) (x := N (119 + (l * 7 + 1))) (e0k hE (k := 10) (c := 2) (by decide +kernel)) (e0a hE (k := 11) (q := ((0 : Nat), (168 : Nat))) (by decide +kernel)) (e0r hE (k := 10) (j := 2) (r := 11) (by decide +kernel)) (by decide) (ti_let hT) (hT.1 (10, 1, 7) (by decide)) ⟨by omega, by omega⟩ ⟨by omega, by omega⟩ ⟨by omega, by omega⟩ ⟨by omega, by omega⟩ (ti_aL hT (by omega) (by omega)) ?_
  show gm_Wp X LX d _ _ 163 25 _ [gm_vi (N (119 + (l * 7 + 1)))] n K _ _ Q
  refine gm_sz (gm_p_stor (pc := 25) (i := .istore_n 3) (sr := 0) (j := 3) (by decide +kernel) rfl (show 4 ≤ _ from Nat.le_of_ble_eq_true rfl) rfl) ?_
  refine gm_sz (gm_p_load (pc := 26) (i := .aload_n 0) (sr := 2) (j := 0) (by decide +kernel) rfl rfl rfl) ?_
  refine gm_sz (fw_gr (pc := 27) (ix := 23) (ci := 0) (j := 3) (r := 3) (by decide +kernel) (e0k hE (k := 1) (c := 0) (by decide +kernel)) (by decide +kernel) (by decide +kernel) (e0r hE (k := 1) (j := 3) (r := 3) (by decide +kernel))) ?_
  refine gm_sz (fw_gr (pc := 30) (ix := 183) (ci := 1) (j := 11) (r := 8) (by decide +kernel) (e0k hE (k := 3) (c := 1) (by decide +kernel)) (by decide +kernel) (by decide +kernel) (e0r hE (k := 3) (j := 11) (r := 8) (by decide +kernel))) ?_
  refine gm_sz (gm_p_load (pc := 33) (i := .iload_n 3) (sr := 0) (j := 3) (by decide +kernel) rfl rfl rfl) ?_
  refine gm_sz (gm_p_const (pc := 34) (i := .iconst 2) (v := gm_vi 2) (by decide +kernel) (by decide +kernel)) ?_
  refine gm_c_virt (k := 8) (ci := 2) (mj := 10) (ix := 186) (pc := 35) (as := [gm_vi (N (119 + (l * 7 + 1))), gm_vi 2]) (st := []) (d' := d - 1) (bc' := 0) (bs' := 0) (by decide +kernel) (by decide +kernel) (by decide +kernel) (by decide +kernel) (e0k hE (k := 8) (c := 2) (by decide +kernel)).1 (e0k hE (k := 8) (c := 2) (by decide +kernel)).2 (by decide) (by decide +kernel) (show 2 = gm_na 10 by decide +kernel) (fw_c2 fw_si fw_si) (show 3 ≤ gm_ml 10 by decide +kernel) (Nat.le_of_ble_eq_true rfl) (by omega) (Nat.zero_le _) (Nat.zero_le _) ?_
  refine rw_get (s := N 3) (w := 3) (x := N (95 + ((N (119 + (l * 7 + 1))) * 3 + 2))) (e0k hE (k := 8) (c := 2) (by decide +kernel)) (e0a hE (k := 9) (q := ((0 : Nat), (24 : Nat))) (by decide +kernel)) (e0r hE (k := 8) (j := 2) (r := 9) (by decide +kernel)) (by decide) (ti_peo hT) (hT.1 (8, 1, 3) (by decide)) ⟨by omega, by omega⟩ ⟨by omega, by omega⟩ ⟨by omega, by omega⟩ ⟨by omega, by omega⟩ (ti_aP hT (by omega) (by omega)) ?_
  show gm_Wp X LX d _ _ 163 38 _ [gm_vi (N (95 + ((N (119 + (l * 7 + 1))) * 3 + 2)))] n K _ _ Q
  refine gm_sz (gm_p_load (pc := 38) (i := .iload_n 2) (sr := 0) (j := 2) (by decide +kernel) rfl rfl rfl) ?_
  refine fw_ic (cc := .ne) (pc := 39) (off := 5) (by decide +kernel) (by decide) ⟨by omega, by omega⟩ ⟨by omega, by omega⟩ (fun h39 => ?_) (fun h39 => ?_)
  · have h39 : ¬ (N (95 + ((N (119 + (l * 7 + 1))) * 3 + 2))) = (N (119 + (l * 7 + 2))) := h39
    refine gm_sz (gm_p_load (pc := 44) (i := .aload_n 0) (sr := 2) (j := 0) (by decide +kernel) rfl rfl rfl) ?_
    refine gm_sz (fw_gr (pc := 45) (ix := 23) (ci := 0) (j := 3) (r := 3) (by decide +kernel) (e0k hE (k := 1) (c := 0) (by decide +kernel)) (by decide +kernel) (by decide +kernel) (e0r hE (k := 1) (j := 3) (r := 3) (by decide +kernel))) ?_
    refine gm_sz (fw_gi (pc := 48) (ix := 269) (ci := 1) (j := 6) (x := N 9) (by decide +kernel) (e0k hE (k := 3) (c := 1) (by decide +kernel)) (by decide +kernel) (by decide +kernel) (ti_now hT)) ?_
    refine gm_sz (gm_p_load (pc := 51) (i := .aload_n 0) (sr := 2) (j := 0) (by decide +kernel) rfl rfl rfl) ?_
    refine gm_sz (fw_gr (pc := 52) (ix := 23) (ci := 0) (j := 3) (r := 3) (by decide +kernel) (e0k hE (k := 1) (c := 0) (by decide +kernel)) (by decide +kernel) (by decide +kernel) (e0r hE (k := 1) (j := 3) (r := 3) (by decide +kernel))) ?_
    refine gm_sz (fw_gr (pc := 55) (ix := 203) (ci := 1) (j := 12) (r := 10) (by decide +kernel) (e0k hE (k := 3) (c := 1) (by decide +kernel)) (by decide +kernel) (by decide +kernel) (e0r hE (k := 3) (j := 12) (r := 10) (by decide +kernel))) ?_
    refine gm_sz (gm_p_load (pc := 58) (i := .iload_n 1) (sr := 0) (j := 1) (by decide +kernel) rfl rfl rfl) ?_
    refine gm_sz (gm_p_const (pc := 59) (i := .iconst 3) (v := gm_vi 3) (by decide +kernel) (by decide +kernel)) ?_
    refine gm_c_virt (k := 10) (ci := 2) (mj := 10) (ix := 186) (pc := 60) (as := [gm_vi l, gm_vi 3]) (st := [gm_vi (N 9)]) (d' := d - 1) (bc' := 0) (bs' := 0) (by decide +kernel) (by decide +kernel) (by decide +kernel) (by decide +kernel) (e0k hE (k := 10) (c := 2) (by decide +kernel)).1 (e0k hE (k := 10) (c := 2) (by decide +kernel)).2 (by decide) (by decide +kernel) (show 2 = gm_na 10 by decide +kernel) (fw_c2 fw_si fw_si) (show 3 ≤ gm_ml 10 by decide +kernel) (Nat.le_of_ble_eq_true rfl) (by omega) (Nat.zero_le _) (Nat.zero_le _) ?_
    refine rw_get (s := N 4) (w := 7) (x := N (119 + (l * 7 + 3))) (e0k hE (k := 10) (c := 2) (by decide +kernel)) (e0a hE (k := 11) (q := ((0 : Nat), (168 : Nat))) (by decide +kernel)) (e0r hE (k := 10) (j := 2) (r := 11) (by decide +kernel)) (by decide) (ti_let hT) (hT.1 (10, 1, 7) (by decide)) ⟨by omega, by omega⟩ ⟨by omega, by omega⟩ ⟨by omega, by omega⟩ ⟨by omega, by omega⟩ (ti_aL hT (by omega) (by omega)) ?_
    show gm_Wp X LX d _ _ 163 63 _ [gm_vi (N (119 + (l * 7 + 3))), gm_vi (N 9)] n K _ _ Q
    refine gm_sz (gm_p_bin (pc := 63) (i := .isub) (f := fun x y => x - y) (by decide +kernel) rfl) ?_
    refine gm_sz (gm_p_stor (pc := 64) (i := .istore 4) (sr := 0) (j := 4) (by decide +kernel) rfl (show 5 ≤ _ from Nat.le_of_ble_eq_true rfl) rfl) ?_
    refine gm_sz (gm_p_const (pc := 66) (i := .iconst 0) (v := gm_vi 0) (by decide +kernel) (by decide +kernel)) ?_
    refine gm_sz (gm_p_stor (pc := 67) (i := .istore 5) (sr := 0) (j := 5) (by decide +kernel) rfl (show 6 ≤ _ from Nat.le_of_ble_eq_true rfl) rfl) ?_
    exact op_l hd hE hT hN hst hmo hI h1 hr h3 hdp h39 hq (N 3).toNat 0 M (by omega) fr_0 rfl
  · have h39 : (N (95 + ((N (119 + (l * 7 + 1))) * 3 + 2))) = (N (119 + (l * 7 + 2))) := Classical.not_not.mp h39
    refine gm_sz (gm_p_load (pc := 42) (i := .iload_n 3) (sr := 0) (j := 3) (by decide +kernel) rfl rfl rfl) ?_
    have e9 : opf N ψ l dp = N (119 + (l * 7 + 1)) := tif_t h39
    rw [e9] at hq
    exact gm_r_int (pc := 43) (by decide +kernel) (Or.inl (by decide +kernel)) (hq M fr_0)
end YR7
end
/-! 7a16.r3op -/
section
/-! THE REFERENCE: who waits, by whom it is opened (laid by wip/core/r3.py). -/
/-- may open, as the reference has it -/
noncomputable def rpsi (N h : Int → Int) (H : (Int → Int) → Int → Prop) (G : Int → Int) (m : Int) (person lane age deep : Int) : Prop := 0 < rsum H (fcts N h lane (N 1) (N 9) 0 person age deep) G 2 m.toNat
section RO3
variable {X : Int → Int} {LX d bc bs n : Nat} {K : gm_K} {R : gm_R} {M M2 : gm_M} {Q : gm_Q} {l o dp p m : Int} {N h G : Int → Int} {H : (Int → Int) → Int → Prop} {FI : gm_M → Prop} {φ : Int → Int → Int → Int} {ψ : Int → Int → Int → Int → Prop}
/-- mayOpen of the reference, by what it answers -/
noncomputable def MOR (X : Int → Int) (LX n : Nat) (K : gm_K) (R : gm_R) (N h : Int → Int) (FI : gm_M → Prop) (ψ : Int → Int → Int → Int → Prop) : Prop := ∀ (d bc bs : Nat) (M : gm_M) (Q : gm_Q) (person l dp : Int), 5 ≤ d → 0 ≤ l ∧ l < N 4 → TR N h M → FI M → (0 ≤ M 226 29 ∧ M 226 29 < 300) → M 237 (M 226 29) = dp → (ψ person ((N (119 + (l * 7 + 2)))) (N 9 - (N (119 + (l * 7 + 3)))) dp → ∀ M2, fr [((226 : Nat), some (17 : Int)), ((226 : Nat), some (18 : Int)), ((226 : Nat), some (19 : Int)), ((226 : Nat), some (20 : Int)), ((226 : Nat), some (21 : Int)), ((226 : Nat), some (22 : Int)), ((226 : Nat), some (23 : Int)), ((233 : Nat), none)] M M2 → Q (.inl (some (gm_vi 1))) n K R M2) → (¬ ψ person ((N (119 + (l * 7 + 2)))) (N 9 - (N (119 + (l * 7 + 3)))) dp → ∀ M2, fr [((226 : Nat), some (17 : Int)), ((226 : Nat), some (18 : Int)), ((226 : Nat), some (19 : Int)), ((226 : Nat), some (20 : Int)), ((226 : Nat), some (21 : Int)), ((226 : Nat), some (22 : Int)), ((226 : Nat), some (23 : Int)), ((233 : Nat), none)] M M2 → Q (.inl (some (gm_vi 0))) n K R M2) → gm_Wp X LX d bc bs 323 0 (gm_ent 323 [gm_vr 226, gm_vi person, gm_vi l]) [] n K R M Q
theorem re_mor (hE : E0 n K R) (hN : NR N) (hL : LG G m) (hH : HHL H G m) : MOR X LX n K R N h (fun M => ∀ j, (395 ≤ j ∨ j = 8) → M 227 j = G j) (rpsi N h H G m) := by
  intro d bc bs M Q person l dp hd h1 hT hG ho hdp q1 q0
  obtain ⟨⟨⟨a0, b0⟩, ⟨a1, b1⟩, ⟨a10, b10⟩, ⟨a11, b11⟩, ⟨a12, b12⟩, a9, b9⟩, ⟨⟨a2, b2⟩, ⟨a5, b5⟩, ⟨a3, b3⟩, ⟨a4, b4⟩, ⟨a6, b6⟩, ⟨a14, b14⟩, ⟨a7, b7⟩, a13, b13⟩, rF, rP, rL⟩ := id hN
  obtain ⟨-, -, r2, r3, -⟩ := rL l h1.1 h1.2
  have ln9 : 0 ≤ N (119 + (l * 7 + 2)) ∧ N (119 + (l * 7 + 2)) < N 0 := r2
  have yr9 : 0 ≤ N (119 + (l * 7 + 3)) ∧ N (119 + (l * 7 + 3)) ≤ N 9 := r3
  obtain ⟨m0, m1⟩ := hL.1.2.2
  refine gm_sz (gm_p_load (pc := 0) (i := .aload_n 0) (sr := 2) (j := 0) (by decide +kernel) rfl rfl rfl) ?_
  refine gm_sz (gm_p_load (pc := 1) (i := .aload_n 0) (sr := 2) (j := 0) (by decide +kernel) rfl rfl rfl) ?_
  refine gm_sz (gm_p_load (pc := 2) (i := .iload_n 2) (sr := 0) (j := 2) (by decide +kernel) rfl rfl rfl) ?_
  refine gm_sz (gm_p_const (pc := 3) (i := .iconst 2) (v := gm_vi 2) (by decide +kernel) (by decide +kernel)) ?_
  refine gm_c_virt (k := 226) (ci := 11) (mj := 301) (ix := 82) (pc := 4) (as := [gm_vi l, gm_vi 2]) (st := [gm_vr 226]) (d' := d - 1) (bc' := 0) (bs' := 0) (by decide +kernel) (by decide +kernel) (by decide +kernel) (by decide +kernel) (e0k hE (k := 226) (c := 11) (by decide +kernel)).1 (e0k hE (k := 226) (c := 11) (by decide +kernel)).2 (by decide) (by decide +kernel) (show 2 = gm_na 301 by decide +kernel) (fw_c2 fw_si fw_si) (show 3 ≤ gm_ml 301 by decide +kernel) (Nat.le_of_ble_eq_true rfl) (by omega) (Nat.zero_le _) (Nat.zero_le _) ?_
  refine re_ol hE hT hN ⟨by omega, by omega⟩ ⟨by omega, by omega⟩ ?_
  show gm_Wp X LX d _ _ 323 7 _ [gm_vi (N (119 + (l * 7 + 2))), gm_vr 226] n K _ _ Q
  refine gm_sz (fw_pi (pc := 7) (ix := 303) (ci := 11) (j := 17) (M' := gm_uM M 226 17 (N (119 + (l * 7 + 2)))) (by decide +kernel) (e0k hE (k := 226) (c := 11) (by decide +kernel)) (by decide +kernel) (by decide +kernel) (by decide +kernel) rfl) ?_
  refine gm_sz (gm_p_load (pc := 10) (i := .aload_n 0) (sr := 2) (j := 0) (by decide +kernel) rfl rfl rfl) ?_
  refine gm_sz (gm_p_load (pc := 11) (i := .aload_n 0) (sr := 2) (j := 0) (by decide +kernel) rfl rfl rfl) ?_
  refine gm_c_virt (k := 226) (ci := 11) (mj := 259) (ix := 94) (pc := 12) (as := []) (st := [gm_vr 226]) (d' := d - 1) (bc' := 0) (bs' := 0) (by decide +kernel) (by decide +kernel) (by decide +kernel) (by decide +kernel) (e0k hE (k := 226) (c := 11) (by decide +kernel)).1 (e0k hE (k := 226) (c := 11) (by decide +kernel)).2 (by decide) (by decide +kernel) (show 0 = gm_na 259 by decide +kernel) fw_c0 (show 1 ≤ gm_ml 259 by decide +kernel) (Nat.le_of_ble_eq_true rfl) (by omega) (Nat.zero_le _) (Nat.zero_le _) ?_
  refine re_lip hE (tr_fr (W := [((226 : Nat), some (17 : Int))]) hT (fr_p fr_0 (Or.inr (by decide))) (by decide)) hN ?_
  show gm_Wp X LX d _ _ 323 15 _ [gm_vi (N 1), gm_vr 226] n K _ _ Q
  refine gm_sz (fw_pi (pc := 15) (ix := 306) (ci := 11) (j := 18) (M' := gm_uM (gm_uM M 226 17 (N (119 + (l * 7 + 2)))) 226 18 (N 1)) (by decide +kernel) (e0k hE (k := 226) (c := 11) (by decide +kernel)) (by decide +kernel) (by decide +kernel) (by decide +kernel) rfl) ?_
  refine gm_sz (gm_p_load (pc := 18) (i := .aload_n 0) (sr := 2) (j := 0) (by decide +kernel) rfl rfl rfl) ?_
  refine gm_sz (gm_p_load (pc := 19) (i := .aload_n 0) (sr := 2) (j := 0) (by decide +kernel) rfl rfl rfl) ?_
  refine gm_c_virt (k := 226) (ci := 11) (mj := 266) (ix := 162) (pc := 20) (as := []) (st := [gm_vr 226]) (d' := d - 1) (bc' := 0) (bs' := 0) (by decide +kernel) (by decide +kernel) (by decide +kernel) (by decide +kernel) (e0k hE (k := 226) (c := 11) (by decide +kernel)).1 (e0k hE (k := 226) (c := 11) (by decide +kernel)).2 (by decide) (by decide +kernel) (show 0 = gm_na 266 by decide +kernel) fw_c0 (show 1 ≤ gm_ml 266 by decide +kernel) (Nat.le_of_ble_eq_true rfl) (by omega) (Nat.zero_le _) (Nat.zero_le _) ?_
  refine re_now hE (tr_fr (W := [((226 : Nat), some (17 : Int)), ((226 : Nat), some (18 : Int))]) hT (fr_p (fr_p fr_0 (Or.inr (by decide))) (Or.inr (by decide))) (by decide)) hN ?_
  show gm_Wp X LX d _ _ 323 23 _ [gm_vi (N 9), gm_vr 226] n K _ _ Q
  refine gm_sz (fw_pi (pc := 23) (ix := 309) (ci := 11) (j := 19) (M' := gm_uM (gm_uM (gm_uM M 226 17 (N (119 + (l * 7 + 2)))) 226 18 (N 1)) 226 19 (N 9)) (by decide +kernel) (e0k hE (k := 226) (c := 11) (by decide +kernel)) (by decide +kernel) (by decide +kernel) (by decide +kernel) rfl) ?_
  refine gm_sz (gm_p_load (pc := 26) (i := .aload_n 0) (sr := 2) (j := 0) (by decide +kernel) rfl rfl rfl) ?_
  refine gm_sz (gm_p_const (pc := 27) (i := .iconst 0) (v := gm_vi 0) (by decide +kernel) (by decide +kernel)) ?_
  refine gm_sz (fw_pi (pc := 28) (ix := 312) (ci := 11) (j := 20) (M' := gm_uM (gm_uM (gm_uM (gm_uM M 226 17 (N (119 + (l * 7 + 2)))) 226 18 (N 1)) 226 19 (N 9)) 226 20 0) (by decide +kernel) (e0k hE (k := 226) (c := 11) (by decide +kernel)) (by decide +kernel) (by decide +kernel) (by decide +kernel) rfl) ?_
  refine gm_sz (gm_p_load (pc := 31) (i := .aload_n 0) (sr := 2) (j := 0) (by decide +kernel) rfl rfl rfl) ?_
  refine gm_sz (gm_p_load (pc := 32) (i := .iload_n 1) (sr := 0) (j := 1) (by decide +kernel) rfl rfl rfl) ?_
  refine gm_sz (fw_pi (pc := 33) (ix := 315) (ci := 11) (j := 21) (M' := gm_uM (gm_uM (gm_uM (gm_uM (gm_uM M 226 17 (N (119 + (l * 7 + 2)))) 226 18 (N 1)) 226 19 (N 9)) 226 20 0) 226 21 person) (by decide +kernel) (e0k hE (k := 226) (c := 11) (by decide +kernel)) (by decide +kernel) (by decide +kernel) (by decide +kernel) rfl) ?_
  refine gm_sz (gm_p_load (pc := 36) (i := .aload_n 0) (sr := 2) (j := 0) (by decide +kernel) rfl rfl rfl) ?_
  refine gm_sz (gm_p_load (pc := 37) (i := .aload_n 0) (sr := 2) (j := 0) (by decide +kernel) rfl rfl rfl) ?_
  refine gm_c_virt (k := 226) (ci := 11) (mj := 266) (ix := 162) (pc := 38) (as := []) (st := [gm_vr 226]) (d' := d - 1) (bc' := 0) (bs' := 0) (by decide +kernel) (by decide +kernel) (by decide +kernel) (by decide +kernel) (e0k hE (k := 226) (c := 11) (by decide +kernel)).1 (e0k hE (k := 226) (c := 11) (by decide +kernel)).2 (by decide) (by decide +kernel) (show 0 = gm_na 266 by decide +kernel) fw_c0 (show 1 ≤ gm_ml 266 by decide +kernel) (Nat.le_of_ble_eq_true rfl) (by omega) (Nat.zero_le _) (Nat.zero_le _) ?_
  refine re_now hE (tr_fr (W := [((226 : Nat), some (17 : Int)), ((226 : Nat), some (18 : Int)), ((226 : Nat), some (19 : Int)), ((226 : Nat), some (20 : Int)), ((226 : Nat), some (21 : Int))]) hT (fr_p (fr_p (fr_p (fr_p (fr_p fr_0 (Or.inr (by decide))) (Or.inr (by decide))) (Or.inr (by decide))) (Or.inr (by decide))) (Or.inr (by decide))) (by decide)) hN ?_
  show gm_Wp X LX d _ _ 323 41 _ [gm_vi (N 9), gm_vr 226] n K _ _ Q
  refine gm_sz (gm_p_load (pc := 41) (i := .aload_n 0) (sr := 2) (j := 0) (by decide +kernel) rfl rfl rfl) ?_
  refine gm_sz (gm_p_load (pc := 42) (i := .iload_n 2) (sr := 0) (j := 2) (by decide +kernel) rfl rfl rfl) ?_
  refine gm_sz (gm_p_const (pc := 43) (i := .iconst 3) (v := gm_vi 3) (by decide +kernel) (by decide +kernel)) ?_
  refine gm_c_virt (k := 226) (ci := 11) (mj := 301) (ix := 82) (pc := 44) (as := [gm_vi l, gm_vi 3]) (st := [gm_vi (N 9), gm_vr 226]) (d' := d - 1) (bc' := 0) (bs' := 0) (by decide +kernel) (by decide +kernel) (by decide +kernel) (by decide +kernel) (e0k hE (k := 226) (c := 11) (by decide +kernel)).1 (e0k hE (k := 226) (c := 11) (by decide +kernel)).2 (by decide) (by decide +kernel) (show 2 = gm_na 301 by decide +kernel) (fw_c2 fw_si fw_si) (show 3 ≤ gm_ml 301 by decide +kernel) (Nat.le_of_ble_eq_true rfl) (by omega) (Nat.zero_le _) (Nat.zero_le _) ?_
  refine re_ol hE (tr_fr (W := [((226 : Nat), some (17 : Int)), ((226 : Nat), some (18 : Int)), ((226 : Nat), some (19 : Int)), ((226 : Nat), some (20 : Int)), ((226 : Nat), some (21 : Int))]) hT (fr_p (fr_p (fr_p (fr_p (fr_p fr_0 (Or.inr (by decide))) (Or.inr (by decide))) (Or.inr (by decide))) (Or.inr (by decide))) (Or.inr (by decide))) (by decide)) hN ⟨by omega, by omega⟩ ⟨by omega, by omega⟩ ?_
  show gm_Wp X LX d _ _ 323 47 _ [gm_vi (N (119 + (l * 7 + 3))), gm_vi (N 9), gm_vr 226] n K _ _ Q
  refine gm_sz (gm_p_bin (pc := 47) (i := .isub) (f := fun x y => x - y) (by decide +kernel) rfl) ?_
  refine gm_sz (fw_pi (pc := 48) (ix := 318) (ci := 11) (j := 22) (M' := gm_uM (gm_uM (gm_uM (gm_uM (gm_uM (gm_uM M 226 17 (N (119 + (l * 7 + 2)))) 226 18 (N 1)) 226 19 (N 9)) 226 20 0) 226 21 person) 226 22 ((N 9) - (N (119 + (l * 7 + 3))))) (by decide +kernel) (e0k hE (k := 226) (c := 11) (by decide +kernel)) (by decide +kernel) (by decide +kernel) (by decide +kernel) rfl) ?_
  refine gm_sz (gm_p_load (pc := 51) (i := .aload_n 0) (sr := 2) (j := 0) (by decide +kernel) rfl rfl rfl) ?_
  refine gm_sz (gm_p_load (pc := 52) (i := .aload_n 0) (sr := 2) (j := 0) (by decide +kernel) rfl rfl rfl) ?_
  refine gm_sz (fw_gr (pc := 53) (ix := 48) (ci := 11) (j := 28) (r := 237) (by decide +kernel) (e0k hE (k := 226) (c := 11) (by decide +kernel)) (by decide +kernel) (by decide +kernel) (e0r hE (k := 226) (j := 28) (r := 237) (by decide +kernel))) ?_
  refine gm_sz (gm_p_load (pc := 56) (i := .aload_n 0) (sr := 2) (j := 0) (by decide +kernel) rfl rfl rfl) ?_
  refine gm_sz (fw_gi (pc := 57) (ix := 368) (ci := 11) (j := 29) (x := M 226 29) (by decide +kernel) (e0k hE (k := 226) (c := 11) (by decide +kernel)) (by decide +kernel) (by decide +kernel) ((uM_ne (by omega)).trans ((uM_ne (by omega)).trans ((uM_ne (by omega)).trans ((uM_ne (by omega)).trans ((uM_ne (by omega)).trans ((uM_ne (by omega)).trans rfl))))))) ?_
  refine gm_sz (fw_ia (pc := 60) (k := 237) (len := 300) (e0 := M 226 29) (x := dp) (by decide +kernel) (e0a hE (k := 237) (q := ((0 : Nat), (300 : Nat))) (by decide +kernel)).1 (e0a hE (k := 237) (q := ((0 : Nat), (300 : Nat))) (by decide +kernel)).2 (by decide) ⟨by omega, by omega⟩ ((uM_ne (by omega)).trans ((uM_ne (by omega)).trans ((uM_ne (by omega)).trans ((uM_ne (by omega)).trans ((uM_ne (by omega)).trans ((uM_ne (by omega)).trans hdp))))))) ?_
  refine gm_sz (fw_pi (pc := 61) (ix := 321) (ci := 11) (j := 23) (M' := gm_uM (gm_uM (gm_uM (gm_uM (gm_uM (gm_uM (gm_uM M 226 17 (N (119 + (l * 7 + 2)))) 226 18 (N 1)) 226 19 (N 9)) 226 20 0) 226 21 person) 226 22 ((N 9) - (N (119 + (l * 7 + 3))))) 226 23 dp) (by decide +kernel) (e0k hE (k := 226) (c := 11) (by decide +kernel)) (by decide +kernel) (by decide +kernel) (by decide +kernel) rfl) ?_
  refine gm_sz (gm_p_load (pc := 64) (i := .aload_n 0) (sr := 2) (j := 0) (by decide +kernel) rfl rfl rfl) ?_
  refine gm_sz (gm_p_const (pc := 65) (i := .iconst 2) (v := gm_vi 2) (by decide +kernel) (by decide +kernel)) ?_
  refine gm_c_virt (k := 226) (ci := 11) (mj := 294) (ix := 341) (pc := 66) (as := [gm_vi 2]) (st := []) (d' := d - 1) (bc' := 0) (bs' := 0) (by decide +kernel) (by decide +kernel) (by decide +kernel) (by decide +kernel) (e0k hE (k := 226) (c := 11) (by decide +kernel)).1 (e0k hE (k := 226) (c := 11) (by decide +kernel)).2 (by decide) (by decide +kernel) (show 1 = gm_na 294 by decide +kernel) (fw_c1 fw_si) (show 2 ≤ gm_ml 294 by decide +kernel) (Nat.le_of_ble_eq_true rfl) (by omega) (Nat.zero_le _) (Nat.zero_le _) ?_
  refine re_c294 (kd := 2) (m := m) (H := H) (by omega) hE (tr_fr (W := [((226 : Nat), some (17 : Int)), ((226 : Nat), some (18 : Int)), ((226 : Nat), some (19 : Int)), ((226 : Nat), some (20 : Int)), ((226 : Nat), some (21 : Int)), ((226 : Nat), some (22 : Int)), ((226 : Nat), some (23 : Int))]) hT (fr_p (fr_p (fr_p (fr_p (fr_p (fr_p (fr_p fr_0 (Or.inr (by decide))) (Or.inr (by decide))) (Or.inr (by decide))) (Or.inr (by decide))) (Or.inr (by decide))) (Or.inr (by decide))) (Or.inr (by decide))) (by decide)) hN (fun j hj => ((uM_ne (by omega)).trans ((uM_ne (by omega)).trans ((uM_ne (by omega)).trans ((uM_ne (by omega)).trans ((uM_ne (by omega)).trans ((uM_ne (by omega)).trans ((uM_ne (by omega)).trans (hG j hj))))))))) ((uM_ne (by omega)).trans ((uM_ne (by omega)).trans ((uM_ne (by omega)).trans ((uM_ne (by omega)).trans ((uM_ne (by omega)).trans ((uM_ne (by omega)).trans uM_at)))))) ((uM_ne (by omega)).trans ((uM_ne (by omega)).trans ((uM_ne (by omega)).trans ((uM_ne (by omega)).trans ((uM_ne (by omega)).trans uM_at))))) ((uM_ne (by omega)).trans ((uM_ne (by omega)).trans ((uM_ne (by omega)).trans ((uM_ne (by omega)).trans uM_at)))) ((uM_ne (by omega)).trans ((uM_ne (by omega)).trans ((uM_ne (by omega)).trans uM_at))) ((uM_ne (by omega)).trans ((uM_ne (by omega)).trans uM_at)) ((uM_ne (by omega)).trans uM_at) uM_at ⟨by omega, by omega⟩ ⟨by omega, by omega⟩ hL hH ⟨by decide, by decide⟩ (fun M66 hf66 => ?_)
  show gm_Wp X LX d _ _ 323 69 _ [gm_vi (rsum H (fcts N h (N (119 + (l * 7 + 2))) (N 1) (N 9) 0 person (N 9 - N (119 + (l * 7 + 3))) dp) G 2 m.toNat)] n K _ _ Q
  have hb66 := rsum_b (H := H) (F := (fcts N h (N (119 + (l * 7 + 2))) (N 1) (N 9) 0 person (N 9 - N (119 + (l * 7 + 3))) dp)) (kd := 2) hL m.toNat (by omega)
  refine fw_if (cc := .le) (pc := 69) (off := 7) (by decide +kernel) (by decide) ⟨by omega, by omega⟩ (fun h69 => ?_) (fun h69 => ?_)
  · have h69 : (rsum H (fcts N h (N (119 + (l * 7 + 2))) (N 1) (N 9) 0 person (N 9 - N (119 + (l * 7 + 3))) dp) G 2 m.toNat) ≤ 0 := h69
    refine gm_sz (gm_p_const (pc := 76) (i := .iconst 0) (v := gm_vi 0) (by decide +kernel) (by decide +kernel)) ?_
    exact gm_r_int (pc := 77) (by decide +kernel) (Or.inr ⟨(by decide +kernel), Or.inl rfl⟩) (q0 (fun hh => by have hh : 0 < rsum H (fcts N h (N (119 + (l * 7 + 2))) (N 1) (N 9) 0 person (N 9 - N (119 + (l * 7 + 3))) dp) G 2 m.toNat := hh; omega) _ (fr_t (fr_p (fr_p (fr_p (fr_p (fr_p (fr_p (fr_p fr_0 (Or.inr (by decide))) (Or.inr (by decide))) (Or.inr (by decide))) (Or.inr (by decide))) (Or.inr (by decide))) (Or.inr (by decide))) (Or.inr (by decide))) hf66 (by decide)))
  · have h69 : ¬ (rsum H (fcts N h (N (119 + (l * 7 + 2))) (N 1) (N 9) 0 person (N 9 - N (119 + (l * 7 + 3))) dp) G 2 m.toNat) ≤ 0 := h69
    refine gm_sz (gm_p_const (pc := 72) (i := .iconst 1) (v := gm_vi 1) (by decide +kernel) (by decide +kernel)) ?_
    refine gm_sz (gm_p_goto (pc := 73) (off := 4) (by decide +kernel) (by decide)) ?_
    exact gm_r_int (pc := 77) (by decide +kernel) (Or.inr ⟨(by decide +kernel), Or.inr rfl⟩) (q1 (show rpsi N h H G m person ((N (119 + (l * 7 + 2)))) (N 9 - (N (119 + (l * 7 + 3)))) dp from (by have := h69; show 0 < _; omega)) _ (fr_t (fr_p (fr_p (fr_p (fr_p (fr_p (fr_p (fr_p fr_0 (Or.inr (by decide))) (Or.inr (by decide))) (Or.inr (by decide))) (Or.inr (by decide))) (Or.inr (by decide))) (Or.inr (by decide))) (Or.inr (by decide))) hf66 (by decide)))
theorem re_mor0 (hE : E0 n K R) (hN : NR N) (h8 : G 8 = 0) : MOR X LX n K R N h (fun M => ∀ j, (395 ≤ j ∨ j = 8) → M 227 j = G j) (fun _ _ _ _ => False) := by
  intro d bc bs M Q person l dp hd h1 hT hG ho hdp q1 q0
  obtain ⟨⟨⟨a0, b0⟩, ⟨a1, b1⟩, ⟨a10, b10⟩, ⟨a11, b11⟩, ⟨a12, b12⟩, a9, b9⟩, ⟨⟨a2, b2⟩, ⟨a5, b5⟩, ⟨a3, b3⟩, ⟨a4, b4⟩, ⟨a6, b6⟩, ⟨a14, b14⟩, ⟨a7, b7⟩, a13, b13⟩, rF, rP, rL⟩ := id hN
  obtain ⟨-, -, r2, r3, -⟩ := rL l h1.1 h1.2
  have ln9 : 0 ≤ N (119 + (l * 7 + 2)) ∧ N (119 + (l * 7 + 2)) < N 0 := r2
  have yr9 : 0 ≤ N (119 + (l * 7 + 3)) ∧ N (119 + (l * 7 + 3)) ≤ N 9 := r3
  refine gm_sz (gm_p_load (pc := 0) (i := .aload_n 0) (sr := 2) (j := 0) (by decide +kernel) rfl rfl rfl) ?_
  refine gm_sz (gm_p_load (pc := 1) (i := .aload_n 0) (sr := 2) (j := 0) (by decide +kernel) rfl rfl rfl) ?_
  refine gm_sz (gm_p_load (pc := 2) (i := .iload_n 2) (sr := 0) (j := 2) (by decide +kernel) rfl rfl rfl) ?_
  refine gm_sz (gm_p_const (pc := 3) (i := .iconst 2) (v := gm_vi 2) (by decide +kernel) (by decide +kernel)) ?_
  refine gm_c_virt (k := 226) (ci := 11) (mj := 301) (ix := 82) (pc := 4) (as := [gm_vi l, gm_vi 2]) (st := [gm_vr 226]) (d' := d - 1) (bc' := 0) (bs' := 0) (by decide +kernel) (by decide +kernel) (by decide +kernel) (by decide +kernel) (e0k hE (k := 226) (c := 11) (by decide +kernel)).1 (e0k hE (k := 226) (c := 11) (by decide +kernel)).2 (by decide) (by decide +kernel) (show 2 = gm_na 301 by decide +kernel) (fw_c2 fw_si fw_si) (show 3 ≤ gm_ml 301 by decide +kernel) (Nat.le_of_ble_eq_true rfl) (by omega) (Nat.zero_le _) (Nat.zero_le _) ?_
  refine re_ol hE hT hN ⟨by omega, by omega⟩ ⟨by omega, by omega⟩ ?_
  show gm_Wp X LX d _ _ 323 7 _ [gm_vi (N (119 + (l * 7 + 2))), gm_vr 226] n K _ _ Q
  refine gm_sz (fw_pi (pc := 7) (ix := 303) (ci := 11) (j := 17) (M' := gm_uM M 226 17 (N (119 + (l * 7 + 2)))) (by decide +kernel) (e0k hE (k := 226) (c := 11) (by decide +kernel)) (by decide +kernel) (by decide +kernel) (by decide +kernel) rfl) ?_
  refine gm_sz (gm_p_load (pc := 10) (i := .aload_n 0) (sr := 2) (j := 0) (by decide +kernel) rfl rfl rfl) ?_
  refine gm_sz (gm_p_load (pc := 11) (i := .aload_n 0) (sr := 2) (j := 0) (by decide +kernel) rfl rfl rfl) ?_
  refine gm_c_virt (k := 226) (ci := 11) (mj := 259) (ix := 94) (pc := 12) (as := []) (st := [gm_vr 226]) (d' := d - 1) (bc' := 0) (bs' := 0) (by decide +kernel) (by decide +kernel) (by decide +kernel) (by decide +kernel) (e0k hE (k := 226) (c := 11) (by decide +kernel)).1 (e0k hE (k := 226) (c := 11) (by decide +kernel)).2 (by decide) (by decide +kernel) (show 0 = gm_na 259 by decide +kernel) fw_c0 (show 1 ≤ gm_ml 259 by decide +kernel) (Nat.le_of_ble_eq_true rfl) (by omega) (Nat.zero_le _) (Nat.zero_le _) ?_
  refine re_lip hE (tr_fr (W := [((226 : Nat), some (17 : Int))]) hT (fr_p fr_0 (Or.inr (by decide))) (by decide)) hN ?_
  show gm_Wp X LX d _ _ 323 15 _ [gm_vi (N 1), gm_vr 226] n K _ _ Q
  refine gm_sz (fw_pi (pc := 15) (ix := 306) (ci := 11) (j := 18) (M' := gm_uM (gm_uM M 226 17 (N (119 + (l * 7 + 2)))) 226 18 (N 1)) (by decide +kernel) (e0k hE (k := 226) (c := 11) (by decide +kernel)) (by decide +kernel) (by decide +kernel) (by decide +kernel) rfl) ?_
  refine gm_sz (gm_p_load (pc := 18) (i := .aload_n 0) (sr := 2) (j := 0) (by decide +kernel) rfl rfl rfl) ?_
  refine gm_sz (gm_p_load (pc := 19) (i := .aload_n 0) (sr := 2) (j := 0) (by decide +kernel) rfl rfl rfl) ?_
  refine gm_c_virt (k := 226) (ci := 11) (mj := 266) (ix := 162) (pc := 20) (as := []) (st := [gm_vr 226]) (d' := d - 1) (bc' := 0) (bs' := 0) (by decide +kernel) (by decide +kernel) (by decide +kernel) (by decide +kernel) (e0k hE (k := 226) (c := 11) (by decide +kernel)).1 (e0k hE (k := 226) (c := 11) (by decide +kernel)).2 (by decide) (by decide +kernel) (show 0 = gm_na 266 by decide +kernel) fw_c0 (show 1 ≤ gm_ml 266 by decide +kernel) (Nat.le_of_ble_eq_true rfl) (by omega) (Nat.zero_le _) (Nat.zero_le _) ?_
  refine re_now hE (tr_fr (W := [((226 : Nat), some (17 : Int)), ((226 : Nat), some (18 : Int))]) hT (fr_p (fr_p fr_0 (Or.inr (by decide))) (Or.inr (by decide))) (by decide)) hN ?_
  show gm_Wp X LX d _ _ 323 23 _ [gm_vi (N 9), gm_vr 226] n K _ _ Q
  refine gm_sz (fw_pi (pc := 23) (ix := 309) (ci := 11) (j := 19) (M' := gm_uM (gm_uM (gm_uM M 226 17 (N (119 + (l * 7 + 2)))) 226 18 (N 1)) 226 19 (N 9)) (by decide +kernel) (e0k hE (k := 226) (c := 11) (by decide +kernel)) (by decide +kernel) (by decide +kernel) (by decide +kernel) rfl) ?_
  refine gm_sz (gm_p_load (pc := 26) (i := .aload_n 0) (sr := 2) (j := 0) (by decide +kernel) rfl rfl rfl) ?_
  refine gm_sz (gm_p_const (pc := 27) (i := .iconst 0) (v := gm_vi 0) (by decide +kernel) (by decide +kernel)) ?_
  refine gm_sz (fw_pi (pc := 28) (ix := 312) (ci := 11) (j := 20) (M' := gm_uM (gm_uM (gm_uM (gm_uM M 226 17 (N (119 + (l * 7 + 2)))) 226 18 (N 1)) 226 19 (N 9)) 226 20 0) (by decide +kernel) (e0k hE (k := 226) (c := 11) (by decide +kernel)) (by decide +kernel) (by decide +kernel) (by decide +kernel) rfl) ?_
  refine gm_sz (gm_p_load (pc := 31) (i := .aload_n 0) (sr := 2) (j := 0) (by decide +kernel) rfl rfl rfl) ?_
  refine gm_sz (gm_p_load (pc := 32) (i := .iload_n 1) (sr := 0) (j := 1) (by decide +kernel) rfl rfl rfl) ?_
  refine gm_sz (fw_pi (pc := 33) (ix := 315) (ci := 11) (j := 21) (M' := gm_uM (gm_uM (gm_uM (gm_uM (gm_uM M 226 17 (N (119 + (l * 7 + 2)))) 226 18 (N 1)) 226 19 (N 9)) 226 20 0) 226 21 person) (by decide +kernel) (e0k hE (k := 226) (c := 11) (by decide +kernel)) (by decide +kernel) (by decide +kernel) (by decide +kernel) rfl) ?_
  refine gm_sz (gm_p_load (pc := 36) (i := .aload_n 0) (sr := 2) (j := 0) (by decide +kernel) rfl rfl rfl) ?_
  refine gm_sz (gm_p_load (pc := 37) (i := .aload_n 0) (sr := 2) (j := 0) (by decide +kernel) rfl rfl rfl) ?_
  refine gm_c_virt (k := 226) (ci := 11) (mj := 266) (ix := 162) (pc := 38) (as := []) (st := [gm_vr 226]) (d' := d - 1) (bc' := 0) (bs' := 0) (by decide +kernel) (by decide +kernel) (by decide +kernel) (by decide +kernel) (e0k hE (k := 226) (c := 11) (by decide +kernel)).1 (e0k hE (k := 226) (c := 11) (by decide +kernel)).2 (by decide) (by decide +kernel) (show 0 = gm_na 266 by decide +kernel) fw_c0 (show 1 ≤ gm_ml 266 by decide +kernel) (Nat.le_of_ble_eq_true rfl) (by omega) (Nat.zero_le _) (Nat.zero_le _) ?_
  refine re_now hE (tr_fr (W := [((226 : Nat), some (17 : Int)), ((226 : Nat), some (18 : Int)), ((226 : Nat), some (19 : Int)), ((226 : Nat), some (20 : Int)), ((226 : Nat), some (21 : Int))]) hT (fr_p (fr_p (fr_p (fr_p (fr_p fr_0 (Or.inr (by decide))) (Or.inr (by decide))) (Or.inr (by decide))) (Or.inr (by decide))) (Or.inr (by decide))) (by decide)) hN ?_
  show gm_Wp X LX d _ _ 323 41 _ [gm_vi (N 9), gm_vr 226] n K _ _ Q
  refine gm_sz (gm_p_load (pc := 41) (i := .aload_n 0) (sr := 2) (j := 0) (by decide +kernel) rfl rfl rfl) ?_
  refine gm_sz (gm_p_load (pc := 42) (i := .iload_n 2) (sr := 0) (j := 2) (by decide +kernel) rfl rfl rfl) ?_
  refine gm_sz (gm_p_const (pc := 43) (i := .iconst 3) (v := gm_vi 3) (by decide +kernel) (by decide +kernel)) ?_
  refine gm_c_virt (k := 226) (ci := 11) (mj := 301) (ix := 82) (pc := 44) (as := [gm_vi l, gm_vi 3]) (st := [gm_vi (N 9), gm_vr 226]) (d' := d - 1) (bc' := 0) (bs' := 0) (by decide +kernel) (by decide +kernel) (by decide +kernel) (by decide +kernel) (e0k hE (k := 226) (c := 11) (by decide +kernel)).1 (e0k hE (k := 226) (c := 11) (by decide +kernel)).2 (by decide) (by decide +kernel) (show 2 = gm_na 301 by decide +kernel) (fw_c2 fw_si fw_si) (show 3 ≤ gm_ml 301 by decide +kernel) (Nat.le_of_ble_eq_true rfl) (by omega) (Nat.zero_le _) (Nat.zero_le _) ?_
  refine re_ol hE (tr_fr (W := [((226 : Nat), some (17 : Int)), ((226 : Nat), some (18 : Int)), ((226 : Nat), some (19 : Int)), ((226 : Nat), some (20 : Int)), ((226 : Nat), some (21 : Int))]) hT (fr_p (fr_p (fr_p (fr_p (fr_p fr_0 (Or.inr (by decide))) (Or.inr (by decide))) (Or.inr (by decide))) (Or.inr (by decide))) (Or.inr (by decide))) (by decide)) hN ⟨by omega, by omega⟩ ⟨by omega, by omega⟩ ?_
  show gm_Wp X LX d _ _ 323 47 _ [gm_vi (N (119 + (l * 7 + 3))), gm_vi (N 9), gm_vr 226] n K _ _ Q
  refine gm_sz (gm_p_bin (pc := 47) (i := .isub) (f := fun x y => x - y) (by decide +kernel) rfl) ?_
  refine gm_sz (fw_pi (pc := 48) (ix := 318) (ci := 11) (j := 22) (M' := gm_uM (gm_uM (gm_uM (gm_uM (gm_uM (gm_uM M 226 17 (N (119 + (l * 7 + 2)))) 226 18 (N 1)) 226 19 (N 9)) 226 20 0) 226 21 person) 226 22 ((N 9) - (N (119 + (l * 7 + 3))))) (by decide +kernel) (e0k hE (k := 226) (c := 11) (by decide +kernel)) (by decide +kernel) (by decide +kernel) (by decide +kernel) rfl) ?_
  refine gm_sz (gm_p_load (pc := 51) (i := .aload_n 0) (sr := 2) (j := 0) (by decide +kernel) rfl rfl rfl) ?_
  refine gm_sz (gm_p_load (pc := 52) (i := .aload_n 0) (sr := 2) (j := 0) (by decide +kernel) rfl rfl rfl) ?_
  refine gm_sz (fw_gr (pc := 53) (ix := 48) (ci := 11) (j := 28) (r := 237) (by decide +kernel) (e0k hE (k := 226) (c := 11) (by decide +kernel)) (by decide +kernel) (by decide +kernel) (e0r hE (k := 226) (j := 28) (r := 237) (by decide +kernel))) ?_
  refine gm_sz (gm_p_load (pc := 56) (i := .aload_n 0) (sr := 2) (j := 0) (by decide +kernel) rfl rfl rfl) ?_
  refine gm_sz (fw_gi (pc := 57) (ix := 368) (ci := 11) (j := 29) (x := M 226 29) (by decide +kernel) (e0k hE (k := 226) (c := 11) (by decide +kernel)) (by decide +kernel) (by decide +kernel) ((uM_ne (by omega)).trans ((uM_ne (by omega)).trans ((uM_ne (by omega)).trans ((uM_ne (by omega)).trans ((uM_ne (by omega)).trans ((uM_ne (by omega)).trans rfl))))))) ?_
  refine gm_sz (fw_ia (pc := 60) (k := 237) (len := 300) (e0 := M 226 29) (x := dp) (by decide +kernel) (e0a hE (k := 237) (q := ((0 : Nat), (300 : Nat))) (by decide +kernel)).1 (e0a hE (k := 237) (q := ((0 : Nat), (300 : Nat))) (by decide +kernel)).2 (by decide) ⟨by omega, by omega⟩ ((uM_ne (by omega)).trans ((uM_ne (by omega)).trans ((uM_ne (by omega)).trans ((uM_ne (by omega)).trans ((uM_ne (by omega)).trans ((uM_ne (by omega)).trans hdp))))))) ?_
  refine gm_sz (fw_pi (pc := 61) (ix := 321) (ci := 11) (j := 23) (M' := gm_uM (gm_uM (gm_uM (gm_uM (gm_uM (gm_uM (gm_uM M 226 17 (N (119 + (l * 7 + 2)))) 226 18 (N 1)) 226 19 (N 9)) 226 20 0) 226 21 person) 226 22 ((N 9) - (N (119 + (l * 7 + 3))))) 226 23 dp) (by decide +kernel) (e0k hE (k := 226) (c := 11) (by decide +kernel)) (by decide +kernel) (by decide +kernel) (by decide +kernel) rfl) ?_
  refine gm_sz (gm_p_load (pc := 64) (i := .aload_n 0) (sr := 2) (j := 0) (by decide +kernel) rfl rfl rfl) ?_
  refine gm_sz (gm_p_const (pc := 65) (i := .iconst 2) (v := gm_vi 2) (by decide +kernel) (by decide +kernel)) ?_
  refine gm_c_virt (k := 226) (ci := 11) (mj := 294) (ix := 341) (pc := 66) (as := [gm_vi 2]) (st := []) (d' := d - 1) (bc' := 0) (bs' := 0) (by decide +kernel) (by decide +kernel) (by decide +kernel) (by decide +kernel) (e0k hE (k := 226) (c := 11) (by decide +kernel)).1 (e0k hE (k := 226) (c := 11) (by decide +kernel)).2 (by decide) (by decide +kernel) (show 1 = gm_na 294 by decide +kernel) (fw_c1 fw_si) (show 2 ≤ gm_ml 294 by decide +kernel) (Nat.le_of_ble_eq_true rfl) (by omega) (Nat.zero_le _) (Nat.zero_le _) ?_
  refine re_c294n (kd := 2) hE ((uM_ne (by omega)).trans ((uM_ne (by omega)).trans ((uM_ne (by omega)).trans ((uM_ne (by omega)).trans ((uM_ne (by omega)).trans ((uM_ne (by omega)).trans ((uM_ne (by omega)).trans ((hG _ (by omega)).trans h8)))))))) ?_
  show gm_Wp X LX d _ _ 323 69 _ [gm_vi 0] n K _ _ Q
  refine fw_iftd (cc := .le) (pc := 69) (off := 7) (by decide +kernel) (by decide) ⟨by decide, by decide⟩ (by decide) ?_
  refine gm_sz (gm_p_const (pc := 76) (i := .iconst 0) (v := gm_vi 0) (by decide +kernel) (by decide +kernel)) ?_
  exact gm_r_int (pc := 77) (by decide +kernel) (Or.inr ⟨(by decide +kernel), Or.inl rfl⟩) (q0 (fun hh => hh) _ (fr_p (fr_p (fr_p (fr_p (fr_p (fr_p (fr_p fr_0 (Or.inr (by decide))) (Or.inr (by decide))) (Or.inr (by decide))) (Or.inr (by decide))) (Or.inr (by decide))) (Or.inr (by decide))) (Or.inr (by decide))))
theorem ro_l (hd : 6 ≤ d) (hE : E0 n K R) (hT : TR N h M) (hN : NR N) (hst : RSt FI) (hmo : MOR X LX n K R N h FI ψ) (hI : FI M) (h1 : 0 ≤ l ∧ l < N 4) (hr : 0 ≤ (N (119 + (l * 7 + 0)))) (h29 : 0 ≤ M 226 29 ∧ M 226 29 < 300) (hdp : M 237 (M 226 29) = dp) (hne : ¬ (N (95 + (((N (119 + (l * 7 + 1)))) * 3 + 2))) = (N (119 + (l * 7 + 2)))) (hq : ∀ M2, fr [((226 : Nat), some (17 : Int)), ((226 : Nat), some (18 : Int)), ((226 : Nat), some (19 : Int)), ((226 : Nat), some (20 : Int)), ((226 : Nat), some (21 : Int)), ((226 : Nat), some (22 : Int)), ((226 : Nat), some (23 : Int)), ((233 : Nat), none)] M M2 → Q (.inl (some (gm_vi (opf N ψ l dp)))) n K R M2) : ∀ (u i : Nat) (M1 : gm_M), (i : Int) + (u : Int) = N 3 → fr [((226 : Nat), some (17 : Int)), ((226 : Nat), some (18 : Int)), ((226 : Nat), some (19 : Int)), ((226 : Nat), some (20 : Int)), ((226 : Nat), some (21 : Int)), ((226 : Nat), some (22 : Int)), ((226 : Nat), some (23 : Int)), ((233 : Nat), none)] M M1 → fo (wop N ψ l dp) (N 3).toNat 0 = fo (wop N ψ l dp) u (i : Int) → gm_Wp X LX d bc bs 322 31 [some (gm_vr 226), some (gm_vi l), some (gm_vi (N (119 + (l * 7 + 2)))), some (gm_vi (i : Int))] [] n K R M1 Q := by
  obtain ⟨⟨⟨a0, b0⟩, ⟨a1, b1⟩, ⟨a10, b10⟩, ⟨a11, b11⟩, ⟨a12, b12⟩, a9, b9⟩, ⟨⟨a2, b2⟩, ⟨a5, b5⟩, ⟨a3, b3⟩, ⟨a4, b4⟩, ⟨a6, b6⟩, ⟨a14, b14⟩, ⟨a7, b7⟩, a13, b13⟩, rF, rP, rL⟩ := id hN
  obtain ⟨r0, r1, r2, r3, -, -, -, r7⟩ := rL l h1.1 h1.2
  have r8 := r7 hr
  have to9 : 0 ≤ N (119 + (l * 7 + 1)) ∧ N (119 + (l * 7 + 1)) < N 3 := ⟨r8, r1.2⟩
  have ln9 : 0 ≤ N (119 + (l * 7 + 2)) ∧ N (119 + (l * 7 + 2)) < N 0 := r2
  have e9 : opf N ψ l dp = fo (wop N ψ l dp) (N 3).toNat 0 := tif_f hne
  rw [e9] at hq
  intro u
  induction u with
  | zero =>
    intro i M1 hi hf he
    have he : fo (wop N ψ l dp) (N 3).toNat 0 = -1 := he
    rw [he] at hq
    refine gm_sz (gm_p_load (pc := 31) (i := .iload_n 3) (sr := 0) (j := 3) (by decide +kernel) rfl rfl rfl) ?_
    refine gm_sz (gm_p_load (pc := 32) (i := .aload_n 0) (sr := 2) (j := 0) (by decide +kernel) rfl rfl rfl) ?_
    refine gm_c_virt (k := 226) (ci := 11) (mj := 253) (ix := 97) (pc := 33) (as := []) (st := [gm_vi (i : Int)]) (d' := d - 1) (bc' := 0) (bs' := 0) (by decide +kernel) (by decide +kernel) (by decide +kernel) (by decide +kernel) (e0k hE (k := 226) (c := 11) (by decide +kernel)).1 (e0k hE (k := 226) (c := 11) (by decide +kernel)).2 (by decide) (by decide +kernel) (show 0 = gm_na 253 by decide +kernel) fw_c0 (show 1 ≤ gm_ml 253 by decide +kernel) (Nat.le_of_ble_eq_true rfl) (by omega) (Nat.zero_le _) (Nat.zero_le _) ?_
    refine re_peo hE (tr_fr (W := [((226 : Nat), some (17 : Int)), ((226 : Nat), some (18 : Int)), ((226 : Nat), some (19 : Int)), ((226 : Nat), some (20 : Int)), ((226 : Nat), some (21 : Int)), ((226 : Nat), some (22 : Int)), ((226 : Nat), some (23 : Int)), ((233 : Nat), none)]) hT (fr_t fr_0 hf (by decide)) (by decide)) hN ?_
    show gm_Wp X LX d _ _ 322 36 _ [gm_vi (N 3), gm_vi (i : Int)] n K _ _ Q
    refine fw_ict (cc := .ge) (pc := 36) (off := 30) (by decide +kernel) (by decide) ⟨by omega, by omega⟩ ⟨by omega, by omega⟩ (show (N 3) ≤ (i : Int) by omega) ?_
    refine gm_sz (gm_p_const (pc := 66) (i := .iconst (-1)) (v := gm_vi (-1)) (by decide +kernel) (by decide +kernel)) ?_
    exact gm_r_int (pc := 67) (by decide +kernel) (Or.inl (by decide +kernel)) (hq M1 hf)
  | succ u ih =>
    intro i M1 hi hf he
    obtain ⟨-, -, p2⟩ := rP (i : Int) (by omega) (by omega)
    have p9 : -1 ≤ N (95 + ((i : Int) * 3 + 2)) ∧ N (95 + ((i : Int) * 3 + 2)) < N 0 := p2
    have he : fo (wop N ψ l dp) (N 3).toNat 0 = tif ((wop N ψ l dp) (i : Int)) (i : Int) (fo (wop N ψ l dp) u ((i : Int) + 1)) := he
    refine gm_sz (gm_p_load (pc := 31) (i := .iload_n 3) (sr := 0) (j := 3) (by decide +kernel) rfl rfl rfl) ?_
    refine gm_sz (gm_p_load (pc := 32) (i := .aload_n 0) (sr := 2) (j := 0) (by decide +kernel) rfl rfl rfl) ?_
    refine gm_c_virt (k := 226) (ci := 11) (mj := 253) (ix := 97) (pc := 33) (as := []) (st := [gm_vi (i : Int)]) (d' := d - 1) (bc' := 0) (bs' := 0) (by decide +kernel) (by decide +kernel) (by decide +kernel) (by decide +kernel) (e0k hE (k := 226) (c := 11) (by decide +kernel)).1 (e0k hE (k := 226) (c := 11) (by decide +kernel)).2 (by decide) (by decide +kernel) (show 0 = gm_na 253 by decide +kernel) fw_c0 (show 1 ≤ gm_ml 253 by decide +kernel) (Nat.le_of_ble_eq_true rfl) (by omega) (Nat.zero_le _) (Nat.zero_le _) ?_
    refine re_peo hE (tr_fr (W := [((226 : Nat), some (17 : Int)), ((226 : Nat), some (18 : Int)), ((226 : Nat), some (19 : Int)), ((226 : Nat), some (20 : Int)), ((226 : Nat), some (21 : Int)), ((226 : Nat), some (22 : Int)), ((226 : Nat), some (23 : Int)), ((233 : Nat), none)]) hT (fr_t fr_0 hf (by decide)) (by decide)) hN ?_
    show gm_Wp X LX d _ _ 322 36 _ [gm_vi (N 3), gm_vi (i : Int)] n K _ _ Q
    refine fw_icf (cc := .ge) (pc := 36) (off := 30) (by decide +kernel) (by decide) ⟨by omega, by omega⟩ ⟨by omega, by omega⟩ (show ¬ (N 3) ≤ (i : Int) by omega) ?_
    refine gm_sz (gm_p_load (pc := 39) (i := .aload_n 0) (sr := 2) (j := 0) (by decide +kernel) rfl rfl rfl) ?_
    refine gm_sz (gm_p_load (pc := 40) (i := .iload_n 3) (sr := 0) (j := 3) (by decide +kernel) rfl rfl rfl) ?_
    refine gm_sz (gm_p_const (pc := 41) (i := .iconst 2) (v := gm_vi 2) (by decide +kernel) (by decide +kernel)) ?_
    refine gm_c_virt (k := 226) (ci := 11) (mj := 299) (ix := 396) (pc := 42) (as := [gm_vi (i : Int), gm_vi 2]) (st := []) (d' := d - 1) (bc' := 0) (bs' := 0) (by decide +kernel) (by decide +kernel) (by decide +kernel) (by decide +kernel) (e0k hE (k := 226) (c := 11) (by decide +kernel)).1 (e0k hE (k := 226) (c := 11) (by decide +kernel)).2 (by decide) (by decide +kernel) (show 2 = gm_na 299 by decide +kernel) (fw_c2 fw_si fw_si) (show 3 ≤ gm_ml 299 by decide +kernel) (Nat.le_of_ble_eq_true rfl) (by omega) (Nat.zero_le _) (Nat.zero_le _) ?_
    refine re_of hE (tr_fr (W := [((226 : Nat), some (17 : Int)), ((226 : Nat), some (18 : Int)), ((226 : Nat), some (19 : Int)), ((226 : Nat), some (20 : Int)), ((226 : Nat), some (21 : Int)), ((226 : Nat), some (22 : Int)), ((226 : Nat), some (23 : Int)), ((233 : Nat), none)]) hT (fr_t fr_0 hf (by decide)) (by decide)) hN ⟨by omega, by omega⟩ ⟨by omega, by omega⟩ ?_
    show gm_Wp X LX d _ _ 322 45 _ [gm_vi (N (95 + ((i : Int) * 3 + 2)))] n K _ _ Q
    refine gm_sz (gm_p_load (pc := 45) (i := .iload_n 2) (sr := 0) (j := 2) (by decide +kernel) rfl rfl rfl) ?_
    refine fw_ic (cc := .ne) (pc := 46) (off := 14) (by decide +kernel) (by decide) ⟨by omega, by omega⟩ ⟨by omega, by omega⟩ (fun h46 => ?_) (fun h46 => ?_)
    · have h46 : ¬ (N (95 + ((i : Int) * 3 + 2))) = (N (119 + (l * 7 + 2))) := h46
      refine gm_sz (gm_p_iinc (pc := 60) (j := 3) (z := 1) (by decide +kernel) rfl) ?_
      refine gm_sz (gm_p_goto (pc := 63) (off := (-32)) (by decide +kernel) (by decide)) ?_
      rw [tif_f (show ¬ (wop N ψ l dp) (i : Int) from (fun hh => h46 hh.1))] at he
      exact ih (i + 1) _ (by omega) (fr_t fr_0 hf (by decide)) he
    · have h46 : (N (95 + ((i : Int) * 3 + 2))) = (N (119 + (l * 7 + 2))) := Classical.not_not.mp h46
      refine gm_sz (gm_p_load (pc := 49) (i := .aload_n 0) (sr := 2) (j := 0) (by decide +kernel) rfl rfl rfl) ?_
      refine gm_sz (gm_p_load (pc := 50) (i := .iload_n 3) (sr := 0) (j := 3) (by decide +kernel) rfl rfl rfl) ?_
      refine gm_sz (gm_p_load (pc := 51) (i := .iload_n 1) (sr := 0) (j := 1) (by decide +kernel) rfl rfl rfl) ?_
      refine gm_c_virt (k := 226) (ci := 11) (mj := 323) (ix := 417) (pc := 52) (as := [gm_vi (i : Int), gm_vi l]) (st := []) (d' := d - 1) (bc' := 0) (bs' := 0) (by decide +kernel) (by decide +kernel) (by decide +kernel) (by decide +kernel) (e0k hE (k := 226) (c := 11) (by decide +kernel)).1 (e0k hE (k := 226) (c := 11) (by decide +kernel)).2 (by decide) (by decide +kernel) (show 2 = gm_na 323 by decide +kernel) (fw_c2 fw_si fw_si) (show 3 ≤ gm_ml 323 by decide +kernel) (Nat.le_of_ble_eq_true rfl) (by omega) (Nat.zero_le _) (Nat.zero_le _) ?_
      refine hmo _ _ _ _ _ (i : Int) l dp (by omega) ⟨by omega, by omega⟩ (tr_fr (W := [((226 : Nat), some (17 : Int)), ((226 : Nat), some (18 : Int)), ((226 : Nat), some (19 : Int)), ((226 : Nat), some (20 : Int)), ((226 : Nat), some (21 : Int)), ((226 : Nat), some (22 : Int)), ((226 : Nat), some (23 : Int)), ((233 : Nat), none)]) hT (fr_t fr_0 hf (by decide)) (by decide)) (hst [(226, some 17), (226, some 18), (226, some 19), (226, some 20), (226, some 21), (226, some 22), (226, some 23), (233, none)] _ _ (by decide) (fr_t fr_0 hf (by decide)) hI) (by rw [show M1 226 29 = M 226 29 from (fr_j hf (by decide))]; exact h29) (by rw [show M1 226 29 = M 226 29 from (fr_j hf (by decide)), show M1 237 (M 226 29) = M 237 (M 226 29) from ((fr_c hf (by decide)).trans rfl)]; exact hdp) (fun v52 M52 hf52 => ?_) (fun v52 M52 hf52 => ?_)
      · show gm_Wp X LX d _ _ 322 55 _ [gm_vi 1] n K _ _ Q
        refine fw_iffd (cc := .eq) (pc := 55) (off := 5) (by decide +kernel) (by decide) ⟨by decide, by decide⟩ (by decide) ?_
        refine gm_sz (gm_p_load (pc := 58) (i := .iload_n 3) (sr := 0) (j := 3) (by decide +kernel) rfl rfl rfl) ?_
        rw [tif_t (show (wop N ψ l dp) (i : Int) from ⟨h46, v52⟩)] at he
        rw [he] at hq
        exact gm_r_int (pc := 59) (by decide +kernel) (Or.inl (by decide +kernel)) (hq _ (fr_t (fr_t fr_0 hf (by decide)) hf52 (by decide)))
      · show gm_Wp X LX d _ _ 322 55 _ [gm_vi 0] n K _ _ Q
        refine fw_iftd (cc := .eq) (pc := 55) (off := 5) (by decide +kernel) (by decide) ⟨by decide, by decide⟩ (by decide) ?_
        refine gm_sz (gm_p_iinc (pc := 60) (j := 3) (z := 1) (by decide +kernel) rfl) ?_
        refine gm_sz (gm_p_goto (pc := 63) (off := (-32)) (by decide +kernel) (by decide)) ?_
        rw [tif_f (show ¬ (wop N ψ l dp) (i : Int) from (fun hh => v52 hh.2))] at he
        exact ih (i + 1) _ (by omega) (fr_t (fr_t fr_0 hf (by decide)) hf52 (by decide)) he
theorem ro_c322 (hd : 6 ≤ d) (hE : E0 n K R) (hT : TR N h M) (hN : NR N) (hst : RSt FI) (hmo : MOR X LX n K R N h FI ψ) (hI : FI M) (h1 : 0 ≤ l ∧ l < N 4) (hr : 0 ≤ (N (119 + (l * 7 + 0)))) (h29 : 0 ≤ M 226 29 ∧ M 226 29 < 300) (hdp : M 237 (M 226 29) = dp) (hq : ∀ M2, fr [((226 : Nat), some (17 : Int)), ((226 : Nat), some (18 : Int)), ((226 : Nat), some (19 : Int)), ((226 : Nat), some (20 : Int)), ((226 : Nat), some (21 : Int)), ((226 : Nat), some (22 : Int)), ((226 : Nat), some (23 : Int)), ((233 : Nat), none)] M M2 → Q (.inl (some (gm_vi (opf N ψ l dp)))) n K R M2) : gm_Wp X LX d bc bs 322 0 (gm_ent 322 [gm_vr 226, gm_vi l]) [] n K R M Q := by
  obtain ⟨⟨⟨a0, b0⟩, ⟨a1, b1⟩, ⟨a10, b10⟩, ⟨a11, b11⟩, ⟨a12, b12⟩, a9, b9⟩, ⟨⟨a2, b2⟩, ⟨a5, b5⟩, ⟨a3, b3⟩, ⟨a4, b4⟩, ⟨a6, b6⟩, ⟨a14, b14⟩, ⟨a7, b7⟩, a13, b13⟩, rF, rP, rL⟩ := id hN
  obtain ⟨r0, r1, r2, r3, -, -, -, r7⟩ := rL l h1.1 h1.2
  have r8 := r7 hr
  have to9 : 0 ≤ N (119 + (l * 7 + 1)) ∧ N (119 + (l * 7 + 1)) < N 3 := ⟨r8, r1.2⟩
  have ln9 : 0 ≤ N (119 + (l * 7 + 2)) ∧ N (119 + (l * 7 + 2)) < N 0 := r2
  obtain ⟨-, -, p2⟩ := rP _ to9.1 to9.2
  have p9 : -1 ≤ N (95 + (N (119 + (l * 7 + 1)) * 3 + 2)) ∧ N (95 + (N (119 + (l * 7 + 1)) * 3 + 2)) < N 0 := p2
  refine gm_sz (gm_p_load (pc := 0) (i := .aload_n 0) (sr := 2) (j := 0) (by decide +kernel) rfl rfl rfl) ?_
  refine gm_sz (gm_p_load (pc := 1) (i := .iload_n 1) (sr := 0) (j := 1) (by decide +kernel) rfl rfl rfl) ?_
  refine gm_sz (gm_p_const (pc := 2) (i := .iconst 2) (v := gm_vi 2) (by decide +kernel) (by decide +kernel)) ?_
  refine gm_c_virt (k := 226) (ci := 11) (mj := 301) (ix := 82) (pc := 3) (as := [gm_vi l, gm_vi 2]) (st := []) (d' := d - 1) (bc' := 0) (bs' := 0) (by decide +kernel) (by decide +kernel) (by decide +kernel) (by decide +kernel) (e0k hE (k := 226) (c := 11) (by decide +kernel)).1 (e0k hE (k := 226) (c := 11) (by decide +kernel)).2 (by decide) (by decide +kernel) (show 2 = gm_na 301 by decide +kernel) (fw_c2 fw_si fw_si) (show 3 ≤ gm_ml 301 by decide +kernel) (Nat.le_of_ble_eq_true rfl) (by omega) (Nat.zero_le _) (Nat.zero_le _) ?_
  refine re_ol hE hT hN ⟨by omega, by omega⟩ ⟨by omega, by omega⟩ ?_
  show gm_Wp X LX d _ _ 322 6 _ [gm_vi (N (119 + (l * 7 + 2)))] n K _ _ Q
  refine gm_sz (gm_p_stor (pc := 6) (i := .istore_n 2) (sr := 0) (j := 2) (by decide +kernel) rfl (show 3 ≤ _ from Nat.le_of_ble_eq_true rfl) rfl) ?_
  refine gm_sz (gm_p_load (pc := 7) (i := .aload_n 0) (sr := 2) (j := 0) (by decide +kernel) rfl rfl rfl) ?_
  refine gm_sz (gm_p_load (pc := 8) (i := .aload_n 0) (sr := 2) (j := 0) (by decide +kernel) rfl rfl rfl) ?_
  refine gm_sz (gm_p_load (pc := 9) (i := .iload_n 1) (sr := 0) (j := 1) (by decide +kernel) rfl rfl rfl) ?_
  refine gm_sz (gm_p_const (pc := 10) (i := .iconst 1) (v := gm_vi 1) (by decide +kernel) (by decide +kernel)) ?_
  refine gm_c_virt (k := 226) (ci := 11) (mj := 301) (ix := 82) (pc := 11) (as := [gm_vi l, gm_vi 1]) (st := [gm_vr 226]) (d' := d - 1) (bc' := 0) (bs' := 0) (by decide +kernel) (by decide +kernel) (by decide +kernel) (by decide +kernel) (e0k hE (k := 226) (c := 11) (by decide +kernel)).1 (e0k hE (k := 226) (c := 11) (by decide +kernel)).2 (by decide) (by decide +kernel) (show 2 = gm_na 301 by decide +kernel) (fw_c2 fw_si fw_si) (show 3 ≤ gm_ml 301 by decide +kernel) (Nat.le_of_ble_eq_true rfl) (by omega) (Nat.zero_le _) (Nat.zero_le _) ?_
  refine re_ol hE hT hN ⟨by omega, by omega⟩ ⟨by omega, by omega⟩ ?_
  show gm_Wp X LX d _ _ 322 14 _ [gm_vi (N (119 + (l * 7 + 1))), gm_vr 226] n K _ _ Q
  refine gm_sz (gm_p_const (pc := 14) (i := .iconst 2) (v := gm_vi 2) (by decide +kernel) (by decide +kernel)) ?_
  refine gm_c_virt (k := 226) (ci := 11) (mj := 299) (ix := 396) (pc := 15) (as := [gm_vi (N (119 + (l * 7 + 1))), gm_vi 2]) (st := []) (d' := d - 1) (bc' := 0) (bs' := 0) (by decide +kernel) (by decide +kernel) (by decide +kernel) (by decide +kernel) (e0k hE (k := 226) (c := 11) (by decide +kernel)).1 (e0k hE (k := 226) (c := 11) (by decide +kernel)).2 (by decide) (by decide +kernel) (show 2 = gm_na 299 by decide +kernel) (fw_c2 fw_si fw_si) (show 3 ≤ gm_ml 299 by decide +kernel) (Nat.le_of_ble_eq_true rfl) (by omega) (Nat.zero_le _) (Nat.zero_le _) ?_
  refine re_of hE hT hN ⟨by omega, by omega⟩ ⟨by omega, by omega⟩ ?_
  show gm_Wp X LX d _ _ 322 18 _ [gm_vi (N (95 + ((N (119 + (l * 7 + 1))) * 3 + 2)))] n K _ _ Q
  refine gm_sz (gm_p_load (pc := 18) (i := .iload_n 2) (sr := 0) (j := 2) (by decide +kernel) rfl rfl rfl) ?_
  refine fw_ic (cc := .ne) (pc := 19) (off := 10) (by decide +kernel) (by decide) ⟨by omega, by omega⟩ ⟨by omega, by omega⟩ (fun h19 => ?_) (fun h19 => ?_)
  · have h19 : ¬ (N (95 + ((N (119 + (l * 7 + 1))) * 3 + 2))) = (N (119 + (l * 7 + 2))) := h19
    refine gm_sz (gm_p_const (pc := 29) (i := .iconst 0) (v := gm_vi 0) (by decide +kernel) (by decide +kernel)) ?_
    refine gm_sz (gm_p_stor (pc := 30) (i := .istore_n 3) (sr := 0) (j := 3) (by decide +kernel) rfl (show 4 ≤ _ from Nat.le_of_ble_eq_true rfl) rfl) ?_
    exact ro_l hd hE hT hN hst hmo hI h1 hr h29 hdp h19 hq (N 3).toNat 0 M (by omega) fr_0 rfl
  · have h19 : (N (95 + ((N (119 + (l * 7 + 1))) * 3 + 2))) = (N (119 + (l * 7 + 2))) := Classical.not_not.mp h19
    refine gm_sz (gm_p_load (pc := 22) (i := .aload_n 0) (sr := 2) (j := 0) (by decide +kernel) rfl rfl rfl) ?_
    refine gm_sz (gm_p_load (pc := 23) (i := .iload_n 1) (sr := 0) (j := 1) (by decide +kernel) rfl rfl rfl) ?_
    refine gm_sz (gm_p_const (pc := 24) (i := .iconst 1) (v := gm_vi 1) (by decide +kernel) (by decide +kernel)) ?_
    refine gm_c_virt (k := 226) (ci := 11) (mj := 301) (ix := 82) (pc := 25) (as := [gm_vi l, gm_vi 1]) (st := []) (d' := d - 1) (bc' := 0) (bs' := 0) (by decide +kernel) (by decide +kernel) (by decide +kernel) (by decide +kernel) (e0k hE (k := 226) (c := 11) (by decide +kernel)).1 (e0k hE (k := 226) (c := 11) (by decide +kernel)).2 (by decide) (by decide +kernel) (show 2 = gm_na 301 by decide +kernel) (fw_c2 fw_si fw_si) (show 3 ≤ gm_ml 301 by decide +kernel) (Nat.le_of_ble_eq_true rfl) (by omega) (Nat.zero_le _) (Nat.zero_le _) ?_
    refine re_ol hE hT hN ⟨by omega, by omega⟩ ⟨by omega, by omega⟩ ?_
    show gm_Wp X LX d _ _ 322 28 _ [gm_vi (N (119 + (l * 7 + 1)))] n K _ _ Q
    have e9 : opf N ψ l dp = N (119 + (l * 7 + 1)) := tif_t h19
    rw [e9] at hq
    exact gm_r_int (pc := 28) (by decide +kernel) (Or.inl (by decide +kernel)) (hq M fr_0)
end RO3
end
/-! 7a17.c8a -/
section
/-! WHAT AN ACT LEAVES ALONE: ways don't hang on who watches, who opened, NOW. -/
/-- the same valley, the same throws -/
noncomputable def geo (N N2 : Int → Int) : Prop := (∀ i, 0 ≤ i → i < 95 → ¬ i = 9 → ¬ i = 14 → N2 i = N i) ∧ ∀ l c, 0 ≤ l → l < 24 → 0 ≤ c → c < 5 → (N2 (119 + (l * 7 + c))) = (N (119 + (l * 7 + c)))
section GE
variable {N N2 N3 h : Int → Int} {sp : Int → Int → Int} {φ : Int → Int → Int → Int} {l o d : Int}
theorem geo_r : geo N N := ⟨fun _ _ _ _ _ => rfl, fun _ _ _ _ _ _ => rfl⟩
theorem geo_t (a : geo N N2) (b : geo N2 N3) : geo N N3 := ⟨fun i h1 h2 h3 h4 => (b.1 i h1 h2 h3 h4).trans (a.1 i h1 h2 h3 h4), fun l c h1 h2 h3 h4 => (b.2 l c h1 h2 h3 h4).trans (a.2 l c h1 h2 h3 h4)⟩
theorem nfl_geo (g : geo N N2) {y wo : Int} : ∀ (t : Nat) (r : Int), t ≤ 8 → nfl N2 y wo t r = nfl N y wo t r := by
  intro t
  induction t with
  | zero => intro r _; rfl
  | succ t ih =>
    intro r ht
    have e0 : (N2 (71 + ((t : Int) * 3 + 0))) = (N (71 + ((t : Int) * 3 + 0))) := g.1 _ (by omega) (by omega) (by omega) (by omega)
    have e1 : (N2 (71 + ((t : Int) * 3 + 1))) = (N (71 + ((t : Int) * 3 + 1))) := g.1 _ (by omega) (by omega) (by omega) (by omega)
    have e2 : (N2 (71 + ((t : Int) * 3 + 2))) = (N (71 + ((t : Int) * 3 + 2))) := g.1 _ (by omega) (by omega) (by omega) (by omega)
    show (if ¬ (t : Int) = wo ∧ (N2 (71 + ((t : Int) * 3 + 0))) = y ∧ (N2 (71 + ((t : Int) * 3 + 1))) ≤ nfl N2 y wo t r then nfl N2 y wo t r + (N2 (71 + ((t : Int) * 3 + 2))) else nfl N2 y wo t r) = (if ¬ (t : Int) = wo ∧ (N (71 + ((t : Int) * 3 + 0))) = y ∧ (N (71 + ((t : Int) * 3 + 1))) ≤ nfl N y wo t r then nfl N y wo t r + (N (71 + ((t : Int) * 3 + 2))) else nfl N y wo t r)
    rw [ih r (by omega), e0, e1, e2]
theorem nwy_geo (g : geo N N2) (h5 : 0 ≤ N 5 ∧ N 5 ≤ 8) {lane rk wo y0 r0 : Int} : ∀ k : Nat, nwy N2 h φ lane rk wo y0 r0 k = nwy N h φ lane rk wo y0 r0 k := by
  have e1 : N2 1 = N 1 := g.1 1 (by decide) (by decide) (by decide) (by decide)
  have e5 : N2 5 = N 5 := g.1 5 (by decide) (by decide) (by decide) (by decide)
  have e10 : N2 10 = N 10 := g.1 10 (by decide) (by decide) (by decide) (by decide)
  have e11 : N2 11 = N 11 := g.1 11 (by decide) (by decide) (by decide) (by decide)
  intro k
  induction k with
  | zero => rfl
  | succ k ih =>
    show nst N2 h φ lane rk wo (y0 + (k : Int)) (nwy N2 h φ lane rk wo y0 r0 k) = nst N h φ lane rk wo (y0 + (k : Int)) (nwy N h φ lane rk wo y0 r0 k)
    rw [ih]
    unfold nst ndp
    rw [e1, e5, e10, e11, nfl_geo g _ _ (by omega)]
theorem OUTR_geo (g : geo N N2) (h5 : 0 ≤ N 5 ∧ N 5 ≤ 8) (hl : 0 ≤ l ∧ l < 24) (a : OUTR N h φ l o d) : OUTR N2 h φ l o d := by
  have e1 : N2 1 = N 1 := g.1 1 (by decide) (by decide) (by decide) (by decide)
  have l0 := g.2 l 0 hl.1 hl.2 (by decide) (by decide)
  have l2 := g.2 l 2 hl.1 hl.2 (by decide) (by decide)
  have l3 := g.2 l 3 hl.1 hl.2 (by decide) (by decide)
  have l4 := g.2 l 4 hl.1 hl.2 (by decide) (by decide)
  unfold OUTR at a ⊢
  rw [l0, l2, l3, l4, e1]
  rcases a with ⟨a1, a2⟩ | ⟨j, a1, a2, a3, a4, a5⟩
  · exact Or.inl ⟨a1, fun j hj => by rw [nwy_geo g h5]; exact a2 j hj⟩
  · exact Or.inr ⟨j, a1, a2, by rw [nwy_geo g h5]; exact a3, fun i hi => by rw [nwy_geo g h5]; exact a4 i hi, by rw [nwy_geo g h5]; exact a5⟩
theorem fbit_geo (g : geo N N2) {y b : Int} (a : fbit N y b) : fbit N2 y b := by
  have e5 : N2 5 = N 5 := g.1 5 (by decide) (by decide) (by decide) (by decide)
  intro f hf
  have e : (N2 (71 + ((f : Int) * 3 + 0))) = (N (71 + ((f : Int) * 3 + 0))) := g.1 _ (by omega) (by omega) (by omega) (by omega)
  rw [e5, e]
  exact a f hf
theorem ti_geo (g : geo N N2) {M M2 : gm_M} (hT : TI N h sp M) (hC : CST M2) (hc : cs M2 3 = N2) (he : ∀ k j, 201 ≤ k → k ≤ 203 → M2 k j = M k j) : TI N2 h sp M2 := by
  refine ⟨hC, hc, fun y y1 y2 => ?_, fun l r l1 l2 r1 r2 => ?_⟩
  · rw [he 201 y (by decide) (by decide), he 203 y (by decide) (by decide)]
    obtain ⟨a, b, c, e⟩ := hT.2.2.1 y y1 y2
    exact ⟨a, b, c, fbit_geo g e⟩
  · rw [he 202 _ (by decide) (by decide)]
    exact hT.2.2.2 l r l1 l2 r1 r2
-- the acts
theorem geo_nyr : geo N (nyr N) := ⟨fun i h1 h2 h3 h4 => nup_ne h3, fun l c h1 h2 h3 h4 => nup_ne (by omega)⟩
theorem geo_nopn {p : Int} (hl : 0 ≤ l ∧ l < 24) (ho : 0 ≤ N 14 ∧ N 14 < 24) : geo N (nopn N l p) := by
  refine ⟨fun i h1 h2 h3 h4 => ?_, fun k c h1 h2 h3 h4 => ?_⟩
  · unfold nopn
    rw [nup_ne (by omega), nup_ne (by omega), nup_ne (by omega), nup_ne h4, nup_ne (by omega), nup_ne (by omega)]
  · show nopn N l p (119 + (k * 7 + c)) = N (119 + (k * 7 + c))
    unfold nopn
    rw [nup_ne (by omega), nup_ne (by omega), nup_ne (by omega), nup_ne (by omega), nup_ne (by omega), nup_ne (by omega)]
theorem geo_nwat {p w : Int} (hp : 0 ≤ p ∧ p < 8) : geo N (nwat N p w) := ⟨fun i h1 h2 h3 h4 => nup_ne (by omega), fun l c h1 h2 h3 h4 => nup_ne (by omega)⟩
theorem nopn_L {p k c : Int} (hl : 0 ≤ l ∧ l < 24) (ho : 0 ≤ N 14 ∧ N 14 < 24) (hk : 0 ≤ k ∧ k < 24) (hc : 0 ≤ c ∧ c < 7) : ((nopn N l p) (119 + (k * 7 + c))) = if k = l ∧ c = 5 then p else if k = l ∧ c = 6 then N 9 else (N (119 + (k * 7 + c))) := by
  show nopn N l p (119 + (k * 7 + c)) = _
  unfold nopn
  rw [nup_ne (by omega), nup_ne (by omega), nup_ne (by omega), nup_ne (by omega)]
  by_cases h6 : k = l ∧ c = 6
  · obtain ⟨rfl, rfl⟩ := h6
    rw [nup_at, if_neg (by omega), if_pos ⟨rfl, rfl⟩]
  · rw [nup_ne (by omega)]
    by_cases h5 : k = l ∧ c = 5
    · obtain ⟨rfl, rfl⟩ := h5
      rw [nup_at, if_pos ⟨rfl, rfl⟩]
    · rw [nup_ne (by omega), if_neg h5, if_neg h6]
theorem nopn_o {p i : Int} (h0 : 0 ≤ i ∧ i < 119) (h14 : ¬ i = 14) (hl : 0 ≤ l ∧ l < 24) (ho : 0 ≤ N 14 ∧ N 14 < 24) : nopn N l p i = N i := by
  unfold nopn
  rw [nup_ne (by omega), nup_ne (by omega), nup_ne (by omega), nup_ne h14, nup_ne (by omega), nup_ne (by omega)]
theorem nopn_14 {p : Int} (hl : 0 ≤ l ∧ l < 24) (ho : 0 ≤ N 14 ∧ N 14 < 24) : nopn N l p 14 = N 14 + 1 := by
  unfold nopn
  rw [nup_ne (by omega), nup_ne (by omega), nup_ne (by omega), nup_at]
/-- how many of the first k are opened -/
noncomputable def nop (N : Int → Int) : Nat → Int
  | 0 => 0
  | k + 1 => nop N k + (if (N (119 + ((k : Int) * 7 + 5))) = -1 then 0 else 1)
/-- the log holds them all -/
noncomputable def LOGI (N : Int → Int) : Prop := N 14 = nop N (N 4).toNat
theorem nop_b : ∀ k : Nat, 0 ≤ nop N k ∧ nop N k ≤ (k : Int) := by
  intro k
  induction k with
  | zero => exact ⟨Int.le_refl _, Int.le_refl _⟩
  | succ k ih =>
    unfold nop
    split <;> exact ⟨by omega, by omega⟩
theorem nop_lt {u : Nat} (h : (N (119 + ((u : Int) * 7 + 5))) = -1) : ∀ k : Nat, u < k → nop N k + 1 ≤ (k : Int) := by
  intro k
  induction k with
  | zero => intro hu; omega
  | succ k ih =>
    intro hu
    have b := nop_b (N := N) k
    unfold nop
    by_cases e : u = k
    · subst e
      rw [if_pos h]
      omega
    · have := ih (by omega)
      split <;> omega
theorem nop_e : ∀ k : Nat, (∀ u : Nat, u < k → ((N2 (119 + ((u : Int) * 7 + 5))) = -1 ↔ (N (119 + ((u : Int) * 7 + 5))) = -1)) → nop N2 k = nop N k := by
  intro k
  induction k with
  | zero => intro _; rfl
  | succ k ih =>
    intro h
    unfold nop
    rw [ih (fun u hu => h u (by omega))]
    by_cases e : (N (119 + ((k : Int) * 7 + 5))) = -1
    · rw [if_pos e, if_pos ((h k (by omega)).mpr e)]
    · rw [if_neg e, if_neg (fun hh => e ((h k (by omega)).mp hh))]
theorem nop_o {p : Int} {u : Nat} (hu : u < 24) (ho : 0 ≤ N 14 ∧ N 14 < 24) (h : (N (119 + ((u : Int) * 7 + 5))) = -1) (hp : ¬ p = -1) : ∀ k : Nat, k ≤ 24 → nop (nopn N (u : Int) p) k = nop N k + (if u < k then 1 else 0) := by
  intro k
  induction k with
  | zero => intro _; rfl
  | succ k ih =>
    intro hk
    have e := nopn_L (N := N) (l := (u : Int)) (p := p) (k := (k : Int)) (c := 5) ⟨by omega, by omega⟩ ho ⟨by omega, by omega⟩ (by decide)
    show nop (nopn N (u : Int) p) k + (if ((nopn N (u : Int) p) (119 + ((k : Int) * 7 + 5))) = -1 then 0 else 1) = nop N k + (if (N (119 + ((k : Int) * 7 + 5))) = -1 then 0 else 1) + _
    rw [ih (by omega), e]
    by_cases e9 : u = k
    · subst e9
      rw [if_pos (show (u : Int) = (u : Int) ∧ (5 : Int) = 5 from ⟨rfl, rfl⟩), if_neg hp, if_pos h, if_neg (Nat.lt_irrefl u), if_pos (Nat.lt_succ_self u)]
    · rw [if_neg (show ¬ ((k : Int) = (u : Int) ∧ (5 : Int) = 5) by omega), if_neg (show ¬ ((k : Int) = (u : Int) ∧ (5 : Int) = 6) by omega)]
      by_cases e8 : u < k
      · rw [if_pos e8, if_pos (show u < k + 1 by omega)]
        omega
      · rw [if_neg e8, if_neg (show ¬ u < k + 1 by omega)]
        omega
theorem logi_lt (hN : NR N) (hg : LOGI N) (hl : 0 ≤ l ∧ l < N 4) (h : (N (119 + (l * 7 + 5))) = -1) : 0 ≤ N 14 ∧ N 14 < 24 := by
  obtain ⟨u, rfl⟩ : ∃ u : Nat, l = (u : Int) := ⟨l.toNat, by omega⟩
  have b4 := hN.2.1.2.2.2.1
  have := nop_lt h (N 4).toNat (by omega)
  have b := nop_b (N := N) (N 4).toNat
  have hg : N 14 = nop N (N 4).toNat := hg
  exact ⟨by omega, by omega⟩
theorem logi_nopn {p : Int} (hN : NR N) (hg : LOGI N) (hl : 0 ≤ l ∧ l < N 4) (h : (N (119 + (l * 7 + 5))) = -1) (hp : ¬ p = -1) : LOGI (nopn N l p) := by
  have ho := logi_lt hN hg hl h
  have b4 := hN.2.1.2.2.2.1
  have hg : N 14 = nop N (N 4).toNat := hg
  have hl9 : 0 ≤ l ∧ l < 24 := ⟨hl.1, by omega⟩
  unfold LOGI
  rw [nopn_14 hl9 ho, nopn_o (i := 4) (by decide) (by decide) hl9 ho]
  obtain ⟨u, rfl⟩ : ∃ u : Nat, l = (u : Int) := ⟨l.toNat, by omega⟩
  rw [nop_o (by omega) ho h hp _ (by omega), if_pos (by omega)]
  omega
theorem nr_nopn {p : Int} (hN : NR N) (hl : 0 ≤ l ∧ l < N 4) (ho : 0 ≤ N 14 ∧ N 14 < 24) (hp : 0 ≤ p ∧ p < N 3) : NR (nopn N l p) := by
  have b4 := hN.2.1.2.2.2.1
  have hl9 : 0 ≤ l ∧ l < 24 := ⟨hl.1, by omega⟩
  have e : ∀ i, 0 ≤ i ∧ i < 119 → ¬ i = 14 → nopn N l p i = N i := fun i h0 h1 => nopn_o h0 h1 hl9 ho
  obtain ⟨⟨c0, c1, c10, c11, c12, c9⟩, ⟨c2, c5, c3, c4, c6, c14, c7, c13⟩, rF, rP, rL⟩ := id hN
  refine ⟨?_, ?_, fun f f0 f1 => ?_, fun q q0 q1 => ?_, fun k k0 k1 => ?_⟩
  · rw [e 0 (by decide) (by decide), e 1 (by decide) (by decide), e 10 (by decide) (by decide), e 11 (by decide) (by decide), e 12 (by decide) (by decide), e 9 (by decide) (by decide)]
    exact ⟨c0, c1, c10, c11, c12, c9⟩
  · rw [e 2 (by decide) (by decide), e 5 (by decide) (by decide), e 3 (by decide) (by decide), e 4 (by decide) (by decide), e 6 (by decide) (by decide), e 7 (by decide) (by decide), e 13 (by decide) (by decide), nopn_14 hl9 ho]
    exact ⟨c2, c5, c3, c4, c6, ⟨by omega, by omega⟩, c7, c13⟩
  · rw [e 5 (by decide) (by decide)] at f1
    show (0 ≤ nopn N l p (71 + (f * 3 + 0)) ∧ nopn N l p (71 + (f * 3 + 0)) ≤ 299) ∧ (0 ≤ nopn N l p (71 + (f * 3 + 1)) ∧ nopn N l p (71 + (f * 3 + 1)) < nopn N l p 1) ∧ (0 ≤ nopn N l p (71 + (f * 3 + 2)) ∧ nopn N l p (71 + (f * 3 + 2)) ≤ 20)
    rw [e (71 + (f * 3 + 0)) ⟨by omega, by omega⟩ (by omega), e (71 + (f * 3 + 1)) ⟨by omega, by omega⟩ (by omega), e (71 + (f * 3 + 2)) ⟨by omega, by omega⟩ (by omega), e 1 (by decide) (by decide)]
    exact rF f f0 f1
  · rw [e 3 (by decide) (by decide)] at q1
    show (0 ≤ nopn N l p (95 + (q * 3 + 0)) ∧ nopn N l p (95 + (q * 3 + 0)) < nopn N l p 0) ∧ (0 ≤ nopn N l p (95 + (q * 3 + 1)) ∧ nopn N l p (95 + (q * 3 + 1)) < nopn N l p 1) ∧ (-1 ≤ nopn N l p (95 + (q * 3 + 2)) ∧ nopn N l p (95 + (q * 3 + 2)) < nopn N l p 0)
    rw [e (95 + (q * 3 + 0)) ⟨by omega, by omega⟩ (by omega), e (95 + (q * 3 + 1)) ⟨by omega, by omega⟩ (by omega), e (95 + (q * 3 + 2)) ⟨by omega, by omega⟩ (by omega), e 0 (by decide) (by decide), e 1 (by decide) (by decide)]
    exact rP q q0 q1
  · rw [e 4 (by decide) (by decide)] at k1
    have k9 : 0 ≤ k ∧ k < 24 := ⟨k0, by omega⟩
    obtain ⟨d0, d1, d2, d3, d4, d5, d6, d7⟩ := rL k k0 k1
    rw [nopn_L hl9 ho k9 (by decide), nopn_L hl9 ho k9 (by decide), nopn_L hl9 ho k9 (by decide), nopn_L hl9 ho k9 (by decide), nopn_L hl9 ho k9 (by decide), nopn_L hl9 ho k9 (by decide), nopn_L hl9 ho k9 (by decide), e 3 (by decide) (by decide), e 0 (by decide) (by decide), e 9 (by decide) (by decide), e 1 (by decide) (by decide)]
    rw [if_neg (show ¬ (k = l ∧ (0 : Int) = 5) by omega), if_neg (show ¬ (k = l ∧ (0 : Int) = 6) by omega), if_neg (show ¬ (k = l ∧ (1 : Int) = 5) by omega), if_neg (show ¬ (k = l ∧ (1 : Int) = 6) by omega), if_neg (show ¬ (k = l ∧ (2 : Int) = 5) by omega), if_neg (show ¬ (k = l ∧ (2 : Int) = 6) by omega), if_neg (show ¬ (k = l ∧ (3 : Int) = 5) by omega), if_neg (show ¬ (k = l ∧ (3 : Int) = 6) by omega), if_neg (show ¬ (k = l ∧ (4 : Int) = 5) by omega), if_neg (show ¬ (k = l ∧ (4 : Int) = 6) by omega), if_neg (show ¬ (k = l ∧ (6 : Int) = 5) by omega)]
    refine ⟨d0, d1, d2, d3, d4, ?_, ?_, d7⟩
    · by_cases h5 : k = l ∧ (5 : Int) = 5
      · rw [if_pos h5]
        exact ⟨by omega, hp.2⟩
      · rw [if_neg h5, if_neg (show ¬ (k = l ∧ (5 : Int) = 6) by omega)]
        exact d5
    · by_cases h6 : k = l ∧ (6 : Int) = 6
      · rw [if_pos h6]
        exact ⟨by omega, c9.2⟩
      · rw [if_neg h6]
        exact d6
theorem nr_nyr (hN : NR N) (h9 : N 9 < 299) : NR (nyr N) := by
  have e : ∀ i, ¬ i = 9 → nyr N i = N i := fun i h => nup_ne h
  have e9 : nyr N 9 = N 9 + 1 := nup_at
  obtain ⟨⟨c0, c1, c10, c11, c12, c9⟩, ⟨c2, c5, c3, c4, c6, c14, c7, c13⟩, rF, rP, rL⟩ := id hN
  have eL : ∀ k c, 0 ≤ k → 0 ≤ c → ((nyr N) (119 + (k * 7 + c))) = (N (119 + (k * 7 + c))) := fun k c h1 h2 => e _ (by omega)
  have eP : ∀ k c, 0 ≤ k → 0 ≤ c → ((nyr N) (95 + (k * 3 + c))) = (N (95 + (k * 3 + c))) := fun k c h1 h2 => e _ (by omega)
  have eF : ∀ k c, 0 ≤ k → 0 ≤ c → ((nyr N) (71 + (k * 3 + c))) = (N (71 + (k * 3 + c))) := fun k c h1 h2 => e _ (by omega)
  refine ⟨?_, ?_, fun f f0 f1 => ?_, fun q q0 q1 => ?_, fun k k0 k1 => ?_⟩
  · rw [e 0 (by decide), e 1 (by decide), e 10 (by decide), e 11 (by decide), e 12 (by decide), e9]
    exact ⟨c0, c1, c10, c11, c12, by omega, by omega⟩
  · rw [e 2 (by decide), e 5 (by decide), e 3 (by decide), e 4 (by decide), e 6 (by decide), e 14 (by decide), e 7 (by decide), e 13 (by decide)]
    exact ⟨c2, c5, c3, c4, c6, c14, c7, c13⟩
  · rw [e 5 (by decide)] at f1
    rw [eF f 0 f0 (by decide), eF f 1 f0 (by decide), eF f 2 f0 (by decide), e 1 (by decide)]
    exact rF f f0 f1
  · rw [e 3 (by decide)] at q1
    rw [eP q 0 q0 (by decide), eP q 1 q0 (by decide), eP q 2 q0 (by decide), e 0 (by decide), e 1 (by decide)]
    exact rP q q0 q1
  · rw [e 4 (by decide)] at k1
    rw [eL k 0 k0 (by decide), eL k 1 k0 (by decide), eL k 2 k0 (by decide), eL k 3 k0 (by decide), eL k 4 k0 (by decide), eL k 5 k0 (by decide), eL k 6 k0 (by decide), e 3 (by decide), e 0 (by decide), e9, e 1 (by decide)]
    obtain ⟨d0, d1, d2, d3, d4, d5, d6, d7⟩ := rL k k0 k1
    exact ⟨d0, d1, d2, ⟨d3.1, by omega⟩, d4, d5, d6, d7⟩
theorem logi_nyr (hg : LOGI N) : LOGI (nyr N) := by
  have hg : N 14 = nop N (N 4).toNat := hg
  unfold LOGI
  rw [show nyr N 14 = N 14 from nup_ne (by decide), show nyr N 4 = N 4 from nup_ne (by decide), hg]
  refine (nop_e _ (fun u hu => ?_)).symm
  rw [show ((nyr N) (119 + ((u : Int) * 7 + 5))) = (N (119 + ((u : Int) * 7 + 5))) from nup_ne (by omega)]
/-- what one letter does in a year more: the world, how many opened -/
noncomputable def ystep (Ψ : (Int → Int) → Int → Int → Int → Int → Prop) (o dd : Int → Int) (l : Int) (s : (Int → Int) × Int) : (Int → Int) × Int := tif (WTS s.1 l (o l) ∧ ¬ opf s.1 (Ψ s.1) l (dd l) = -1) (nopn s.1 l (opf s.1 (Ψ s.1) l (dd l)), s.2 + 1) s
noncomputable def yrun (Ψ : (Int → Int) → Int → Int → Int → Int → Prop) (o dd : Int → Int) (s : (Int → Int) × Int) : Nat → (Int → Int) × Int
  | 0 => s
  | k + 1 => ystep Ψ o dd (k : Int) (yrun Ψ o dd s k)
end GE
end
/-! 7a18.c8ym -/
section
/-! THE CLASS: one year more (laid by wip/core/c8.py). -/
section YM8
variable {X : Int → Int} {LX d bc bs n : Nat} {K : gm_K} {R : gm_R} {M : gm_M} {Q : gm_Q} {l p c : Int} {N h : Int → Int} {sp : Int → Int → Int} {FI : gm_M → Prop} {Ψ : (Int → Int) → Int → Int → Int → Int → Prop} {o dd : Int → Int}
theorem cs_op_fr : fr [((11 : Nat), none), ((14 : Nat), some (3 : Int)), ((15 : Nat), none)] M (cs_op M l p) := by
  unfold cs_op
  exact fr_p (fr_p (fr_p (fr_p (fr_p (fr_p fr_0 (Or.inl (by decide))) (Or.inl (by decide))) (Or.inr (by decide))) (Or.inl (by decide))) (Or.inl (by decide))) (Or.inl (by decide))
/-- the ends, told by functions -/
noncomputable def ENF (N : Int → Int) (o dd : Int → Int) (M : gm_M) : Prop := M 220 3 = N 4 ∧ ∀ l, 0 ≤ l → l < N 4 → M 221 (l * 2 + 0) = o l ∧ M 221 (l * 2 + 1) = dd l ∧ -1 ≤ o l ∧ o l ≤ 299
theorem opf_b {ψ : Int → Int → Int → Int → Prop} {dp : Int} (hN : NR N) (h1 : 0 ≤ l ∧ l < N 4) (hr : 0 ≤ (N (119 + (l * 7 + 0)))) : -1 ≤ opf N ψ l dp ∧ opf N ψ l dp < N 3 := by
  obtain ⟨-, r1, -, -, -, -, -, r7⟩ := hN.2.2.2.2 l h1.1 h1.2
  have r8 := r7 hr
  have b3 := hN.2.1.2.2.1
  unfold opf
  by_cases h : (N (95 + (((N (119 + (l * 7 + 1)))) * 3 + 2))) = (N (119 + (l * 7 + 2)))
  · rw [tif_t h]
    exact ⟨by omega, r1.2⟩
  · rw [tif_f h]
    obtain ⟨a, b, -⟩ := fo_b (C := wop N ψ l dp) (N 3).toNat 0 (Int.le_refl _)
    exact ⟨a, by omega⟩
theorem ym_b (hd : 5 ≤ d) (hE : E0 n K R) (hT : TI N h sp M) (hN : NR N) (hg : LOGI N) (hst : FSt FI) (hmo : MOW X LX n K R N h sp FI (Ψ N)) (hI : FI M) (hen : ENF N o dd M) (h1 : 0 ≤ l ∧ l < N 4) (hc : 0 ≤ c ∧ c ≤ 24) (hq : ∀ z M2, fr [((3 : Nat), some (6 : Int)), ((11 : Nat), none), ((14 : Nat), some (3 : Int)), ((15 : Nat), none), ((204 : Nat), none)] M M2 → cs M2 3 = (ystep Ψ o dd l (N, c)).1 → gm_Wp X LX d bc bs 162 17 [some (gm_vr 1), some (gm_vi (ystep Ψ o dd l (N, c)).2), some (gm_vi (l + 1)), z] [] n K R M2 Q) (z : Option gm_V) : gm_Wp X LX d bc bs 162 17 [some (gm_vr 1), some (gm_vi c), some (gm_vi l), z] [] n K R M Q := by
  obtain ⟨⟨⟨a0, b0⟩, ⟨a1, b1⟩, ⟨a10, b10⟩, ⟨a11, b11⟩, ⟨a12, b12⟩, a9, b9⟩, ⟨⟨a2, b2⟩, ⟨a5, b5⟩, ⟨a3, b3⟩, ⟨a4, b4⟩, ⟨a6, b6⟩, ⟨a14, b14⟩, ⟨a7, b7⟩, a13, b13⟩, rF, rP, rL⟩ := id hN
  obtain ⟨h3, hen9⟩ := hen
  obtain ⟨ho, hdp, hob⟩ := hen9 l h1.1 h1.2
  have hl24 : 0 ≤ l ∧ l < 24 := ⟨h1.1, by omega⟩
  have r9 := (rL l h1.1 h1.2).1
  have fo9 := fo_b (C := wop N (Ψ N) l (dd l)) (N 3).toNat 0 (Int.le_refl _)

  refine gm_sz (gm_p_load (pc := 17) (i := .iload_n 2) (sr := 0) (j := 2) (by decide +kernel) rfl rfl rfl) ?_
  refine gm_sz (gm_p_load (pc := 18) (i := .aload_n 0) (sr := 2) (j := 0) (by decide +kernel) rfl rfl rfl) ?_
  refine gm_sz (fw_gr (pc := 19) (ix := 23) (ci := 0) (j := 3) (r := 3) (by decide +kernel) (e0k hE (k := 1) (c := 0) (by decide +kernel)) (by decide +kernel) (by decide +kernel) (e0r hE (k := 1) (j := 3) (r := 3) (by decide +kernel))) ?_
  refine gm_sz (fw_gr (pc := 22) (ix := 203) (ci := 1) (j := 12) (r := 10) (by decide +kernel) (e0k hE (k := 3) (c := 1) (by decide +kernel)) (by decide +kernel) (by decide +kernel) (e0r hE (k := 3) (j := 12) (r := 10) (by decide +kernel))) ?_
  refine gm_c_virt (k := 10) (ci := 2) (mj := 9) (ix := 277) (pc := 25) (as := []) (st := [gm_vi l]) (d' := d - 1) (bc' := 0) (bs' := 0) (by decide +kernel) (by decide +kernel) (by decide +kernel) (by decide +kernel) (e0k hE (k := 10) (c := 2) (by decide +kernel)).1 (e0k hE (k := 10) (c := 2) (by decide +kernel)).2 (by decide) (by decide +kernel) (show 0 = gm_na 9 by decide +kernel) fw_c0 (show 1 ≤ gm_ml 9 by decide +kernel) (Nat.le_of_ble_eq_true rfl) (by omega) (Nat.zero_le _) (Nat.zero_le _) ?_
  refine rw_size (s := N 4) (e0k hE (k := 10) (c := 2) (by decide +kernel)) (ti_let hT) ?_
  show gm_Wp X LX d _ _ 162 28 _ [gm_vi (N 4), gm_vi l] n K _ _ Q
  refine fw_icf (cc := .ge) (pc := 28) (off := 40) (by decide +kernel) (by decide) ⟨by omega, by omega⟩ ⟨by omega, by omega⟩ (show ¬ (N 4) ≤ l by omega) ?_
  refine gm_sz (gm_p_load (pc := 31) (i := .aload_n 0) (sr := 2) (j := 0) (by decide +kernel) rfl rfl rfl) ?_
  refine gm_sz (gm_p_load (pc := 32) (i := .iload_n 2) (sr := 0) (j := 2) (by decide +kernel) rfl rfl rfl) ?_
  refine gm_c_virt (k := 1) (ci := 0) (mj := 66) (ix := 257) (pc := 33) (as := [gm_vi l]) (st := []) (d' := d - 1) (bc' := 0) (bs' := 0) (by decide +kernel) (by decide +kernel) (by decide +kernel) (by decide +kernel) (e0k hE (k := 1) (c := 0) (by decide +kernel)).1 (e0k hE (k := 1) (c := 0) (by decide +kernel)).2 (by decide) (by decide +kernel) (show 1 = gm_na 66 by decide +kernel) (fw_c1 fw_si) (show 2 ≤ gm_ml 66 by decide +kernel) (Nat.le_of_ble_eq_true rfl) (by omega) (Nat.zero_le _) (Nat.zero_le _) ?_
  refine wt_c66 (by omega) hE hT hN h1 h3 ho hob (fun v33 => ?_) (fun v33 => ?_)
  · show gm_Wp X LX d _ _ 162 36 _ [gm_vi 1] n K _ _ Q
    have w33 : 0 ≤ (N (119 + (l * 7 + 0))) := by have := v33.1; omega
    refine fw_iffd (cc := .eq) (pc := 36) (off := 26) (by decide +kernel) (by decide) ⟨by decide, by decide⟩ (by decide) ?_
    refine gm_sz (gm_p_load (pc := 39) (i := .aload_n 0) (sr := 2) (j := 0) (by decide +kernel) rfl rfl rfl) ?_
    refine gm_sz (gm_p_load (pc := 40) (i := .iload_n 2) (sr := 0) (j := 2) (by decide +kernel) rfl rfl rfl) ?_
    refine gm_c_virt (k := 1) (ci := 0) (mj := 163) (ix := 280) (pc := 41) (as := [gm_vi l]) (st := []) (d' := d - 1) (bc' := 0) (bs' := 0) (by decide +kernel) (by decide +kernel) (by decide +kernel) (by decide +kernel) (e0k hE (k := 1) (c := 0) (by decide +kernel)).1 (e0k hE (k := 1) (c := 0) (by decide +kernel)).2 (by decide) (by decide +kernel) (show 1 = gm_na 163 by decide +kernel) (fw_c1 fw_si) (show 2 ≤ gm_ml 163 by decide +kernel) (Nat.le_of_ble_eq_true rfl) (by omega) (Nat.zero_le _) (Nat.zero_le _) ?_
    refine op_c163 (dp := dd l) (by omega) hE hT hN hst hmo hI h1 w33 h3 hdp (fun M41 hf41 => ?_)
    show gm_Wp X LX d _ _ 162 44 _ [gm_vi (opf N (Ψ N) l (dd l))] n K _ _ Q
    have b41 := opf_b (ψ := Ψ N) (dp := dd l) hN h1 w33
    refine gm_sz (gm_p_stor (pc := 44) (i := .istore_n 3) (sr := 0) (j := 3) (by decide +kernel) rfl (show 4 ≤ _ from Nat.le_of_ble_eq_true rfl) rfl) ?_
    refine gm_sz (gm_p_load (pc := 45) (i := .iload_n 3) (sr := 0) (j := 3) (by decide +kernel) rfl rfl rfl) ?_
    refine gm_sz (gm_p_const (pc := 46) (i := .iconst (-1)) (v := gm_vi (-1)) (by decide +kernel) (by decide +kernel)) ?_
    refine fw_ic (cc := .eq) (pc := 47) (off := 15) (by decide +kernel) (by decide) ⟨by omega, by omega⟩ ⟨by decide, by decide⟩ (fun h47 => ?_) (fun h47 => ?_)
    · have h47 : (opf N (Ψ N) l (dd l)) = (-1) := h47
      refine gm_sz (gm_p_iinc (pc := 62) (j := 2) (z := 1) (by decide +kernel) rfl) ?_
      refine gm_sz (gm_p_goto (pc := 65) (off := (-48)) (by decide +kernel) (by decide)) ?_
      have e9 : ystep Ψ o dd l (N, c) = (N, c) := tif_f (fun hh => hh.2 h47)
      rw [e9] at hq
      exact hq _ _ (fr_t fr_0 hf41 (by decide)) (ti_fr (W := [((204 : Nat), none)]) hT hf41 (by decide) (by decide +kernel)).2.1
    · have h47 : ¬ (opf N (Ψ N) l (dd l)) = (-1) := h47
      refine gm_sz (gm_p_load (pc := 50) (i := .aload_n 0) (sr := 2) (j := 0) (by decide +kernel) rfl rfl rfl) ?_
      refine gm_sz (fw_gr (pc := 51) (ix := 23) (ci := 0) (j := 3) (r := 3) (by decide +kernel) (e0k hE (k := 1) (c := 0) (by decide +kernel)) (by decide +kernel) (by decide +kernel) (e0r hE (k := 1) (j := 3) (r := 3) (by decide +kernel))) ?_
      refine gm_sz (gm_p_load (pc := 54) (i := .iload_n 2) (sr := 0) (j := 2) (by decide +kernel) rfl rfl rfl) ?_
      refine gm_sz (gm_p_load (pc := 55) (i := .iload_n 3) (sr := 0) (j := 3) (by decide +kernel) rfl rfl rfl) ?_
      refine gm_c_virt (k := 3) (ci := 1) (mj := 159) (ix := 266) (pc := 56) (as := [gm_vi l, gm_vi (opf N (Ψ N) l (dd l))]) (st := []) (d' := d - 1) (bc' := 0) (bs' := 0) (by decide +kernel) (by decide +kernel) (by decide +kernel) (by decide +kernel) (e0k hE (k := 3) (c := 1) (by decide +kernel)).1 (e0k hE (k := 3) (c := 1) (by decide +kernel)).2 (by decide) (by decide +kernel) (show 2 = gm_na 159 by decide +kernel) (fw_c2 fw_si fw_si) (show 3 ≤ gm_ml 159 by decide +kernel) (Nat.le_of_ble_eq_true rfl) (by omega) (Nat.zero_le _) (Nat.zero_le _) ?_
      refine cs_opn (by omega) hE (cst_fr (W := [((204 : Nat), none)]) hT.1 (fr_t fr_0 hf41 (by decide)) (by decide +kernel)) (by rw [ti_let (ti_fr (W := [((204 : Nat), none)]) hT (fr_t fr_0 hf41 (by decide)) (by decide) (by decide +kernel))]; exact h1) (by rw [ti_let (ti_fr (W := [((204 : Nat), none)]) hT (fr_t fr_0 hf41 (by decide)) (by decide) (by decide +kernel))]; omega) (by rw [ti_ope (ti_fr (W := [((204 : Nat), none)]) hT (fr_t fr_0 hf41 (by decide)) (by decide) (by decide +kernel))]; exact logi_lt hN hg h1 v33.2.1) ?_
      show gm_Wp X LX d _ _ 162 59 _ [] n K _ _ Q
      refine gm_sz (gm_p_iinc (pc := 59) (j := 1) (z := 1) (by decide +kernel) rfl) ?_
      refine gm_sz (gm_p_iinc (pc := 62) (j := 2) (z := 1) (by decide +kernel) rfl) ?_
      refine gm_sz (gm_p_goto (pc := 65) (off := (-48)) (by decide +kernel) (by decide)) ?_
      have e9 : ystep Ψ o dd l (N, c) = (nopn N l (opf N (Ψ N) l (dd l)), c + 1) := tif_t ⟨v33, h47⟩
      rw [e9] at hq
      exact hq _ _ (fr_t (fr_t fr_0 hf41 (by decide)) cs_op_fr (by decide)) (cs_op_n (ti_fr (W := [((204 : Nat), none)]) hT hf41 (by decide) (by decide +kernel)).2.1 hl24 (logi_lt hN hg h1 v33.2.1))
  · show gm_Wp X LX d _ _ 162 36 _ [gm_vi 0] n K _ _ Q
    refine fw_iftd (cc := .eq) (pc := 36) (off := 26) (by decide +kernel) (by decide) ⟨by decide, by decide⟩ (by decide) ?_
    refine gm_sz (gm_p_iinc (pc := 62) (j := 2) (z := 1) (by decide +kernel) rfl) ?_
    refine gm_sz (gm_p_goto (pc := 65) (off := (-48)) (by decide +kernel) (by decide)) ?_
    have e9 : ystep Ψ o dd l (N, c) = (N, c) := tif_f (fun hh => v33 hh.1)
    rw [e9] at hq
    exact hq _ _ fr_0 hT.2.1
theorem ym_e (hd : 1 ≤ d) (hE : E0 n K R) (hT : TI N h sp M) (hN : NR N) (h1 : l = N 4) (hq : Q (.inl (some (gm_vi c))) n K R M) (z : Option gm_V) : gm_Wp X LX d bc bs 162 17 [some (gm_vr 1), some (gm_vi c), some (gm_vi l), z] [] n K R M Q := by
  obtain ⟨⟨⟨a0, b0⟩, ⟨a1, b1⟩, ⟨a10, b10⟩, ⟨a11, b11⟩, ⟨a12, b12⟩, a9, b9⟩, ⟨⟨a2, b2⟩, ⟨a5, b5⟩, ⟨a3, b3⟩, ⟨a4, b4⟩, ⟨a6, b6⟩, ⟨a14, b14⟩, ⟨a7, b7⟩, a13, b13⟩, rF, rP, rL⟩ := id hN
  have h3 : True := trivial
  refine gm_sz (gm_p_load (pc := 17) (i := .iload_n 2) (sr := 0) (j := 2) (by decide +kernel) rfl rfl rfl) ?_
  refine gm_sz (gm_p_load (pc := 18) (i := .aload_n 0) (sr := 2) (j := 0) (by decide +kernel) rfl rfl rfl) ?_
  refine gm_sz (fw_gr (pc := 19) (ix := 23) (ci := 0) (j := 3) (r := 3) (by decide +kernel) (e0k hE (k := 1) (c := 0) (by decide +kernel)) (by decide +kernel) (by decide +kernel) (e0r hE (k := 1) (j := 3) (r := 3) (by decide +kernel))) ?_
  refine gm_sz (fw_gr (pc := 22) (ix := 203) (ci := 1) (j := 12) (r := 10) (by decide +kernel) (e0k hE (k := 3) (c := 1) (by decide +kernel)) (by decide +kernel) (by decide +kernel) (e0r hE (k := 3) (j := 12) (r := 10) (by decide +kernel))) ?_
  refine gm_c_virt (k := 10) (ci := 2) (mj := 9) (ix := 277) (pc := 25) (as := []) (st := [gm_vi l]) (d' := d - 1) (bc' := 0) (bs' := 0) (by decide +kernel) (by decide +kernel) (by decide +kernel) (by decide +kernel) (e0k hE (k := 10) (c := 2) (by decide +kernel)).1 (e0k hE (k := 10) (c := 2) (by decide +kernel)).2 (by decide) (by decide +kernel) (show 0 = gm_na 9 by decide +kernel) fw_c0 (show 1 ≤ gm_ml 9 by decide +kernel) (Nat.le_of_ble_eq_true rfl) (by omega) (Nat.zero_le _) (Nat.zero_le _) ?_
  refine rw_size (s := N 4) (e0k hE (k := 10) (c := 2) (by decide +kernel)) (ti_let hT) ?_
  show gm_Wp X LX d _ _ 162 28 _ [gm_vi (N 4), gm_vi l] n K _ _ Q
  refine fw_ict (cc := .ge) (pc := 28) (off := 40) (by decide +kernel) (by decide) ⟨by omega, by omega⟩ ⟨by omega, by omega⟩ (show (N 4) ≤ l by omega) ?_
  refine gm_sz (gm_p_load (pc := 68) (i := .iload_n 1) (sr := 0) (j := 1) (by decide +kernel) rfl rfl rfl) ?_
  exact gm_r_int (pc := 69) (by decide +kernel) (Or.inl (by decide +kernel)) hq
/-- what the letters do keeps the valley, the log, the bounds -/
theorem ym_i (hN : NR N) (hg : LOGI N) {s0 : Int} (h0 : 0 ≤ s0) : ∀ k : Nat, (k : Int) ≤ N 4 → NR (yrun Ψ o dd (N, s0) k).1 ∧ LOGI (yrun Ψ o dd (N, s0) k).1 ∧ geo N (yrun Ψ o dd (N, s0) k).1 ∧ (yrun Ψ o dd (N, s0) k).1 4 = N 4 ∧ s0 ≤ (yrun Ψ o dd (N, s0) k).2 ∧ (yrun Ψ o dd (N, s0) k).2 ≤ s0 + (k : Int) := by
  intro k
  induction k with
  | zero => exact fun _ => ⟨hN, hg, geo_r, rfl, Int.le_refl _, by show s0 ≤ s0 + ((0 : Nat) : Int); omega⟩
  | succ k ih =>
    intro hk
    obtain ⟨i1, i2, i3, i4, i5, i6⟩ := ih (by omega)
    show NR (ystep Ψ o dd (k : Int) (yrun Ψ o dd (N, s0) k)).1 ∧ LOGI (ystep Ψ o dd (k : Int) (yrun Ψ o dd (N, s0) k)).1 ∧ geo N (ystep Ψ o dd (k : Int) (yrun Ψ o dd (N, s0) k)).1 ∧ (ystep Ψ o dd (k : Int) (yrun Ψ o dd (N, s0) k)).1 4 = N 4 ∧ s0 ≤ (ystep Ψ o dd (k : Int) (yrun Ψ o dd (N, s0) k)).2 ∧ (ystep Ψ o dd (k : Int) (yrun Ψ o dd (N, s0) k)).2 ≤ s0 + ((k + 1 : Nat) : Int)
    generalize yrun Ψ o dd (N, s0) k = s at i1 i2 i3 i4 i5 i6 ⊢
    unfold ystep
    by_cases h : WTS s.1 (k : Int) (o (k : Int)) ∧ ¬ opf s.1 (Ψ s.1) (k : Int) (dd (k : Int)) = -1
    · rw [tif_t h]
      have hl : 0 ≤ (k : Int) ∧ (k : Int) < s.1 4 := ⟨by omega, by omega⟩
      have b4 := i1.2.1.2.2.2.1
      have ho := logi_lt i1 i2 hl h.1.2.1
      have r9 := (i1.2.2.2.2 (k : Int) hl.1 hl.2).1
      have hb := opf_b (ψ := Ψ s.1) (dp := dd (k : Int)) i1 hl (by have := h.1.1; omega)
      exact ⟨nr_nopn i1 hl ho ⟨by have := h.2; omega, hb.2⟩, logi_nopn i1 i2 hl h.1.2.1 h.2, geo_t i3 (geo_nopn ⟨hl.1, by omega⟩ ho), (nopn_o (i := 4) (by decide) (by decide) ⟨hl.1, by omega⟩ ho).trans i4, by show s0 ≤ s.2 + 1; omega, by show s.2 + 1 ≤ _; omega⟩
    · rw [tif_f h]
      exact ⟨i1, i2, i3, i4, i5, by omega⟩
theorem ym_l (hd : 5 ≤ d) (hE : E0 n K R) (hT : TI N h sp M) (hN : NR N) (hg : LOGI N) (h9 : N 9 < 299) (hst : FSt FI) (hmo : ∀ N2, geo N N2 → NR N2 → MOW X LX n K R N2 h sp FI (Ψ N2)) (hI : FI M) (hen : ENF N o dd M) (hq : ∀ M2, fr [((3 : Nat), some (6 : Int)), ((11 : Nat), none), ((14 : Nat), some (3 : Int)), ((15 : Nat), none), ((204 : Nat), none)] M M2 → cs M2 3 = (yrun Ψ o dd (nyr N, 0) (N 4).toNat).1 → Q (.inl (some (gm_vi (yrun Ψ o dd (nyr N, 0) (N 4).toNat).2))) n K R M2) : ∀ (u k : Nat) (z : Option gm_V) (M1 : gm_M), (k : Int) + (u : Int) = N 4 → fr [((3 : Nat), some (6 : Int)), ((11 : Nat), none), ((14 : Nat), some (3 : Int)), ((15 : Nat), none), ((204 : Nat), none)] M M1 → cs M1 3 = (yrun Ψ o dd (nyr N, 0) k).1 → gm_Wp X LX d bc bs 162 17 [some (gm_vr 1), some (gm_vi (yrun Ψ o dd (nyr N, 0) k).2), some (gm_vi (k : Int)), z] [] n K R M1 Q := by
  have b4 := hN.2.1.2.2.2.1
  have e4 : nyr N 4 = N 4 := nup_ne (by decide)
  have inv : ∀ k : Nat, (k : Int) ≤ N 4 → NR (yrun Ψ o dd (nyr N, 0) k).1 ∧ LOGI (yrun Ψ o dd (nyr N, 0) k).1 ∧ geo (nyr N) (yrun Ψ o dd (nyr N, 0) k).1 ∧ (yrun Ψ o dd (nyr N, 0) k).1 4 = nyr N 4 ∧ 0 ≤ (yrun Ψ o dd (nyr N, 0) k).2 ∧ (yrun Ψ o dd (nyr N, 0) k).2 ≤ 0 + (k : Int) := fun k hk => ym_i (nr_nyr hN h9) (logi_nyr hg) (Int.le_refl 0) k (by rw [e4]; exact hk)
  have tie : ∀ (k : Nat) (M1 : gm_M), (k : Int) ≤ N 4 → fr [((3 : Nat), some (6 : Int)), ((11 : Nat), none), ((14 : Nat), some (3 : Int)), ((15 : Nat), none), ((204 : Nat), none)] M M1 → cs M1 3 = (yrun Ψ o dd (nyr N, 0) k).1 → TI (yrun Ψ o dd (nyr N, 0) k).1 h sp M1 := fun k M1 hk hf hc => ti_geo (geo_t geo_nyr (inv k hk).2.2.1) hT (cst_fr hT.1 hf (by decide +kernel)) hc (fun a j a1 a2 => hf a j (fun hm => by simp at hm; omega) (fun hm => by simp at hm; omega))
  intro u
  induction u with
  | zero =>
    intro k z M1 hk hf hc
    have ek : (N 4).toNat = k := by omega
    rw [ek] at hq
    obtain ⟨i1, -, -, i4, -⟩ := inv k (by omega)
    exact ym_e (by omega) hE (tie k M1 (by omega) hf hc) i1 (by rw [i4, e4]; omega) (hq M1 hf hc) z
  | succ u ih =>
    intro k z M1 hk hf hc
    obtain ⟨i1, i2, i3, i4, i5, i6⟩ := inv k (by omega)
    have en : ENF (yrun Ψ o dd (nyr N, 0) k).1 o dd M1 := ⟨by rw [i4, e4]; exact (fr_c hf (by decide)).trans hen.1, fun l l0 l1 => by
      rw [i4, e4] at l1
      obtain ⟨a, b, c⟩ := hen.2 l l0 l1
      exact ⟨(fr_c hf (by decide)).trans a, (fr_c hf (by decide)).trans b, c⟩⟩
    refine ym_b hd hE (tie k M1 (by omega) hf hc) i1 i2 hst (hmo _ (geo_t geo_nyr i3) i1) (hst [(3, some 6), (11, none), (14, some 3), (15, none), (204, none)] _ _ (by decide) hf hI) en ⟨by omega, by rw [i4, e4]; omega⟩ ⟨i5, by omega⟩ (fun z2 M2 hf2 hc2 => ?_) z
    have q := ih (k + 1) z2 M2 (by omega) (fr_t hf hf2 (by decide)) hc2
    rwa [show ((k + 1 : Nat) : Int) = (k : Int) + 1 by omega] at q
theorem ym_c162 (hd : 5 ≤ d) (hE : E0 n K R) (hT : TI N h sp M) (hN : NR N) (hg : LOGI N) (h9 : N 9 < 299) (hst : FSt FI) (hmo : ∀ N2, geo N N2 → NR N2 → MOW X LX n K R N2 h sp FI (Ψ N2)) (hI : FI M) (hen : ENF N o dd M) (hq : ∀ M2, fr [((3 : Nat), some (6 : Int)), ((11 : Nat), none), ((14 : Nat), some (3 : Int)), ((15 : Nat), none), ((204 : Nat), none)] M M2 → cs M2 3 = (yrun Ψ o dd (nyr N, 0) (N 4).toNat).1 → Q (.inl (some (gm_vi (yrun Ψ o dd (nyr N, 0) (N 4).toNat).2))) n K R M2) : gm_Wp X LX d bc bs 162 0 (gm_ent 162 [gm_vr 1]) [] n K R M Q := by
  obtain ⟨⟨⟨a0, b0⟩, ⟨a1, b1⟩, ⟨a10, b10⟩, ⟨a11, b11⟩, ⟨a12, b12⟩, a9, b9⟩, ⟨⟨a2, b2⟩, ⟨a5, b5⟩, ⟨a3, b3⟩, ⟨a4, b4⟩, ⟨a6, b6⟩, ⟨a14, b14⟩, ⟨a7, b7⟩, a13, b13⟩, rF, rP, rL⟩ := id hN
  refine gm_sz (gm_p_load (pc := 0) (i := .aload_n 0) (sr := 2) (j := 0) (by decide +kernel) rfl rfl rfl) ?_
  refine gm_sz (fw_gr (pc := 1) (ix := 23) (ci := 0) (j := 3) (r := 3) (by decide +kernel) (e0k hE (k := 1) (c := 0) (by decide +kernel)) (by decide +kernel) (by decide +kernel) (e0r hE (k := 1) (j := 3) (r := 3) (by decide +kernel))) ?_
  refine gm_sz (gm_p_dup (pc := 4) (by decide +kernel) fw_sr) ?_
  refine gm_sz (fw_gi (pc := 5) (ix := 269) (ci := 1) (j := 6) (x := N 9) (by decide +kernel) (e0k hE (k := 3) (c := 1) (by decide +kernel)) (by decide +kernel) (by decide +kernel) (ti_now hT)) ?_
  refine gm_sz (gm_p_const (pc := 8) (i := .iconst 1) (v := gm_vi 1) (by decide +kernel) (by decide +kernel)) ?_
  refine gm_sz (gm_p_bin (pc := 9) (i := .iadd) (f := fun x y => x + y) (by decide +kernel) rfl) ?_
  refine gm_sz (fw_pi (pc := 10) (ix := 269) (ci := 1) (j := 6) (M' := gm_uM M 3 6 ((N 9) + 1)) (by decide +kernel) (e0k hE (k := 3) (c := 1) (by decide +kernel)) (by decide +kernel) (by decide +kernel) (by decide +kernel) rfl) ?_
  refine gm_sz (gm_p_const (pc := 13) (i := .iconst 0) (v := gm_vi 0) (by decide +kernel) (by decide +kernel)) ?_
  refine gm_sz (gm_p_stor (pc := 14) (i := .istore_n 1) (sr := 0) (j := 1) (by decide +kernel) rfl (show 2 ≤ _ from Nat.le_of_ble_eq_true rfl) rfl) ?_
  refine gm_sz (gm_p_const (pc := 15) (i := .iconst 0) (v := gm_vi 0) (by decide +kernel) (by decide +kernel)) ?_
  refine gm_sz (gm_p_stor (pc := 16) (i := .istore_n 2) (sr := 0) (j := 2) (by decide +kernel) rfl (show 3 ≤ _ from Nat.le_of_ble_eq_true rfl) rfl) ?_
  exact ym_l hd hE hT hN hg h9 hst hmo hI hen hq (N 4).toNat 0 _ _ (by omega) (fr_p fr_0 (Or.inr (by decide))) (by rw [cs_f9 (b := 3), hT.2.1]; rfl)
end YM8
end
/-! 7a19.r4ym -/
section
/-! THE REFERENCE: who waits, one year more (laid by wip/core/r4.py). -/
section YM4
variable {X : Int → Int} {LX d bc bs n : Nat} {K : gm_K} {R : gm_R} {M : gm_M} {Q : gm_Q} {l p c v : Int} {N h : Int → Int} {FI : gm_M → Prop} {φ : Int → Int → Int → Int} {Ψ : (Int → Int) → Int → Int → Int → Int → Prop} {o dd : Int → Int}
/-- what a run tells -/
theorem rrun_o {M2 : gm_M} (hr : rrun N h φ ((N (119 + (l * 7 + 2)))) (if (N (119 + (l * 7 + 0))) = -1 then 1 else 0) (-1) ((N (119 + (l * 7 + 3)))) ((N (119 + (l * 7 + 4)))) M2) (h3 : 0 ≤ (N (119 + (l * 7 + 3)))) {o9 d9 : Int} (ho : OUTR N h φ l o9 d9) : M2 226 29 = o9 ∧ (0 ≤ o9 → M2 237 o9 = d9) := by
  obtain ⟨-, b, c⟩ := hr
  have key : OUTR N h φ l (M2 226 29) (if M2 226 29 = -1 then 0 else M2 237 (M2 226 29)) := by
    rcases c with ⟨c1, c2⟩ | ⟨j, c1, c2, c3, c4⟩
    · exact Or.inl ⟨c1, fun j hj => c2 j (by omega)⟩
    · refine Or.inr ⟨j, by omega, c2, c3, c4, ?_⟩
      rw [if_neg (by omega), c2]
      exact (b j c1).2
  obtain ⟨e1, e2⟩ := OUTR_u key ho
  refine ⟨e1, fun h0 => ?_⟩
  have := e2 h3 (by omega)
  rw [if_neg (by omega), e1] at this
  exact this
theorem re_sl272 (hE : E0 n K R) (h1 : 0 ≤ l ∧ l < 24) (h2 : 0 ≤ c ∧ c < 7) (q0 : Q (.inl (none)) n K R (gm_uM M 227 ((119 + (7 * l)) + c) v)) : gm_Wp X LX d bc bs 272 0 (gm_ent 272 [gm_vr 226, gm_vi l, gm_vi c, gm_vi v]) [] n K R M Q := by
  refine gm_sz (gm_p_load (pc := 0) (i := .aload_n 0) (sr := 2) (j := 0) (by decide +kernel) rfl rfl rfl) ?_
  refine gm_sz (fw_gr (pc := 1) (ix := 13) (ci := 11) (j := 1) (r := 227) (by decide +kernel) (e0k hE (k := 226) (c := 11) (by decide +kernel)) (by decide +kernel) (by decide +kernel) (e0r hE (k := 226) (j := 1) (r := 227) (by decide +kernel))) ?_
  refine gm_sz (gm_p_const (pc := 4) (i := .bipush 119) (v := gm_vi 119) (by decide +kernel) (by decide +kernel)) ?_
  refine gm_sz (gm_p_const (pc := 6) (i := .bipush 7) (v := gm_vi 7) (by decide +kernel) (by decide +kernel)) ?_
  refine gm_sz (gm_p_load (pc := 8) (i := .iload_n 1) (sr := 0) (j := 1) (by decide +kernel) rfl rfl rfl) ?_
  refine gm_sz (gm_p_bin (pc := 9) (i := .imul) (f := fun x y => x * y) (by decide +kernel) rfl) ?_
  refine gm_sz (gm_p_bin (pc := 10) (i := .iadd) (f := fun x y => x + y) (by decide +kernel) rfl) ?_
  refine gm_sz (gm_p_load (pc := 11) (i := .iload_n 2) (sr := 0) (j := 2) (by decide +kernel) rfl rfl rfl) ?_
  refine gm_sz (gm_p_bin (pc := 12) (i := .iadd) (f := fun x y => x + y) (by decide +kernel) rfl) ?_
  refine gm_sz (gm_p_load (pc := 13) (i := .iload_n 3) (sr := 0) (j := 3) (by decide +kernel) rfl rfl rfl) ?_
  refine gm_sz (fw_is (pc := 14) (k := 227) (len := 2093) (e0 := (119 + (7 * l)) + c) (x := v) (M' := gm_uM M 227 ((119 + (7 * l)) + c) v) (by decide +kernel) (e0a hE (k := 227) (q := ((0 : Nat), (2093 : Nat))) (by decide +kernel)).1 (e0a hE (k := 227) (q := ((0 : Nat), (2093 : Nat))) (by decide +kernel)).2 (by decide) ⟨by omega, by omega⟩ rfl) ?_
  exact gm_r_void (pc := 15) (by decide +kernel) (by decide +kernel) q0
theorem re_now9 (hE : E0 n K R) (hv : M 227 9 = v) (hq : Q (.inl (some (gm_vi v))) n K R M) : gm_Wp X LX d bc bs 266 0 (gm_ent 266 [gm_vr 226]) [] n K R M Q := by
  refine gm_sz (gm_p_load (pc := 0) (i := .aload_n 0) (sr := 2) (j := 0) (by decide +kernel) rfl rfl rfl) ?_
  refine gm_sz (fw_gr (pc := 1) (ix := 13) (ci := 11) (j := 1) (r := 227) (by decide +kernel) (e0k hE (k := 226) (c := 11) (by decide +kernel)) (by decide +kernel) (by decide +kernel) (e0r hE (k := 226) (j := 1) (r := 227) (by decide +kernel))) ?_
  refine gm_sz (gm_p_const (pc := 4) (i := .bipush 9) (v := gm_vi 9) (by decide +kernel) (by decide +kernel)) ?_
  refine gm_sz (fw_ia (pc := 6) (k := 227) (len := 2093) (e0 := 9) (x := v) (by decide +kernel) (e0a hE (k := 227) (q := ((0 : Nat), (2093 : Nat))) (by decide +kernel)).1 (e0a hE (k := 227) (q := ((0 : Nat), (2093 : Nat))) (by decide +kernel)).2 (by decide) ⟨by omega, by omega⟩ hv) ?_
  exact gm_r_int (pc := 7) (by decide +kernel) (Or.inl (by decide +kernel)) hq
theorem re_op (hd : 2 ≤ d) (hE : E0 n K R) (hT : TR N h M) (hN : NR N) (h1 : 0 ≤ l ∧ l < 24) (h2 : 0 ≤ N 14 ∧ N 14 < 24) (hq : ∀ M2, fr [((227 : Nat), none)] M M2 → ws (M2 227) = nopn N l p → (∀ j, 395 ≤ j → M2 227 j = M 227 j) → M2 227 8 = M 227 8 → Q (.inl none) n K R M2) : gm_Wp X LX d bc bs 319 0 (gm_ent 319 [gm_vr 226, gm_vi l, gm_vi p]) [] n K R M Q := by
  refine gm_sz (gm_p_load (pc := 0) (i := .aload_n 0) (sr := 2) (j := 0) (by decide +kernel) rfl rfl rfl) ?_
  refine gm_sz (gm_p_load (pc := 1) (i := .iload_n 1) (sr := 0) (j := 1) (by decide +kernel) rfl rfl rfl) ?_
  refine gm_sz (gm_p_const (pc := 2) (i := .iconst 5) (v := gm_vi 5) (by decide +kernel) (by decide +kernel)) ?_
  refine gm_sz (gm_p_load (pc := 3) (i := .iload_n 2) (sr := 0) (j := 2) (by decide +kernel) rfl rfl rfl) ?_
  refine gm_c_virt (k := 226) (ci := 11) (mj := 272) (ix := 173) (pc := 4) (as := [gm_vi l, gm_vi 5, gm_vi p]) (st := []) (d' := d - 1) (bc' := 0) (bs' := 0) (by decide +kernel) (by decide +kernel) (by decide +kernel) (by decide +kernel) (e0k hE (k := 226) (c := 11) (by decide +kernel)).1 (e0k hE (k := 226) (c := 11) (by decide +kernel)).2 (by decide) (by decide +kernel) (show 3 = gm_na 272 by decide +kernel) (fw_c3 fw_si fw_si fw_si) (show 4 ≤ gm_ml 272 by decide +kernel) (Nat.le_of_ble_eq_true rfl) (by omega) (Nat.zero_le _) (Nat.zero_le _) ?_
  refine re_sl272 hE ⟨by omega, by omega⟩ ⟨by omega, by omega⟩ ?_
  show gm_Wp X LX d _ _ 319 7 _ [] n K _ _ Q
  refine gm_sz (gm_p_load (pc := 7) (i := .aload_n 0) (sr := 2) (j := 0) (by decide +kernel) rfl rfl rfl) ?_
  refine gm_sz (gm_p_load (pc := 8) (i := .iload_n 1) (sr := 0) (j := 1) (by decide +kernel) rfl rfl rfl) ?_
  refine gm_sz (gm_p_const (pc := 9) (i := .bipush 6) (v := gm_vi 6) (by decide +kernel) (by decide +kernel)) ?_
  refine gm_sz (gm_p_load (pc := 11) (i := .aload_n 0) (sr := 2) (j := 0) (by decide +kernel) rfl rfl rfl) ?_
  refine gm_c_virt (k := 226) (ci := 11) (mj := 266) (ix := 162) (pc := 12) (as := []) (st := [gm_vi 6, gm_vi l, gm_vr 226]) (d' := d - 1) (bc' := 0) (bs' := 0) (by decide +kernel) (by decide +kernel) (by decide +kernel) (by decide +kernel) (e0k hE (k := 226) (c := 11) (by decide +kernel)).1 (e0k hE (k := 226) (c := 11) (by decide +kernel)).2 (by decide) (by decide +kernel) (show 0 = gm_na 266 by decide +kernel) fw_c0 (show 1 ≤ gm_ml 266 by decide +kernel) (Nat.le_of_ble_eq_true rfl) (by omega) (Nat.zero_le _) (Nat.zero_le _) ?_
  refine re_now9 hE ((uM_ne (by omega)).trans (tr_w hT (by decide) (by decide) (by decide))) ?_
  show gm_Wp X LX d _ _ 319 15 _ [gm_vi (N 9), gm_vi 6, gm_vi l, gm_vr 226] n K _ _ Q
  refine gm_c_virt (k := 226) (ci := 11) (mj := 272) (ix := 173) (pc := 15) (as := [gm_vi l, gm_vi 6, gm_vi (N 9)]) (st := []) (d' := d - 1) (bc' := 0) (bs' := 0) (by decide +kernel) (by decide +kernel) (by decide +kernel) (by decide +kernel) (e0k hE (k := 226) (c := 11) (by decide +kernel)).1 (e0k hE (k := 226) (c := 11) (by decide +kernel)).2 (by decide) (by decide +kernel) (show 3 = gm_na 272 by decide +kernel) (fw_c3 fw_si fw_si fw_si) (show 4 ≤ gm_ml 272 by decide +kernel) (Nat.le_of_ble_eq_true rfl) (by omega) (Nat.zero_le _) (Nat.zero_le _) ?_
  refine re_sl272 hE ⟨by omega, by omega⟩ ⟨by omega, by omega⟩ ?_
  show gm_Wp X LX d _ _ 319 18 _ [] n K _ _ Q
  refine gm_sz (gm_p_const (pc := 18) (i := .sipush 323) (v := gm_vi 323) (by decide +kernel) (by decide +kernel)) ?_
  refine gm_sz (gm_p_const (pc := 21) (i := .iconst 3) (v := gm_vi 3) (by decide +kernel) (by decide +kernel)) ?_
  refine gm_sz (gm_p_load (pc := 22) (i := .aload_n 0) (sr := 2) (j := 0) (by decide +kernel) rfl rfl rfl) ?_
  refine gm_sz (fw_gr (pc := 23) (ix := 13) (ci := 11) (j := 1) (r := 227) (by decide +kernel) (e0k hE (k := 226) (c := 11) (by decide +kernel)) (by decide +kernel) (by decide +kernel) (e0r hE (k := 226) (j := 1) (r := 227) (by decide +kernel))) ?_
  refine gm_sz (gm_p_const (pc := 26) (i := .bipush 14) (v := gm_vi 14) (by decide +kernel) (by decide +kernel)) ?_
  refine gm_sz (fw_ia (pc := 28) (k := 227) (len := 2093) (e0 := 14) (x := N 14) (by decide +kernel) (e0a hE (k := 227) (q := ((0 : Nat), (2093 : Nat))) (by decide +kernel)).1 (e0a hE (k := 227) (q := ((0 : Nat), (2093 : Nat))) (by decide +kernel)).2 (by decide) ⟨by omega, by omega⟩ ((uM_ne (by omega)).trans ((uM_ne (by omega)).trans (tr_w hT (by decide) (by decide) (by decide))))) ?_
  refine gm_sz (gm_p_bin (pc := 29) (i := .imul) (f := fun x y => x * y) (by decide +kernel) rfl) ?_
  refine gm_sz (gm_p_bin (pc := 30) (i := .iadd) (f := fun x y => x + y) (by decide +kernel) rfl) ?_
  refine gm_sz (gm_p_stor (pc := 31) (i := .istore_n 3) (sr := 0) (j := 3) (by decide +kernel) rfl (show 4 ≤ _ from Nat.le_of_ble_eq_true rfl) rfl) ?_
  refine gm_sz (gm_p_load (pc := 32) (i := .aload_n 0) (sr := 2) (j := 0) (by decide +kernel) rfl rfl rfl) ?_
  refine gm_sz (fw_gr (pc := 33) (ix := 13) (ci := 11) (j := 1) (r := 227) (by decide +kernel) (e0k hE (k := 226) (c := 11) (by decide +kernel)) (by decide +kernel) (by decide +kernel) (e0r hE (k := 226) (j := 1) (r := 227) (by decide +kernel))) ?_
  refine gm_sz (gm_p_load (pc := 36) (i := .iload_n 3) (sr := 0) (j := 3) (by decide +kernel) rfl rfl rfl) ?_
  refine gm_sz (gm_p_load (pc := 37) (i := .aload_n 0) (sr := 2) (j := 0) (by decide +kernel) rfl rfl rfl) ?_
  refine gm_c_virt (k := 226) (ci := 11) (mj := 266) (ix := 162) (pc := 38) (as := []) (st := [gm_vi (323 + (3 * (N 14))), gm_vr 227]) (d' := d - 1) (bc' := 0) (bs' := 0) (by decide +kernel) (by decide +kernel) (by decide +kernel) (by decide +kernel) (e0k hE (k := 226) (c := 11) (by decide +kernel)).1 (e0k hE (k := 226) (c := 11) (by decide +kernel)).2 (by decide) (by decide +kernel) (show 0 = gm_na 266 by decide +kernel) fw_c0 (show 1 ≤ gm_ml 266 by decide +kernel) (Nat.le_of_ble_eq_true rfl) (by omega) (Nat.zero_le _) (Nat.zero_le _) ?_
  refine re_now9 hE ((uM_ne (by omega)).trans ((uM_ne (by omega)).trans (tr_w hT (by decide) (by decide) (by decide)))) ?_
  show gm_Wp X LX d _ _ 319 41 _ [gm_vi (N 9), gm_vi (323 + (3 * (N 14))), gm_vr 227] n K _ _ Q
  refine gm_sz (fw_is (pc := 41) (k := 227) (len := 2093) (e0 := 323 + (3 * (N 14))) (x := N 9) (M' := gm_uM (gm_uM (gm_uM M 227 ((119 + (7 * l)) + 5) p) 227 ((119 + (7 * l)) + 6) (N 9)) 227 (323 + (3 * (N 14))) (N 9)) (by decide +kernel) (e0a hE (k := 227) (q := ((0 : Nat), (2093 : Nat))) (by decide +kernel)).1 (e0a hE (k := 227) (q := ((0 : Nat), (2093 : Nat))) (by decide +kernel)).2 (by decide) ⟨by omega, by omega⟩ rfl) ?_
  refine gm_sz (gm_p_load (pc := 42) (i := .aload_n 0) (sr := 2) (j := 0) (by decide +kernel) rfl rfl rfl) ?_
  refine gm_sz (fw_gr (pc := 43) (ix := 13) (ci := 11) (j := 1) (r := 227) (by decide +kernel) (e0k hE (k := 226) (c := 11) (by decide +kernel)) (by decide +kernel) (by decide +kernel) (e0r hE (k := 226) (j := 1) (r := 227) (by decide +kernel))) ?_
  refine gm_sz (gm_p_load (pc := 46) (i := .iload_n 3) (sr := 0) (j := 3) (by decide +kernel) rfl rfl rfl) ?_
  refine gm_sz (gm_p_const (pc := 47) (i := .iconst 1) (v := gm_vi 1) (by decide +kernel) (by decide +kernel)) ?_
  refine gm_sz (gm_p_bin (pc := 48) (i := .iadd) (f := fun x y => x + y) (by decide +kernel) rfl) ?_
  refine gm_sz (gm_p_load (pc := 49) (i := .iload_n 1) (sr := 0) (j := 1) (by decide +kernel) rfl rfl rfl) ?_
  refine gm_sz (fw_is (pc := 50) (k := 227) (len := 2093) (e0 := (323 + (3 * (N 14))) + 1) (x := l) (M' := gm_uM (gm_uM (gm_uM (gm_uM M 227 ((119 + (7 * l)) + 5) p) 227 ((119 + (7 * l)) + 6) (N 9)) 227 (323 + (3 * (N 14))) (N 9)) 227 ((323 + (3 * (N 14))) + 1) l) (by decide +kernel) (e0a hE (k := 227) (q := ((0 : Nat), (2093 : Nat))) (by decide +kernel)).1 (e0a hE (k := 227) (q := ((0 : Nat), (2093 : Nat))) (by decide +kernel)).2 (by decide) ⟨by omega, by omega⟩ rfl) ?_
  refine gm_sz (gm_p_load (pc := 51) (i := .aload_n 0) (sr := 2) (j := 0) (by decide +kernel) rfl rfl rfl) ?_
  refine gm_sz (fw_gr (pc := 52) (ix := 13) (ci := 11) (j := 1) (r := 227) (by decide +kernel) (e0k hE (k := 226) (c := 11) (by decide +kernel)) (by decide +kernel) (by decide +kernel) (e0r hE (k := 226) (j := 1) (r := 227) (by decide +kernel))) ?_
  refine gm_sz (gm_p_load (pc := 55) (i := .iload_n 3) (sr := 0) (j := 3) (by decide +kernel) rfl rfl rfl) ?_
  refine gm_sz (gm_p_const (pc := 56) (i := .iconst 2) (v := gm_vi 2) (by decide +kernel) (by decide +kernel)) ?_
  refine gm_sz (gm_p_bin (pc := 57) (i := .iadd) (f := fun x y => x + y) (by decide +kernel) rfl) ?_
  refine gm_sz (gm_p_load (pc := 58) (i := .iload_n 2) (sr := 0) (j := 2) (by decide +kernel) rfl rfl rfl) ?_
  refine gm_sz (fw_is (pc := 59) (k := 227) (len := 2093) (e0 := (323 + (3 * (N 14))) + 2) (x := p) (M' := gm_uM (gm_uM (gm_uM (gm_uM (gm_uM M 227 ((119 + (7 * l)) + 5) p) 227 ((119 + (7 * l)) + 6) (N 9)) 227 (323 + (3 * (N 14))) (N 9)) 227 ((323 + (3 * (N 14))) + 1) l) 227 ((323 + (3 * (N 14))) + 2) p) (by decide +kernel) (e0a hE (k := 227) (q := ((0 : Nat), (2093 : Nat))) (by decide +kernel)).1 (e0a hE (k := 227) (q := ((0 : Nat), (2093 : Nat))) (by decide +kernel)).2 (by decide) ⟨by omega, by omega⟩ rfl) ?_
  refine gm_sz (gm_p_load (pc := 60) (i := .aload_n 0) (sr := 2) (j := 0) (by decide +kernel) rfl rfl rfl) ?_
  refine gm_sz (fw_gr (pc := 61) (ix := 13) (ci := 11) (j := 1) (r := 227) (by decide +kernel) (e0k hE (k := 226) (c := 11) (by decide +kernel)) (by decide +kernel) (by decide +kernel) (e0r hE (k := 226) (j := 1) (r := 227) (by decide +kernel))) ?_
  refine gm_sz (gm_p_const (pc := 64) (i := .bipush 14) (v := gm_vi 14) (by decide +kernel) (by decide +kernel)) ?_
  refine gm_sz (gm_p_dup2 (pc := 66) (by decide +kernel) fw_si fw_sr) ?_
  refine gm_sz (fw_ia (pc := 67) (k := 227) (len := 2093) (e0 := 14) (x := N 14) (by decide +kernel) (e0a hE (k := 227) (q := ((0 : Nat), (2093 : Nat))) (by decide +kernel)).1 (e0a hE (k := 227) (q := ((0 : Nat), (2093 : Nat))) (by decide +kernel)).2 (by decide) ⟨by omega, by omega⟩ ((uM_ne (by omega)).trans ((uM_ne (by omega)).trans ((uM_ne (by omega)).trans ((uM_ne (by omega)).trans ((uM_ne (by omega)).trans (tr_w hT (by decide) (by decide) (by decide)))))))) ?_
  refine gm_sz (gm_p_const (pc := 68) (i := .iconst 1) (v := gm_vi 1) (by decide +kernel) (by decide +kernel)) ?_
  refine gm_sz (gm_p_bin (pc := 69) (i := .iadd) (f := fun x y => x + y) (by decide +kernel) rfl) ?_
  refine gm_sz (fw_is (pc := 70) (k := 227) (len := 2093) (e0 := 14) (x := (N 14) + 1) (M' := gm_uM (gm_uM (gm_uM (gm_uM (gm_uM (gm_uM M 227 ((119 + (7 * l)) + 5) p) 227 ((119 + (7 * l)) + 6) (N 9)) 227 (323 + (3 * (N 14))) (N 9)) 227 ((323 + (3 * (N 14))) + 1) l) 227 ((323 + (3 * (N 14))) + 2) p) 227 14 ((N 14) + 1)) (by decide +kernel) (e0a hE (k := 227) (q := ((0 : Nat), (2093 : Nat))) (by decide +kernel)).1 (e0a hE (k := 227) (q := ((0 : Nat), (2093 : Nat))) (by decide +kernel)).2 (by decide) ⟨by omega, by omega⟩ rfl) ?_
  have e1 : (gm_uM (gm_uM (gm_uM (gm_uM (gm_uM (gm_uM M 227 ((119 + (7 * l)) + 5) p) 227 ((119 + (7 * l)) + 6) (N 9)) 227 (323 + (3 * (N 14))) (N 9)) 227 ((323 + (3 * (N 14))) + 1) l) 227 ((323 + (3 * (N 14))) + 2) p) 227 14 ((N 14) + 1)) 227 = nup (nup (nup (nup (nup (nup (M 227) ((119 + (7 * l)) + 5) (p)) ((119 + (7 * l)) + 6) (N 9)) (323 + (3 * (N 14))) (N 9)) ((323 + (3 * (N 14))) + 1) (l)) ((323 + (3 * (N 14))) + 2) (p)) (14) ((N 14) + 1) := by
    exact (nup_s (nup_s (nup_s (nup_s (nup_s (nup_s rfl))))))
  have e2 : ws (nup (nup (nup (nup (nup (nup (M 227) ((119 + (7 * l)) + 5) (p)) ((119 + (7 * l)) + 6) (N 9)) (323 + (3 * (N 14))) (N 9)) ((323 + (3 * (N 14))) + 1) (l)) ((323 + (3 * (N 14))) + 2) (p)) (14) ((N 14) + 1)) = nup (nup (nup (nup (nup (nup (ws (M 227)) (119 + (l * 7 + 5)) (p)) (119 + (l * 7 + 6)) (N 9)) (323 + (N 14 * 3 + 0)) (N 9)) (323 + (N 14 * 3 + 1)) (l)) (323 + (N 14 * 3 + 2)) (p)) (14) (N 14 + 1) := by
    rw [ws_put (k := 14) ⟨by omega, by omega, by omega⟩, ws_put (k := (323 + (3 * (N 14))) + 2) ⟨by omega, by omega, by omega⟩, ws_put (k := (323 + (3 * (N 14))) + 1) ⟨by omega, by omega, by omega⟩, ws_put (k := 323 + (3 * (N 14))) ⟨by omega, by omega, by omega⟩, ws_put (k := (119 + (7 * l)) + 6) ⟨by omega, by omega, by omega⟩, ws_put (k := (119 + (7 * l)) + 5) ⟨by omega, by omega, by omega⟩]
    rw [show (323 + (3 * (N 14))) + 1 = 323 + (N 14 * 3 + 1) by omega, show (323 + (3 * (N 14))) + 2 = 323 + (N 14 * 3 + 2) by omega, show (119 + (7 * l)) + 5 = 119 + (l * 7 + 5) by omega, show (119 + (7 * l)) + 6 = 119 + (l * 7 + 6) by omega, show 323 + (3 * (N 14)) = 323 + (N 14 * 3 + 0) by omega]
  have e3 : ws ((gm_uM (gm_uM (gm_uM (gm_uM (gm_uM (gm_uM M 227 ((119 + (7 * l)) + 5) p) 227 ((119 + (7 * l)) + 6) (N 9)) 227 (323 + (3 * (N 14))) (N 9)) 227 ((323 + (3 * (N 14))) + 1) l) 227 ((323 + (3 * (N 14))) + 2) p) 227 14 ((N 14) + 1)) 227) = nopn N l p := by
    rw [e1, e2, hT.1]
    funext i
    unfold nopn
    by_cases h14 : i = 14
    · subst h14
      rw [nup_at, nup_ne (by omega), nup_ne (by omega), nup_ne (by omega), nup_at]
    · rw [nup_ne h14]
      unfold nup
      try dsimp only
      rw [if_neg h14]
  exact gm_r_void (pc := 71) (by decide +kernel) (by decide +kernel) (hq (gm_uM (gm_uM (gm_uM (gm_uM (gm_uM (gm_uM M 227 ((119 + (7 * l)) + 5) p) 227 ((119 + (7 * l)) + 6) (N 9)) 227 (323 + (3 * (N 14))) (N 9)) 227 ((323 + (3 * (N 14))) + 1) l) 227 ((323 + (3 * (N 14))) + 2) p) 227 14 ((N 14) + 1)) (fr_p (fr_p (fr_p (fr_p (fr_p (fr_p fr_0 (Or.inl (by decide))) (Or.inl (by decide))) (Or.inl (by decide))) (Or.inl (by decide))) (Or.inl (by decide))) (Or.inl (by decide))) e3 (fun j hj => ((uM_ne (by omega)).trans ((uM_ne (by omega)).trans ((uM_ne (by omega)).trans ((uM_ne (by omega)).trans ((uM_ne (by omega)).trans ((uM_ne (by omega)).trans rfl))))))) ((uM_ne (by omega)).trans ((uM_ne (by omega)).trans ((uM_ne (by omega)).trans ((uM_ne (by omega)).trans ((uM_ne (by omega)).trans ((uM_ne (by omega)).trans rfl)))))))
theorem rw_c302 (hd : 18 ≤ d) (hE : E0 n K R) (hT : TR N h M) (hN : NR N) (hfw : FLR X LX n K R N h FI φ) (hI : FI M) (h1 : 0 ≤ l ∧ l < N 4) (ho : OUTR N h φ l (o l) (dd l)) (q1 : WTS N l (o l) → ∀ M2, fr [((226 : Nat), some (29 : Int)), ((226 : Nat), some (30 : Int)), ((226 : Nat), some (26 : Int)), ((226 : Nat), some (17 : Int)), ((226 : Nat), some (18 : Int)), ((226 : Nat), some (19 : Int)), ((226 : Nat), some (20 : Int)), ((226 : Nat), some (21 : Int)), ((226 : Nat), some (22 : Int)), ((226 : Nat), some (23 : Int)), ((235 : Nat), none), ((233 : Nat), none), ((236 : Nat), none), ((237 : Nat), none)] M M2 → FI M2 → M2 226 29 = o l → M2 237 (o l) = dd l → Q (.inl (some (gm_vi 1))) n K R M2) (q0 : ¬ WTS N l (o l) → ∀ M2, fr [((226 : Nat), some (29 : Int)), ((226 : Nat), some (30 : Int)), ((226 : Nat), some (26 : Int)), ((226 : Nat), some (17 : Int)), ((226 : Nat), some (18 : Int)), ((226 : Nat), some (19 : Int)), ((226 : Nat), some (20 : Int)), ((226 : Nat), some (21 : Int)), ((226 : Nat), some (22 : Int)), ((226 : Nat), some (23 : Int)), ((235 : Nat), none), ((233 : Nat), none), ((236 : Nat), none), ((237 : Nat), none)] M M2 → FI M2 → Q (.inl (some (gm_vi 0))) n K R M2) : gm_Wp X LX d bc bs 302 0 (gm_ent 302 [gm_vr 226, gm_vi l]) [] n K R M Q := by
  obtain ⟨⟨⟨a0, b0⟩, ⟨a1, b1⟩, ⟨a10, b10⟩, ⟨a11, b11⟩, ⟨a12, b12⟩, a9, b9⟩, ⟨⟨a2, b2⟩, ⟨a5, b5⟩, ⟨a3, b3⟩, ⟨a4, b4⟩, ⟨a6, b6⟩, ⟨a14, b14⟩, ⟨a7, b7⟩, a13, b13⟩, rF, rP, rL⟩ := id hN
  obtain ⟨r0, r1, r2, r3, -, r5, -⟩ := rL l h1.1 h1.2
  have r59 : -1 ≤ N (119 + (l * 7 + 5)) ∧ N (119 + (l * 7 + 5)) < N 3 := r5
  have rk9 : (if (N (119 + (l * 7 + 0))) = -1 then (1 : Int) else 0) = 1 ∧ (N (119 + (l * 7 + 0))) = -1 ∨ (if (N (119 + (l * 7 + 0))) = -1 then (1 : Int) else 0) = 0 ∧ ¬ (N (119 + (l * 7 + 0))) = -1 := by
    by_cases hh : (N (119 + (l * 7 + 0))) = -1
    · exact Or.inl ⟨if_pos hh, hh⟩
    · exact Or.inr ⟨if_neg hh, hh⟩
  refine gm_sz (gm_p_load (pc := 0) (i := .aload_n 0) (sr := 2) (j := 0) (by decide +kernel) rfl rfl rfl) ?_
  refine gm_sz (gm_p_load (pc := 1) (i := .iload_n 1) (sr := 0) (j := 1) (by decide +kernel) rfl rfl rfl) ?_
  refine gm_c_virt (k := 226) (ci := 11) (mj := 303) (ix := 374) (pc := 2) (as := [gm_vi l]) (st := []) (d' := d - 1) (bc' := 0) (bs' := 0) (by decide +kernel) (by decide +kernel) (by decide +kernel) (by decide +kernel) (e0k hE (k := 226) (c := 11) (by decide +kernel)).1 (e0k hE (k := 226) (c := 11) (by decide +kernel)).2 (by decide) (by decide +kernel) (show 1 = gm_na 303 by decide +kernel) (fw_c1 fw_si) (show 2 ≤ gm_ml 303 by decide +kernel) (Nat.le_of_ble_eq_true rfl) (by omega) (Nat.zero_le _) (Nat.zero_le _) ?_
  refine re_rk (by omega) hE hT hN ⟨by omega, by omega⟩ ?_
  show gm_Wp X LX d _ _ 302 5 _ [gm_vi (if (N (119 + (l * 7 + 0))) = -1 then (1 : Int) else 0)] n K _ _ Q
  refine fw_if (cc := .ne) (pc := 5) (off := 12) (by decide +kernel) (by decide) ⟨by omega, by omega⟩ (fun h5 => ?_) (fun h5 => ?_)
  · have h5 : ¬ (if (N (119 + (l * 7 + 0))) = -1 then (1 : Int) else 0) = 0 := h5
    refine gm_sz (gm_p_const (pc := 17) (i := .iconst 0) (v := gm_vi 0) (by decide +kernel) (by decide +kernel)) ?_
    have a9 : ¬ WTS N l (o l) := fun ⟨a1, a2, a3, a4⟩ => by omega
    exact gm_r_int (pc := 18) (by decide +kernel) (Or.inr ⟨(by decide +kernel), Or.inl rfl⟩) (q0 a9 M fr_0 hI)
  · have h5 : (if (N (119 + (l * 7 + 0))) = -1 then (1 : Int) else 0) = 0 := Classical.not_not.mp h5
    refine gm_sz (gm_p_load (pc := 8) (i := .aload_n 0) (sr := 2) (j := 0) (by decide +kernel) rfl rfl rfl) ?_
    refine gm_sz (gm_p_load (pc := 9) (i := .iload_n 1) (sr := 0) (j := 1) (by decide +kernel) rfl rfl rfl) ?_
    refine gm_sz (gm_p_const (pc := 10) (i := .iconst 5) (v := gm_vi 5) (by decide +kernel) (by decide +kernel)) ?_
    refine gm_c_virt (k := 226) (ci := 11) (mj := 301) (ix := 82) (pc := 11) (as := [gm_vi l, gm_vi 5]) (st := []) (d' := d - 1) (bc' := 0) (bs' := 0) (by decide +kernel) (by decide +kernel) (by decide +kernel) (by decide +kernel) (e0k hE (k := 226) (c := 11) (by decide +kernel)).1 (e0k hE (k := 226) (c := 11) (by decide +kernel)).2 (by decide) (by decide +kernel) (show 2 = gm_na 301 by decide +kernel) (fw_c2 fw_si fw_si) (show 3 ≤ gm_ml 301 by decide +kernel) (Nat.le_of_ble_eq_true rfl) (by omega) (Nat.zero_le _) (Nat.zero_le _) ?_
    refine re_ol hE hT hN ⟨by omega, by omega⟩ ⟨by omega, by omega⟩ ?_
    show gm_Wp X LX d _ _ 302 14 _ [gm_vi (N (119 + (l * 7 + 5)))] n K _ _ Q
    refine fw_if (cc := .lt) (pc := 14) (off := 5) (by decide +kernel) (by decide) ⟨by omega, by omega⟩ (fun h14 => ?_) (fun h14 => ?_)
    · have h14 : (N (119 + (l * 7 + 5))) < 0 := h14
      refine gm_sz (gm_p_load (pc := 19) (i := .aload_n 0) (sr := 2) (j := 0) (by decide +kernel) rfl rfl rfl) ?_
      refine gm_sz (gm_p_load (pc := 20) (i := .iload_n 1) (sr := 0) (j := 1) (by decide +kernel) rfl rfl rfl) ?_
      refine gm_c_virt (k := 226) (ci := 11) (mj := 304) (ix := 387) (pc := 21) (as := [gm_vi l]) (st := []) (d' := d - 1) (bc' := 0) (bs' := 0) (by decide +kernel) (by decide +kernel) (by decide +kernel) (by decide +kernel) (e0k hE (k := 226) (c := 11) (by decide +kernel)).1 (e0k hE (k := 226) (c := 11) (by decide +kernel)).2 (by decide) (by decide +kernel) (show 1 = gm_na 304 by decide +kernel) (fw_c1 fw_si) (show 2 ≤ gm_ml 304 by decide +kernel) (Nat.le_of_ble_eq_true rfl) (by omega) (Nat.zero_le _) (Nat.zero_le _) ?_
      refine re_c304 (l := l) (by omega) hE hT hN hfw hI ⟨by omega, by omega⟩ (fun M21 hf21 hI21 hr21 => ?_)
      show gm_Wp X LX d _ _ 302 24 _ [gm_vi (M21 226 29)] n K _ _ Q
      obtain ⟨e29, e37⟩ := rrun_o hr21 r3.1 ho
      have ob := OUTR_b ho r3.1
      refine gm_sz (gm_p_stor (pc := 24) (i := .istore_n 2) (sr := 0) (j := 2) (by decide +kernel) rfl (show 3 ≤ _ from Nat.le_of_ble_eq_true rfl) rfl) ?_
      refine gm_sz (gm_p_load (pc := 25) (i := .iload_n 2) (sr := 0) (j := 2) (by decide +kernel) rfl rfl rfl) ?_
      refine fw_if (cc := .lt) (pc := 26) (off := 15) (by decide +kernel) (by decide) ⟨by omega, by omega⟩ (fun h26 => ?_) (fun h26 => ?_)
      · have h26 : (M21 226 29) < 0 := h26
        refine gm_sz (gm_p_const (pc := 41) (i := .iconst 0) (v := gm_vi 0) (by decide +kernel) (by decide +kernel)) ?_
        have a9 : ¬ WTS N l (o l) := fun ⟨a1, a2, a3, a4⟩ => by omega
        exact gm_r_int (pc := 42) (by decide +kernel) (Or.inr ⟨(by decide +kernel), Or.inl rfl⟩) (q0 a9 M21 (fr_t fr_0 hf21 (by decide)) hI21)
      · have h26 : ¬ (M21 226 29) < 0 := h26
        refine gm_sz (gm_p_load (pc := 29) (i := .iload_n 2) (sr := 0) (j := 2) (by decide +kernel) rfl rfl rfl) ?_
        refine gm_sz (gm_p_load (pc := 30) (i := .aload_n 0) (sr := 2) (j := 0) (by decide +kernel) rfl rfl rfl) ?_
        refine gm_c_virt (k := 226) (ci := 11) (mj := 266) (ix := 162) (pc := 31) (as := []) (st := [gm_vi (M21 226 29)]) (d' := d - 1) (bc' := 0) (bs' := 0) (by decide +kernel) (by decide +kernel) (by decide +kernel) (by decide +kernel) (e0k hE (k := 226) (c := 11) (by decide +kernel)).1 (e0k hE (k := 226) (c := 11) (by decide +kernel)).2 (by decide) (by decide +kernel) (show 0 = gm_na 266 by decide +kernel) fw_c0 (show 1 ≤ gm_ml 266 by decide +kernel) (Nat.le_of_ble_eq_true rfl) (by omega) (Nat.zero_le _) (Nat.zero_le _) ?_
        refine re_now9 hE ((fr_c hf21 (by decide)).trans (tr_w hT (by decide) (by decide) (by decide))) ?_
        show gm_Wp X LX d _ _ 302 34 _ [gm_vi (N 9), gm_vi (M21 226 29)] n K _ _ Q
        refine fw_ic (cc := .gt) (pc := 34) (off := 7) (by decide +kernel) (by decide) ⟨by omega, by omega⟩ ⟨by omega, by omega⟩ (fun h34 => ?_) (fun h34 => ?_)
        · have h34 : (N 9) < (M21 226 29) := h34
          refine gm_sz (gm_p_const (pc := 41) (i := .iconst 0) (v := gm_vi 0) (by decide +kernel) (by decide +kernel)) ?_
          have a9 : ¬ WTS N l (o l) := fun ⟨a1, a2, a3, a4⟩ => by omega
          exact gm_r_int (pc := 42) (by decide +kernel) (Or.inr ⟨(by decide +kernel), Or.inl rfl⟩) (q0 a9 M21 (fr_t fr_0 hf21 (by decide)) hI21)
        · have h34 : ¬ (N 9) < (M21 226 29) := h34
          refine gm_sz (gm_p_const (pc := 37) (i := .iconst 1) (v := gm_vi 1) (by decide +kernel) (by decide +kernel)) ?_
          refine gm_sz (gm_p_goto (pc := 38) (off := 4) (by decide +kernel) (by decide)) ?_
          have a9 : WTS N l (o l) := ⟨by omega, by omega, by omega, by omega⟩
          exact gm_r_int (pc := 42) (by decide +kernel) (Or.inr ⟨(by decide +kernel), Or.inr rfl⟩) (q1 a9 M21 (fr_t fr_0 hf21 (by decide)) hI21 e29 (e37 (by omega)))
    · have h14 : ¬ (N (119 + (l * 7 + 5))) < 0 := h14
      refine gm_sz (gm_p_const (pc := 17) (i := .iconst 0) (v := gm_vi 0) (by decide +kernel) (by decide +kernel)) ?_
      have a9 : ¬ WTS N l (o l) := fun ⟨a1, a2, a3, a4⟩ => by omega
      exact gm_r_int (pc := 18) (by decide +kernel) (Or.inr ⟨(by decide +kernel), Or.inl rfl⟩) (q0 a9 M fr_0 hI)
theorem rm_b (hd : 19 ≤ d) (hE : E0 n K R) (hT : TR N h M) (hN : NR N) (hg : LOGI N) (hfw : FLR X LX n K R N h FI φ) (hI : FI M) (hst : RSt FI) (hmo : MOR X LX n K R N h FI (Ψ N)) (hFX : ∀ M M2, FI M → fr [((227 : Nat), none)] M M2 → (∀ j, 395 ≤ j → M2 227 j = M 227 j) → M2 227 8 = M 227 8 → FI M2) (h1 : 0 ≤ l ∧ l < N 4) (ho : OUTR N h φ l (o l) (dd l)) (hc : 0 ≤ c ∧ c ≤ 24) (hq : ∀ z M2, fr [((226 : Nat), some (29 : Int)), ((226 : Nat), some (30 : Int)), ((226 : Nat), some (26 : Int)), ((226 : Nat), some (17 : Int)), ((226 : Nat), some (18 : Int)), ((226 : Nat), some (19 : Int)), ((226 : Nat), some (20 : Int)), ((226 : Nat), some (21 : Int)), ((226 : Nat), some (22 : Int)), ((226 : Nat), some (23 : Int)), ((235 : Nat), none), ((233 : Nat), none), ((236 : Nat), none), ((237 : Nat), none), ((227 : Nat), none)] M M2 → FI M2 → ((∀ j, 395 ≤ j → M2 227 j = M 227 j) ∧ M2 227 8 = M 227 8) → ws (M2 227) = (ystep Ψ o dd l (N, c)).1 → gm_Wp X LX d bc bs 321 15 [some (gm_vr 226), some (gm_vi (ystep Ψ o dd l (N, c)).2), some (gm_vi (l + 1)), z] [] n K R M2 Q) (z : Option gm_V) : gm_Wp X LX d bc bs 321 15 [some (gm_vr 226), some (gm_vi c), some (gm_vi l), z] [] n K R M Q := by
  obtain ⟨⟨⟨a0, b0⟩, ⟨a1, b1⟩, ⟨a10, b10⟩, ⟨a11, b11⟩, ⟨a12, b12⟩, a9, b9⟩, ⟨⟨a2, b2⟩, ⟨a5, b5⟩, ⟨a3, b3⟩, ⟨a4, b4⟩, ⟨a6, b6⟩, ⟨a14, b14⟩, ⟨a7, b7⟩, a13, b13⟩, rF, rP, rL⟩ := id hN
  have hl24 : 0 ≤ l ∧ l < 24 := ⟨h1.1, by omega⟩
  obtain ⟨r0, -, -, r3, -⟩ := rL l h1.1 h1.2
  have ob := OUTR_b ho r3.1
  refine gm_sz (gm_p_load (pc := 15) (i := .iload_n 2) (sr := 0) (j := 2) (by decide +kernel) rfl rfl rfl) ?_
  refine gm_sz (gm_p_load (pc := 16) (i := .aload_n 0) (sr := 2) (j := 0) (by decide +kernel) rfl rfl rfl) ?_
  refine gm_c_virt (k := 226) (ci := 11) (mj := 254) (ix := 100) (pc := 17) (as := []) (st := [gm_vi l]) (d' := d - 1) (bc' := 0) (bs' := 0) (by decide +kernel) (by decide +kernel) (by decide +kernel) (by decide +kernel) (e0k hE (k := 226) (c := 11) (by decide +kernel)).1 (e0k hE (k := 226) (c := 11) (by decide +kernel)).2 (by decide) (by decide +kernel) (show 0 = gm_na 254 by decide +kernel) fw_c0 (show 1 ≤ gm_ml 254 by decide +kernel) (Nat.le_of_ble_eq_true rfl) (by omega) (Nat.zero_le _) (Nat.zero_le _) ?_
  refine re_let hE hT hN ?_
  show gm_Wp X LX d _ _ 321 20 _ [gm_vi (N 4), gm_vi l] n K _ _ Q
  refine fw_icf (cc := .ge) (pc := 20) (off := 43) (by decide +kernel) (by decide) ⟨by omega, by omega⟩ ⟨by omega, by omega⟩ (show ¬ (N 4) ≤ l by omega) ?_
  refine gm_sz (gm_p_load (pc := 23) (i := .aload_n 0) (sr := 2) (j := 0) (by decide +kernel) rfl rfl rfl) ?_
  refine gm_sz (gm_p_load (pc := 24) (i := .iload_n 2) (sr := 0) (j := 2) (by decide +kernel) rfl rfl rfl) ?_
  refine gm_c_virt (k := 226) (ci := 11) (mj := 302) (ix := 390) (pc := 25) (as := [gm_vi l]) (st := []) (d' := d - 1) (bc' := 0) (bs' := 0) (by decide +kernel) (by decide +kernel) (by decide +kernel) (by decide +kernel) (e0k hE (k := 226) (c := 11) (by decide +kernel)).1 (e0k hE (k := 226) (c := 11) (by decide +kernel)).2 (by decide) (by decide +kernel) (show 1 = gm_na 302 by decide +kernel) (fw_c1 fw_si) (show 2 ≤ gm_ml 302 by decide +kernel) (Nat.le_of_ble_eq_true rfl) (by omega) (Nat.zero_le _) (Nat.zero_le _) ?_
  refine rw_c302 (o := o) (dd := dd) (by omega) hE hT hN hfw hI h1 ho (fun v25 M25 hf25 hI25 e29 e37 => ?_) (fun v25 M25 hf25 hI25 => ?_)
  · show gm_Wp X LX d _ _ 321 28 _ [gm_vi 1] n K _ _ Q
    have w33 : 0 ≤ (N (119 + (l * 7 + 0))) := by have := v25.1; omega
    have b25 := opf_b (ψ := Ψ N) (dp := dd l) hN h1 w33
    refine fw_iffd (cc := .eq) (pc := 28) (off := 11) (by decide +kernel) (by decide) ⟨by decide, by decide⟩ (by decide) ?_
    refine gm_sz (gm_p_load (pc := 31) (i := .aload_n 0) (sr := 2) (j := 0) (by decide +kernel) rfl rfl rfl) ?_
    refine gm_sz (gm_p_load (pc := 32) (i := .iload_n 2) (sr := 0) (j := 2) (by decide +kernel) rfl rfl rfl) ?_
    refine gm_c_virt (k := 226) (ci := 11) (mj := 322) (ix := 420) (pc := 33) (as := [gm_vi l]) (st := []) (d' := d - 1) (bc' := 0) (bs' := 0) (by decide +kernel) (by decide +kernel) (by decide +kernel) (by decide +kernel) (e0k hE (k := 226) (c := 11) (by decide +kernel)).1 (e0k hE (k := 226) (c := 11) (by decide +kernel)).2 (by decide) (by decide +kernel) (show 1 = gm_na 322 by decide +kernel) (fw_c1 fw_si) (show 2 ≤ gm_ml 322 by decide +kernel) (Nat.le_of_ble_eq_true rfl) (by omega) (Nat.zero_le _) (Nat.zero_le _) ?_
    refine ro_c322 (dp := dd l) (by omega) hE (tr_fr (W := [((226 : Nat), some (29 : Int)), ((226 : Nat), some (30 : Int)), ((226 : Nat), some (26 : Int)), ((226 : Nat), some (17 : Int)), ((226 : Nat), some (18 : Int)), ((226 : Nat), some (19 : Int)), ((226 : Nat), some (20 : Int)), ((226 : Nat), some (21 : Int)), ((226 : Nat), some (22 : Int)), ((226 : Nat), some (23 : Int)), ((235 : Nat), none), ((233 : Nat), none), ((236 : Nat), none), ((237 : Nat), none)]) hT (fr_t fr_0 hf25 (by decide)) (by decide)) hN hst hmo hI25 h1 w33 (by rw [e29]; exact ⟨by have := v25.2.2.1; omega, by omega⟩) (by rw [e29]; exact e37) (fun M33 hf33 => ?_)
    show gm_Wp X LX d _ _ 321 36 _ [gm_vi (opf N (Ψ N) l (dd l))] n K _ _ Q
    refine gm_sz (gm_p_goto (pc := 36) (off := 4) (by decide +kernel) (by decide)) ?_
    refine gm_sz (gm_p_stor (pc := 40) (i := .istore_n 3) (sr := 0) (j := 3) (by decide +kernel) rfl (show 4 ≤ _ from Nat.le_of_ble_eq_true rfl) rfl) ?_
    refine gm_sz (gm_p_load (pc := 41) (i := .iload_n 3) (sr := 0) (j := 3) (by decide +kernel) rfl rfl rfl) ?_
    refine fw_if (cc := .ge) (pc := 42) (off := 6) (by decide +kernel) (by decide) ⟨by omega, by omega⟩ (fun h42 => ?_) (fun h42 => ?_)
    · have h42 : 0 ≤ (opf N (Ψ N) l (dd l)) := h42
      refine gm_sz (gm_p_load (pc := 48) (i := .aload_n 0) (sr := 2) (j := 0) (by decide +kernel) rfl rfl rfl) ?_
      refine gm_sz (gm_p_load (pc := 49) (i := .iload_n 2) (sr := 0) (j := 2) (by decide +kernel) rfl rfl rfl) ?_
      refine gm_sz (gm_p_load (pc := 50) (i := .iload_n 3) (sr := 0) (j := 3) (by decide +kernel) rfl rfl rfl) ?_
      refine gm_c_virt (k := 226) (ci := 11) (mj := 319) (ix := 414) (pc := 51) (as := [gm_vi l, gm_vi (opf N (Ψ N) l (dd l))]) (st := []) (d' := d - 1) (bc' := 0) (bs' := 0) (by decide +kernel) (by decide +kernel) (by decide +kernel) (by decide +kernel) (e0k hE (k := 226) (c := 11) (by decide +kernel)).1 (e0k hE (k := 226) (c := 11) (by decide +kernel)).2 (by decide) (by decide +kernel) (show 2 = gm_na 319 by decide +kernel) (fw_c2 fw_si fw_si) (show 3 ≤ gm_ml 319 by decide +kernel) (Nat.le_of_ble_eq_true rfl) (by omega) (Nat.zero_le _) (Nat.zero_le _) ?_
      refine re_op (by omega) hE (tr_fr (W := [((226 : Nat), some (29 : Int)), ((226 : Nat), some (30 : Int)), ((226 : Nat), some (26 : Int)), ((226 : Nat), some (17 : Int)), ((226 : Nat), some (18 : Int)), ((226 : Nat), some (19 : Int)), ((226 : Nat), some (20 : Int)), ((226 : Nat), some (21 : Int)), ((226 : Nat), some (22 : Int)), ((226 : Nat), some (23 : Int)), ((235 : Nat), none), ((233 : Nat), none), ((236 : Nat), none), ((237 : Nat), none)]) hT (fr_t (fr_t fr_0 hf25 (by decide)) hf33 (by decide)) (by decide)) hN hl24 (logi_lt hN hg h1 v25.2.1) (fun M51 hf51 hw51 hg51 hg8 => ?_)
      show gm_Wp X LX d _ _ 321 54 _ [] n K _ _ Q
      refine gm_sz (gm_p_iinc (pc := 54) (j := 1) (z := 1) (by decide +kernel) rfl) ?_
      refine gm_sz (gm_p_iinc (pc := 57) (j := 2) (z := 1) (by decide +kernel) rfl) ?_
      refine gm_sz (gm_p_goto (pc := 60) (off := (-45)) (by decide +kernel) (by decide)) ?_
      have e9 : ystep Ψ o dd l (N, c) = (nopn N l (opf N (Ψ N) l (dd l)), c + 1) := tif_t ⟨v25, show ¬ opf N (Ψ N) l (dd l) = -1 by omega⟩
      rw [e9] at hq
      exact hq _ M51 (fr_t (fr_t (fr_t fr_0 hf25 (by decide)) hf33 (by decide)) hf51 (by decide)) (hFX _ _ (hst [(226, some 17), (226, some 18), (226, some 19), (226, some 20), (226, some 21), (226, some 22), (226, some 23), (233, none)] _ _ (by decide) hf33 hI25) hf51 hg51 hg8) ⟨fun j hj => (hg51 j hj).trans ((fr_c hf33 (by decide)).trans (fr_c hf25 (by decide))), hg8.trans ((fr_c hf33 (by decide)).trans (fr_c hf25 (by decide)))⟩ hw51
    · have h42 : ¬ 0 ≤ (opf N (Ψ N) l (dd l)) := h42
      refine gm_sz (gm_p_goto (pc := 45) (off := 12) (by decide +kernel) (by decide)) ?_
      refine gm_sz (gm_p_iinc (pc := 57) (j := 2) (z := 1) (by decide +kernel) rfl) ?_
      refine gm_sz (gm_p_goto (pc := 60) (off := (-45)) (by decide +kernel) (by decide)) ?_
      have e9 : ystep Ψ o dd l (N, c) = (N, c) := tif_f (fun hh => hh.2 (show opf N (Ψ N) l (dd l) = -1 by omega))
      rw [e9] at hq
      exact hq _ M33 (fr_t (fr_t fr_0 hf25 (by decide)) hf33 (by decide)) (hst [(226, some 17), (226, some 18), (226, some 19), (226, some 20), (226, some 21), (226, some 22), (226, some 23), (233, none)] _ _ (by decide) hf33 hI25) ⟨fun j hj => (fr_c hf33 (by decide)).trans (fr_c hf25 (by decide)), (fr_c hf33 (by decide)).trans (fr_c hf25 (by decide))⟩ (tr_fr (W := [((226 : Nat), some (29 : Int)), ((226 : Nat), some (30 : Int)), ((226 : Nat), some (26 : Int)), ((226 : Nat), some (17 : Int)), ((226 : Nat), some (18 : Int)), ((226 : Nat), some (19 : Int)), ((226 : Nat), some (20 : Int)), ((226 : Nat), some (21 : Int)), ((226 : Nat), some (22 : Int)), ((226 : Nat), some (23 : Int)), ((235 : Nat), none), ((233 : Nat), none), ((236 : Nat), none), ((237 : Nat), none)]) hT (fr_t (fr_t fr_0 hf25 (by decide)) hf33 (by decide)) (by decide)).1
  · show gm_Wp X LX d _ _ 321 28 _ [gm_vi 0] n K _ _ Q
    refine fw_iftd (cc := .eq) (pc := 28) (off := 11) (by decide +kernel) (by decide) ⟨by decide, by decide⟩ (by decide) ?_
    refine gm_sz (gm_p_const (pc := 39) (i := .iconst (-1)) (v := gm_vi (-1)) (by decide +kernel) (by decide +kernel)) ?_
    refine gm_sz (gm_p_stor (pc := 40) (i := .istore_n 3) (sr := 0) (j := 3) (by decide +kernel) rfl (show 4 ≤ _ from Nat.le_of_ble_eq_true rfl) rfl) ?_
    refine gm_sz (gm_p_load (pc := 41) (i := .iload_n 3) (sr := 0) (j := 3) (by decide +kernel) rfl rfl rfl) ?_
    refine fw_iffd (cc := .ge) (pc := 42) (off := 6) (by decide +kernel) (by decide) ⟨by decide, by decide⟩ (by decide) ?_
    refine gm_sz (gm_p_goto (pc := 45) (off := 12) (by decide +kernel) (by decide)) ?_
    refine gm_sz (gm_p_iinc (pc := 57) (j := 2) (z := 1) (by decide +kernel) rfl) ?_
    refine gm_sz (gm_p_goto (pc := 60) (off := (-45)) (by decide +kernel) (by decide)) ?_
    have e9 : ystep Ψ o dd l (N, c) = (N, c) := tif_f (fun hh => v25 hh.1)
    rw [e9] at hq
    exact hq _ M25 (fr_t fr_0 hf25 (by decide)) hI25 ⟨fun j hj => fr_c hf25 (by decide), fr_c hf25 (by decide)⟩ (tr_fr (W := [((226 : Nat), some (29 : Int)), ((226 : Nat), some (30 : Int)), ((226 : Nat), some (26 : Int)), ((226 : Nat), some (17 : Int)), ((226 : Nat), some (18 : Int)), ((226 : Nat), some (19 : Int)), ((226 : Nat), some (20 : Int)), ((226 : Nat), some (21 : Int)), ((226 : Nat), some (22 : Int)), ((226 : Nat), some (23 : Int)), ((235 : Nat), none), ((233 : Nat), none), ((236 : Nat), none), ((237 : Nat), none)]) hT (fr_t fr_0 hf25 (by decide)) (by decide)).1
theorem rm_e (hd : 1 ≤ d) (hE : E0 n K R) (hT : TR N h M) (hN : NR N) (h1 : l = N 4) (hq : Q (.inl (some (gm_vi c))) n K R M) (z : Option gm_V) : gm_Wp X LX d bc bs 321 15 [some (gm_vr 226), some (gm_vi c), some (gm_vi l), z] [] n K R M Q := by
  obtain ⟨⟨⟨a0, b0⟩, ⟨a1, b1⟩, ⟨a10, b10⟩, ⟨a11, b11⟩, ⟨a12, b12⟩, a9, b9⟩, ⟨⟨a2, b2⟩, ⟨a5, b5⟩, ⟨a3, b3⟩, ⟨a4, b4⟩, ⟨a6, b6⟩, ⟨a14, b14⟩, ⟨a7, b7⟩, a13, b13⟩, rF, rP, rL⟩ := id hN
  refine gm_sz (gm_p_load (pc := 15) (i := .iload_n 2) (sr := 0) (j := 2) (by decide +kernel) rfl rfl rfl) ?_
  refine gm_sz (gm_p_load (pc := 16) (i := .aload_n 0) (sr := 2) (j := 0) (by decide +kernel) rfl rfl rfl) ?_
  refine gm_c_virt (k := 226) (ci := 11) (mj := 254) (ix := 100) (pc := 17) (as := []) (st := [gm_vi l]) (d' := d - 1) (bc' := 0) (bs' := 0) (by decide +kernel) (by decide +kernel) (by decide +kernel) (by decide +kernel) (e0k hE (k := 226) (c := 11) (by decide +kernel)).1 (e0k hE (k := 226) (c := 11) (by decide +kernel)).2 (by decide) (by decide +kernel) (show 0 = gm_na 254 by decide +kernel) fw_c0 (show 1 ≤ gm_ml 254 by decide +kernel) (Nat.le_of_ble_eq_true rfl) (by omega) (Nat.zero_le _) (Nat.zero_le _) ?_
  refine re_let hE hT hN ?_
  show gm_Wp X LX d _ _ 321 20 _ [gm_vi (N 4), gm_vi l] n K _ _ Q
  refine fw_ict (cc := .ge) (pc := 20) (off := 43) (by decide +kernel) (by decide) ⟨by omega, by omega⟩ ⟨by omega, by omega⟩ (show (N 4) ≤ l by omega) ?_
  refine gm_sz (gm_p_load (pc := 63) (i := .iload_n 1) (sr := 0) (j := 1) (by decide +kernel) rfl rfl rfl) ?_
  exact gm_r_int (pc := 64) (by decide +kernel) (Or.inl (by decide +kernel)) hq
end YM4
end
/-! 7a20.l0st -/
section
/-! A LAW'S CONDITIONS, as steps behind one another; what the class and the reference make of them. -/
/-- a step: kind (0 a comparison, 8 and 9 side and first, 14 not, 15 and, 16 or), greater?, two sums -/
noncomputable abbrev lst := Int × Bool × List (Int × Int) × List (Int × Int)
noncomputable def pval (F : Int → Int) (p : Int × Int) : Int := if p.1 = 10 then p.2 else F p.1
noncomputable def psum (F : Int → Int) (ps : List (Int × Int)) : Int := ps.foldl (fun s p => s + pval F p) 0
noncomputable def cval (F : Int → Int) (g : Bool) (a b : List (Int × Int)) : Bool := if g = true then decide (gm_w (psum F b) < gm_w (psum F a)) else decide (gm_w (psum F a) < gm_w (psum F b))
/-- one step: truths upon one another, the latest first -/
noncomputable def sval (F : Int → Int) (s : lst) (l : List Bool) : List Bool :=
  if s.1 = 0 then cval F s.2.1 s.2.2.1 s.2.2.2 :: l
  else if s.1 = 14 then (!l.headD false) :: l.tail
  else if s.1 = 15 then (l.tail.headD false && l.headD false) :: l.tail.tail
  else if s.1 = 16 then (l.tail.headD false || l.headD false) :: l.tail.tail
  else decide (F s.1 = 1) :: l
noncomputable def srun (F : Int → Int) (ls : List lst) (l : List Bool) : List Bool := ls.foldl (fun l s => sval F s l) l
noncomputable def lvl (F : Int → Int) (ls : List lst) : Bool := (srun F ls []).headD false
noncomputable def pwf (p : Int × Int) : Prop := ((0 ≤ p.1 ∧ p.1 ≤ 7) ∧ p.2 = 0) ∨ (p.1 = 10 ∧ 0 ≤ p.2 ∧ p.2 ≤ 999)
noncomputable def cwf (a b : List (Int × Int)) : Prop := (∀ p ∈ a, pwf p) ∧ (∀ p ∈ b, pwf p) ∧ ¬ a = [] ∧ ¬ b = []
/-- from h truths upon one another to k, never more than B -/
noncomputable def shg (B : Nat) : List lst → Nat → Nat → Prop
  | [], h, k => h = k
  | s :: r, h, k => ((s.1 = 0 ∧ cwf s.2.2.1 s.2.2.2 ∨ s.1 = 8 ∨ s.1 = 9) ∧ h + 1 ≤ B ∧ shg B r (h + 1) k) ∨ (s.1 = 14 ∧ 1 ≤ h ∧ shg B r h k) ∨ ((s.1 = 15 ∨ s.1 = 16) ∧ 2 ≤ h ∧ shg B r (h - 1) k)
theorem shg_app {B : Nat} {b : List lst} {m k : Nat} : ∀ (a : List lst) (h : Nat), shg B a h m → shg B b m k → shg B (a ++ b) h k := by
  intro a
  induction a with
  | nil =>
    intro h h1 h2
    have h1 : h = m := h1
    subst h1
    exact h2
  | cons s r ih =>
    intro h h1 h2
    rcases h1 with ⟨a1, a2, a3⟩ | ⟨a1, a2, a3⟩ | ⟨a1, a2, a3⟩
    · exact Or.inl ⟨a1, a2, ih _ a3 h2⟩
    · exact Or.inr (Or.inl ⟨a1, a2, ih _ a3 h2⟩)
    · exact Or.inr (Or.inr ⟨a1, a2, ih _ a3 h2⟩)
theorem shg_mono {B B2 : Nat} (hB : B ≤ B2) {k : Nat} : ∀ (a : List lst) (h : Nat), shg B a h k → shg B2 a h k := by
  intro a
  induction a with
  | nil => exact fun h h1 => h1
  | cons s r ih =>
    intro h h1
    rcases h1 with ⟨a1, a2, a3⟩ | ⟨a1, a2, a3⟩ | ⟨a1, a2, a3⟩
    · exact Or.inl ⟨a1, Nat.le_trans a2 hB, ih _ a3⟩
    · exact Or.inr (Or.inl ⟨a1, a2, ih _ a3⟩)
    · exact Or.inr (Or.inr ⟨a1, a2, ih _ a3⟩)
noncomputable def b01 (v : Bool) : Int := if v = true then 1 else 0
/-- the class's codes -/
noncomputable def pcd (p : Int × Int) : Int := if p.1 = 10 then p.2 else -2 - p.1
noncomputable def scd (s : lst) : List Int :=
  if s.1 = 0 then s.2.2.1.map pcd ++ (-12 :: (s.2.2.2.map pcd ++ [if s.2.1 = true then -14 else -13]))
  else if s.1 = 14 then [-15] else if s.1 = 15 then [-16] else if s.1 = 16 then [-17] else [-2 - s.1]
noncomputable def scds : List lst → List Int
  | [] => []
  | s :: r => scd s ++ scds r
/-- the reference's steps -/
noncomputable def rps : List (Int × Int) → List (Int × Int)
  | [] => []
  | q :: qs => q :: (11, 0) :: rps qs
noncomputable def rpt : List (Int × Int) → List (Int × Int)
  | [] => []
  | p :: ps => p :: rps ps
noncomputable def srd (s : lst) : List (Int × Int) := if s.1 = 0 then rpt s.2.2.1 ++ (rpt s.2.2.2 ++ [(if s.2.1 = true then 13 else 12, 0)]) else [(s.1, 0)]
noncomputable def srds : List lst → List (Int × Int)
  | [] => []
  | s :: r => srd s ++ srds r
theorem scds_app {b : List lst} : ∀ a : List lst, scds (a ++ b) = scds a ++ scds b := by
  intro a
  induction a with
  | nil => rfl
  | cons s r ih =>
    show scd s ++ scds (r ++ b) = (scd s ++ scds r) ++ scds b
    rw [ih, List.append_assoc]
theorem srds_app {b : List lst} : ∀ a : List lst, srds (a ++ b) = srds a ++ srds b := by
  intro a
  induction a with
  | nil => rfl
  | cons s r ih =>
    show srd s ++ srds (r ++ b) = (srd s ++ srds r) ++ srds b
    rw [ih, List.append_assoc]
section LT1
variable {F : Int → Int}
noncomputable def evl (F : Int → Int) (l : List Int) (s : Int × Int × Int) : Int × Int × Int := l.foldl (fun s c => ev1 F c s) s
theorem evl_app {a b : List Int} {s : Int × Int × Int} : evl F (a ++ b) s = evl F b (evl F a s) := List.foldl_append ..
theorem evl_cons {c : Int} {b : List Int} {s : Int × Int × Int} : evl F (c :: b) s = evl F b (ev1 F c s) := rfl
theorem ev1_p {p : Int × Int} (hp : pwf p) {t l s : Int} : ev1 F (pcd p) (t, l, s) = (t, l, s + pval F p) := by
  unfold ev1 pcd pval evk
  rcases hp with ⟨⟨h1, h2⟩, -⟩ | ⟨h1, h2, h3⟩
  · have e : -2 - (-2 - p.1) = p.1 := by omega
    rw [if_neg (show ¬ p.1 = 10 by omega), if_neg (show ¬ p.1 = 10 by omega), if_neg (show ¬ 0 ≤ -2 - p.1 by omega), if_pos (show -10 < -2 - p.1 by omega), e, if_pos (show 0 ≤ p.1 ∧ p.1 < 10 by omega)]
  · rw [if_pos h1, if_pos h1, if_pos h2]
theorem evl_ps : ∀ (ps : List (Int × Int)), (∀ p ∈ ps, pwf p) → ∀ t l s : Int, evl F (ps.map pcd) (t, l, s) = (t, l, ps.foldl (fun s p => s + pval F p) s) := by
  intro ps
  induction ps with
  | nil => intro _ t l s; rfl
  | cons p ps ih =>
    intro h t l s
    rw [List.map_cons, evl_cons, ev1_p (h p List.mem_cons_self)]
    exact ih (fun q hq => h q (List.mem_cons_of_mem _ hq)) t l _
/-- the bits of an int -/
noncomputable def bI (x : Int) : BitVec 32 := (Int32.ofInt x).toBitVec
theorem bI_toInt (z : Int32) : bI z.toInt = z.toBitVec := by unfold bI; rw [Int32.ofInt_toInt]
theorem bI_or {a b : Int} : bI (gm_or a b) = bI a ||| bI b := by unfold gm_or; rw [bI_toInt]; rfl
theorem bI_and {a b : Int} : bI (gm_and a b) = bI a &&& bI b := by unfold gm_and; rw [bI_toInt]; rfl
theorem bI_xor {a b : Int} : bI (gm_xor a b) = bI a ^^^ bI b := by unfold gm_xor; rw [bI_toInt]; rfl
theorem bI_shl {a : Int} : bI (gm_shl a 1) = bI a <<< 1 := by
  unfold gm_shl
  rw [bI_toInt]
  show (Int32.ofInt a).toBitVec <<< ((Int32.ofInt 1 &&& 31).toBitVec.smod 32#32) = _
  rw [show (Int32.ofInt 1 &&& 31).toBitVec.smod 32#32 = 1#32 by decide, BitVec.shiftLeft_eq']
  rfl
theorem bI_shr {a : Int} : bI (gm_shr a 1) = (bI a).sshiftRight 1 := by
  unfold gm_shr
  rw [bI_toInt]
  show (Int32.ofInt a).toBitVec.sshiftRight' ((Int32.ofInt 1 &&& 31).toBitVec.smod 32#32) = _
  rw [show (Int32.ofInt 1 &&& 31).toBitVec.smod 32#32 = 1#32 by decide, BitVec.sshiftRight_eq']
  rfl
/-- what lies upon one another in bits, the latest first -/
noncomputable def SB (b : Int) (l : List Bool) : Prop := l.length ≤ 32 ∧ ∀ (i : Nat) (v : Bool), l[i]? = some v → (bI b).getLsbD i = v
theorem SB_i {b : Int} {l : List Bool} (h : SB b l) {i : Nat} {v : Bool} (hi : l[i]? = some v) : i < 32 ∧ (bI b).getLsbD i = v := by
  refine ⟨?_, h.2 i v hi⟩
  obtain ⟨hh, -⟩ := List.getElem?_eq_some_iff.mp hi
  have := h.1
  omega
theorem bI01 (v : Bool) (i : Nat) : (bI (b01 v)).getLsbD i = (decide (i = 0) && v) := by
  cases v with
  | false =>
    have e : bI (b01 false) = 0#32 := by decide
    rw [e, BitVec.getLsbD_zero, Bool.and_false]
  | true =>
    have e : bI (b01 true) = 1#32 := by decide
    rw [e, BitVec.getLsbD_one, Bool.and_true]
    simp
theorem SB_push {b : Int} {l : List Bool} (h : SB b l) (hl : l.length + 1 ≤ 32) (v : Bool) : SB (gm_or (gm_shl b 1) (b01 v)) (v :: l) := by
  refine ⟨by rw [List.length_cons]; exact hl, fun i w hw => ?_⟩
  rw [bI_or, bI_shl, BitVec.getLsbD_or, BitVec.getLsbD_shiftLeft, bI01]
  cases i with
  | zero =>
    have e : v = w := by simpa using hw
    subst e
    simp
  | succ i =>
    have hw : l[i]? = some w := by simpa using hw
    obtain ⟨h1, h2⟩ := SB_i h hw
    obtain ⟨hh, -⟩ := List.getElem?_eq_some_iff.mp hw
    have h3 : i + 1 < 32 := by omega
    simp [h2, h3]
theorem SB_not {b : Int} {l : List Bool} {v : Bool} (h : SB b (v :: l)) : SB (gm_xor b 1) ((!v) :: l) := by
  have e1 : bI 1 = bI (b01 true) := rfl
  refine ⟨h.1, fun i w hw => ?_⟩
  rw [bI_xor, BitVec.getLsbD_xor, e1, bI01]
  cases i with
  | zero =>
    have e : (!v) = w := by simpa using hw
    have h0 := h.2 0 v rfl
    subst e
    rw [h0]
    cases v <;> rfl
  | succ i =>
    have hw : l[i]? = some w := by simpa using hw
    have h0 := h.2 (i + 1) w (by simpa using hw)
    simp [h0]
theorem bm2 (i : Nat) (h : i < 32) : (bI (-2)).getLsbD i = !decide (i = 0) := by
  have e : bI (-2) = ~~~ (1#32) := by decide
  rw [e, BitVec.getLsbD_not, BitVec.getLsbD_one]
  simp [h]
theorem SB_and {b : Int} {l : List Bool} {v w : Bool} (h : SB b (w :: v :: l)) : SB (gm_and (gm_shr b 1) (gm_or b (-2))) ((v && w) :: l) := by
  have h9 := h.1
  simp only [List.length_cons] at h9
  refine ⟨by rw [List.length_cons]; omega, fun i x hx => ?_⟩
  rw [bI_and, bI_shr, bI_or, BitVec.getLsbD_and, BitVec.getLsbD_or, BitVec.getLsbD_sshiftRight]
  cases i with
  | zero =>
    have e : (v && w) = x := by simpa using hx
    have h0 := h.2 0 w rfl
    have h1 := h.2 1 v rfl
    rw [bm2 0 (by decide)]
    subst e
    have h0 : (bI b)[0] = w := by simpa using h0
    have h1 : (bI b)[1] = v := by simpa using h1
    simp [h0, h1]
  | succ i =>
    have hx : l[i]? = some x := by simpa using hx
    have h0 := h.2 (i + 2) x (by simpa using hx)
    obtain ⟨hh, -⟩ := List.getElem?_eq_some_iff.mp hx
    have h3 : 1 + (i + 1) < 32 := by omega
    have h4 : ¬ 32 ≤ i + 1 := by omega
    rw [bm2 (i + 1) (by omega), if_pos h3, show 1 + (i + 1) = i + 2 by omega, h0]
    simp [h4]
theorem SB_or {b : Int} {l : List Bool} {v w : Bool} (h : SB b (w :: v :: l)) : SB (gm_or (gm_shr b 1) (gm_and b 1)) ((v || w) :: l) := by
  have e1 : bI 1 = bI (b01 true) := rfl
  have h9 := h.1
  simp only [List.length_cons] at h9
  refine ⟨by rw [List.length_cons]; omega, fun i x hx => ?_⟩
  rw [bI_or, bI_shr, bI_and, BitVec.getLsbD_or, BitVec.getLsbD_and, BitVec.getLsbD_sshiftRight, e1, bI01]
  cases i with
  | zero =>
    have e : (v || w) = x := by simpa using hx
    have h0 := h.2 0 w rfl
    have h1 := h.2 1 v rfl
    subst e
    have h0 : (bI b)[0] = w := by simpa using h0
    have h1 : (bI b)[1] = v := by simpa using h1
    simp [h0, h1]
  | succ i =>
    have hx : l[i]? = some x := by simpa using hx
    have h0 := h.2 (i + 2) x (by simpa using hx)
    obtain ⟨hh, -⟩ := List.getElem?_eq_some_iff.mp hx
    have h3 : 1 + (i + 1) < 32 := by omega
    have h4 : ¬ 32 ≤ i + 1 := by omega
    rw [if_pos h3, show 1 + (i + 1) = i + 2 by omega, h0]
    simp [h4]
theorem SB_top {b : Int} {l : List Bool} {v : Bool} (h : SB b (v :: l)) : gm_and b 1 = 1 ↔ v = true := by
  have h0 := h.2 0 v rfl
  have e1 : bI 1 = bI (b01 true) := rfl
  have e : bI (gm_and b 1) = bI (b01 v) := by
    apply BitVec.eq_of_getLsbD_eq
    intro i hi
    rw [bI_and, BitVec.getLsbD_and, e1, bI01, bI01]
    cases i with
    | zero =>
      rw [h0]
      cases v <;> rfl
    | succ i => simp
  have e2 : gm_and b 1 = b01 v := by
    have h2 : (Int32.ofInt (gm_and b 1)).toInt = gm_and b 1 := by
      unfold gm_and
      rw [Int32.ofInt_toInt]
    have h3 : (Int32.ofInt (b01 v)).toInt = b01 v := by cases v <;> decide
    rw [← h2, ← h3]
    have h4 : Int32.ofInt (gm_and b 1) = Int32.ofInt (b01 v) := Int32.toBitVec_inj.mp e
    rw [h4]
  rw [e2]
  cases v <;> decide
theorem evl_push (hF : FB F) {s : lst} (h1 : s.1 = 0 ∧ cwf s.2.2.1 s.2.2.2 ∨ s.1 = 8 ∨ s.1 = 9) (b l : Int) (st : List Bool) : ∃ v l2, evl F (scd s) (b, l, 0) = (gm_or (gm_shl b 1) (b01 v), l2, 0) ∧ sval F s st = v :: st := by
  obtain ⟨kd, g, x, y⟩ := s
  have key : ∀ x : Int, x = 0 ∨ x = 1 → x = b01 (decide (x = 1)) := fun x hx => by rcases hx with rfl | rfl <;> decide
  rcases h1 with ⟨h1, hx, hy, -, -⟩ | h1 | h1
  · have h1 : kd = 0 := h1
    subst h1
    refine ⟨cval F g x y, psum F x, ?_, rfl⟩
    show evl F (x.map pcd ++ (-12 :: (y.map pcd ++ [if g = true then -14 else -13]))) (b, l, 0) = _
    rw [evl_app, evl_ps x hx, evl_cons]
    have e12 : ∀ s, ev1 F (-12) (b, l, s) = (b, s, 0) := fun s => rfl
    rw [e12, evl_app, evl_ps y hy]
    cases g with
    | true =>
      show (gm_or (gm_shl b 1) (if gm_w (psum F y) < gm_w (psum F x) then 1 else 0), psum F x, (0 : Int)) = _
      unfold cval b01
      by_cases h : gm_w (psum F y) < gm_w (psum F x)
      · rw [if_pos h, if_pos rfl, decide_eq_true h, if_pos rfl]
      · rw [if_neg h, if_pos rfl, decide_eq_false h, if_neg (by decide)]
    | false =>
      show (gm_or (gm_shl b 1) (if gm_w (psum F x) < gm_w (psum F y) then 1 else 0), psum F x, (0 : Int)) = _
      unfold cval b01
      by_cases h : gm_w (psum F x) < gm_w (psum F y)
      · rw [if_pos h, if_neg (show ¬ (false = true) by decide), decide_eq_true h, if_pos rfl]
      · rw [if_neg h, if_neg (show ¬ (false = true) by decide), decide_eq_false h, if_neg (by decide)]
  · have h1 : kd = 8 := h1
    subst h1
    refine ⟨decide (F 8 = 1), l, ?_, rfl⟩
    rw [← key (F 8) hF.1]
    rfl
  · have h1 : kd = 9 := h1
    subst h1
    refine ⟨decide (F 9 = 1), l, ?_, rfl⟩
    rw [← key (F 9) hF.2]
    rfl
theorem st_1 {st : List Bool} (h : 1 ≤ st.length) : ∃ v r, st = v :: r := by
  cases st with
  | nil => exact absurd h (by decide)
  | cons v r => exact ⟨v, r, rfl⟩
theorem st_2 {st : List Bool} (h : 2 ≤ st.length) : ∃ w v r, st = w :: v :: r := by
  obtain ⟨w, r, rfl⟩ := st_1 (st := st) (by omega)
  obtain ⟨v, r, rfl⟩ := st_1 (st := r) (by rw [List.length_cons] at h; omega)
  exact ⟨w, v, r, rfl⟩
theorem evl_s (hF : FB F) : ∀ (ls : List lst) (h k : Nat), shg 32 ls h k → ∀ (b l : Int) (st : List Bool), st.length = h → SB b st → ∃ b2 l2, evl F (scds ls) (b, l, 0) = (b2, l2, 0) ∧ SB b2 (srun F ls st) ∧ (srun F ls st).length = k := by
  intro ls
  induction ls with
  | nil =>
    intro h k hs b l st hl hb
    have hs : h = k := hs
    exact ⟨b, l, rfl, hb, hl.trans hs⟩
  | cons s r ih =>
    intro h k hs b l st hl hb
    have e0 : evl F (scds (s :: r)) (b, l, 0) = evl F (scds r) (evl F (scd s) (b, l, 0)) := evl_app
    have e1 : srun F (s :: r) st = srun F r (sval F s st) := rfl
    rw [e0, e1]
    rcases hs with ⟨h1, h2, h3⟩ | ⟨h1, h2, h3⟩ | ⟨h1, h2, h3⟩
    · obtain ⟨v, l2, e2, e3⟩ := evl_push hF h1 b l st
      rw [e2, e3]
      exact ih (h + 1) k h3 _ l2 (v :: st) (by rw [List.length_cons, hl]) (SB_push hb (by omega) v)
    · obtain ⟨v, q, rfl⟩ := st_1 (st := st) (by omega)
      obtain ⟨kd, g, x, y⟩ := s
      have h1 : kd = 14 := h1
      subst h1
      exact ih h k h3 (gm_xor b 1) l ((!v) :: q) hl (SB_not hb)
    · obtain ⟨w, v, q, rfl⟩ := st_2 (st := st) (by omega)
      obtain ⟨kd, g, x, y⟩ := s
      have hl2 : (q.length + 1) + 1 = h := hl
      rcases h1 with h1 | h1
      · have h1 : kd = 15 := h1
        subst h1
        exact ih (h - 1) k h3 (gm_and (gm_shr b 1) (gm_or b (-2))) l ((v && w) :: q) (by rw [List.length_cons]; omega) (SB_and hb)
      · have h1 : kd = 16 := h1
        subst h1
        exact ih (h - 1) k h3 (gm_or (gm_shr b 1) (gm_and b 1)) l ((v || w) :: q) (by rw [List.length_cons]; omega) (SB_or hb)
theorem scd_n {s : lst} : 1 ≤ (scd s).length := by
  unfold scd
  split
  · simp only [List.length_append, List.length_cons]
    omega
  · split
    · exact Nat.le_refl _
    · split
      · exact Nat.le_refl _
      · split <;> exact Nat.le_refl _
theorem scds_n {B : Nat} {ls : List lst} (h : shg B ls 0 1) : 1 ≤ (scds ls).length := by
  cases ls with
  | nil => exact absurd (show (0 : Nat) = 1 from h) (by decide)
  | cons s r =>
    have := scd_n (s := s)
    show 1 ≤ (scd s ++ scds r).length
    rw [List.length_append]
    omega
theorem evr_l {C : Int → Int} : ∀ (l : List Int) (i : Int) (s : Int × Int × Int), (∀ (j : Nat) (v : Int), l[j]? = some v → C (i + (j : Int)) = v) → evr F C l.length i s = evl F l s := by
  intro l
  induction l with
  | nil => intro i s _; rfl
  | cons c l ih =>
    intro i s h
    show evr F C l.length (i + 1) (ev1 F (C i) s) = evl F l (ev1 F c s)
    have h0 := h 0 c rfl
    rw [show i + ((0 : Nat) : Int) = i by omega] at h0
    rw [h0]
    refine ih (i + 1) _ (fun j v hj => ?_)
    have := h (j + 1) v (by simpa using hj)
    rwa [show i + ((j + 1 : Nat) : Int) = i + 1 + (j : Int) by omega] at this
theorem lvl_e {ls : List lst} {v : Bool} (h : srun F ls [] = [v]) : lvl F ls = v := by
  unfold lvl
  rw [h]
  rfl
/-- what the class makes of a condition's codes -/
theorem evh_t (hF : FB F) {C : Int → Int} {t : List lst} {b e : Int} (hw : shg 32 t 0 1) (he : e = b + ((scds t).length : Int)) (hn : b < e) (hC : ∀ (j : Nat) (v : Int), (scds t)[j]? = some v → C (b + (j : Int)) = v) : evh F C b e ↔ lvl F t = true := by
  unfold evh
  rw [show (e - b).toNat = (scds t).length by omega, if_pos hn, evr_l _ _ _ hC]
  obtain ⟨b2, l2, e2, h2, h3⟩ := evl_s hF t 0 1 hw 0 0 [] rfl ⟨by decide, fun i v h => by simp at h⟩
  rw [e2]
  obtain ⟨v, q, e⟩ := st_1 (st := srun F t []) (by omega)
  have hq : q = [] := by
    rw [e, List.length_cons] at h3
    exact List.length_eq_zero_iff.mp (by omega)
  subst hq
  rw [e] at h2
  rw [lvl_e e]
  exact SB_top h2
theorem evh_0 {C : Int → Int} {b : Int} : evh F C b b := by
  unfold evh
  rw [show (b - b).toNat = 0 by omega, if_neg (by omega)]
  show gm_and 1 1 = 1
  decide
-- the reference
noncomputable def rvl (F : Int → Int) (l : List (Int × Int)) (s : (Int → Int) × Int) : (Int → Int) × Int := l.foldl (fun s c => rv1 F c.1 c.2 s) s
theorem rvl_app {a b : List (Int × Int)} {s : (Int → Int) × Int} : rvl F (a ++ b) s = rvl F b (rvl F a s) := List.foldl_append ..
theorem rvl_cons {c : Int × Int} {b : List (Int × Int)} {s : (Int → Int) × Int} : rvl F (c :: b) s = rvl F b (rv1 F c.1 c.2 s) := rfl
theorem rv1_p {p : Int × Int} (hp : pwf p) {V : Int → Int} {k : Int} : rv1 F p.1 p.2 (V, k) = (nup V k (pval F p), k + 1) := by
  have h : p.1 ≤ 10 := by rcases hp with ⟨⟨h1, h2⟩, -⟩ | ⟨h1, h2, h3⟩ <;> omega
  unfold rv1
  rw [if_pos h]
  rfl
theorem rv1_b {c : Int} (hc : 10 < c) (h14 : ¬ c = 14) {V : Int → Int} {k : Int} : rv1 F c 0 (V, k + 1 + 1) = (nup V k (rbin c (V k) (V (k + 1))), k + 1) := by
  unfold rv1
  rw [if_neg (by omega), if_neg h14]
  dsimp only
  rw [show k + 1 + 1 - 1 - 1 = k by omega, show k + 1 + 1 - 1 = k + 1 by omega]
theorem rvl_ps : ∀ (ps : List (Int × Int)), (∀ p ∈ ps, pwf p) → ∀ (V : Int → Int) (k : Int), ∃ V2, rvl F (rps ps) (V, k + 1) = (V2, k + 1) ∧ V2 k = ps.foldl (fun s p => s + pval F p) (V k) ∧ ∀ j, j < k → V2 j = V j := by
  intro ps
  induction ps with
  | nil => exact fun _ V k => ⟨V, rfl, rfl, fun _ _ => rfl⟩
  | cons p ps ih =>
    intro h V k
    have e : rvl F (rps (p :: ps)) (V, k + 1) = rvl F (rps ps) (nup (nup V (k + 1) (pval F p)) k (V k + pval F p), k + 1) := by
      show rvl F (p :: (11, 0) :: rps ps) (V, k + 1) = _
      rw [rvl_cons, rv1_p (h p List.mem_cons_self), rvl_cons, rv1_b (by decide) (by decide)]
      rw [nup_at, nup_ne (show ¬ k = k + 1 by omega)]
      rfl
    obtain ⟨V2, e2, h2, h3⟩ := ih (fun q hq => h q (List.mem_cons_of_mem _ hq)) (nup (nup V (k + 1) (pval F p)) k (V k + pval F p)) k
    refine ⟨V2, e.trans e2, ?_, fun j hj => ?_⟩
    · rw [h2, nup_at]
      rfl
    · rw [h3 j hj, nup_ne (by omega), nup_ne (by omega)]
theorem rvl_pt {ps : List (Int × Int)} (h : ∀ p ∈ ps, pwf p) (hn : ¬ ps = []) (V : Int → Int) (k : Int) : ∃ V2, rvl F (rpt ps) (V, k) = (V2, k + 1) ∧ V2 k = psum F ps ∧ ∀ j, j < k → V2 j = V j := by
  cases ps with
  | nil => exact absurd rfl hn
  | cons p ps =>
    obtain ⟨V2, e2, h2, h3⟩ := rvl_ps (F := F) ps (fun q hq => h q (List.mem_cons_of_mem _ hq)) (nup V k (pval F p)) k
    refine ⟨V2, ?_, ?_, fun j hj => ?_⟩
    · show rvl F (p :: rps ps) (V, k) = _
      rw [rvl_cons, rv1_p (h p List.mem_cons_self)]
      exact e2
    · rw [h2, nup_at]
      show ps.foldl (fun s p => s + pval F p) (pval F p) = ps.foldl (fun s p => s + pval F p) (0 + pval F p)
      rw [Int.zero_add]
    · rw [h3 j hj, nup_ne (by omega)]
theorem rb01 (v w : Bool) : rbin 15 (b01 v) (b01 w) = b01 (v && w) ∧ rbin 16 (b01 v) (b01 w) = b01 (v || w) := by cases v <;> cases w <;> decide
noncomputable def RSK (V : Int → Int) (st : List Bool) : Prop := ∀ (i : Nat) (v : Bool), st[i]? = some v → V ((st.length : Int) - 1 - (i : Int)) = b01 v
theorem RSK_push {V V2 : Int → Int} {st : List Bool} {v : Bool} (h : RSK V st) (h1 : V2 (st.length : Int) = b01 v) (h2 : ∀ j, j < (st.length : Int) → V2 j = V j) : RSK V2 (v :: st) := by
  intro i w hi
  rw [List.length_cons]
  cases i with
  | zero =>
    have e : v = w := by simpa using hi
    subst e
    rw [show ((st.length + 1 : Nat) : Int) - 1 - ((0 : Nat) : Int) = (st.length : Int) by omega]
    exact h1
  | succ i =>
    have hi : st[i]? = some w := by simpa using hi
    rw [show ((st.length + 1 : Nat) : Int) - 1 - ((i + 1 : Nat) : Int) = (st.length : Int) - 1 - (i : Int) by omega, h2 _ (by omega)]
    exact h i w hi
theorem RSK_0 {V : Int → Int} {st : List Bool} {v : Bool} (h : RSK V (v :: st)) : V (st.length : Int) = b01 v ∧ RSK V st := by
  constructor
  · have := h 0 v rfl
    rwa [List.length_cons, show ((st.length + 1 : Nat) : Int) - 1 - ((0 : Nat) : Int) = (st.length : Int) by omega] at this
  · intro i w hi
    have := h (i + 1) w (by simpa using hi)
    rwa [List.length_cons, show ((st.length + 1 : Nat) : Int) - 1 - ((i + 1 : Nat) : Int) = (st.length : Int) - 1 - (i : Int) by omega] at this
theorem rvl_push (hF : FB F) {s : lst} (h1 : s.1 = 0 ∧ cwf s.2.2.1 s.2.2.2 ∨ s.1 = 8 ∨ s.1 = 9) (V : Int → Int) (k : Int) (st : List Bool) : ∃ v V2, rvl F (srd s) (V, k) = (V2, k + 1) ∧ V2 k = b01 v ∧ (∀ j, j < k → V2 j = V j) ∧ sval F s st = v :: st := by
  obtain ⟨kd, g, x, y⟩ := s
  have key : ∀ x : Int, x = 0 ∨ x = 1 → x = b01 (decide (x = 1)) := fun x hx => by rcases hx with rfl | rfl <;> decide
  rcases h1 with ⟨h1, hx, hy, nx, ny⟩ | h1 | h1
  · have h1 : kd = 0 := h1
    subst h1
    obtain ⟨V1, e1, a1, b1⟩ := rvl_pt (F := F) hx nx V k
    obtain ⟨V2, e2, a2, b2⟩ := rvl_pt (F := F) hy ny V1 (k + 1)
    have e : rvl F (rpt x ++ (rpt y ++ [(if g = true then 13 else 12, 0)])) (V, k) = rvl F [(if g = true then 13 else 12, 0)] (V2, k + 1 + 1) := by
      rw [rvl_app, e1, rvl_app, e2]
    have hk : V2 k = psum F x := (b2 k (by omega)).trans a1
    refine ⟨cval F g x y, nup V2 k (b01 (cval F g x y)), ?_, nup_at, fun j hj => by rw [nup_ne (by omega), b2 j (by omega), b1 j hj], rfl⟩
    show rvl F (rpt x ++ (rpt y ++ [(if g = true then 13 else 12, 0)])) (V, k) = _
    rw [e]
    cases g with
    | true =>
      show rv1 F 13 0 (V2, k + 1 + 1) = _
      rw [rv1_b (by decide) (by decide), a2, hk]
      show (nup V2 k (if gm_w (psum F y) < gm_w (psum F x) then 1 else 0), k + 1) = _
      unfold cval b01
      by_cases h : gm_w (psum F y) < gm_w (psum F x)
      · rw [if_pos h, if_pos rfl, decide_eq_true h, if_pos rfl]
      · rw [if_neg h, if_pos rfl, decide_eq_false h, if_neg (by decide)]
    | false =>
      show rv1 F 12 0 (V2, k + 1 + 1) = _
      rw [rv1_b (by decide) (by decide), a2, hk]
      show (nup V2 k (if gm_w (psum F x) < gm_w (psum F y) then 1 else 0), k + 1) = _
      unfold cval b01
      by_cases h : gm_w (psum F x) < gm_w (psum F y)
      · rw [if_pos h, if_neg (show ¬ (false = true) by decide), decide_eq_true h, if_pos rfl]
      · rw [if_neg h, if_neg (show ¬ (false = true) by decide), decide_eq_false h, if_neg (by decide)]
  · have h1 : kd = 8 := h1
    subst h1
    exact ⟨decide (F 8 = 1), nup V k (F 8), rfl, by rw [nup_at]; exact key _ hF.1, fun j hj => nup_ne (by omega), rfl⟩
  · have h1 : kd = 9 := h1
    subst h1
    exact ⟨decide (F 9 = 1), nup V k (F 9), rfl, by rw [nup_at]; exact key _ hF.2, fun j hj => nup_ne (by omega), rfl⟩
theorem rvl_s (hF : FB F) {B : Nat} : ∀ (ls : List lst) (h k : Nat), shg B ls h k → ∀ (V : Int → Int) (st : List Bool), st.length = h → RSK V st → ∃ V2, rvl F (srds ls) (V, (h : Int)) = (V2, (k : Int)) ∧ RSK V2 (srun F ls st) ∧ (srun F ls st).length = k := by
  intro ls
  induction ls with
  | nil =>
    intro h k hs V st hl hb
    have hs : h = k := hs
    subst hs
    exact ⟨V, rfl, hb, hl⟩
  | cons s r ih =>
    intro h k hs V st hl hb
    have e0 : rvl F (srds (s :: r)) (V, (h : Int)) = rvl F (srds r) (rvl F (srd s) (V, (h : Int))) := rvl_app
    have e1 : srun F (s :: r) st = srun F r (sval F s st) := rfl
    rw [e0, e1]
    rcases hs with ⟨h1, h2, h3⟩ | ⟨h1, h2, h3⟩ | ⟨h1, h2, h3⟩
    · obtain ⟨v, V2, e2, a2, b2, e3⟩ := rvl_push hF h1 V (h : Int) st
      rw [e2, e3]
      exact ih (h + 1) k h3 V2 (v :: st) (by rw [List.length_cons, hl]) (RSK_push hb (by rw [hl]; exact a2) (by rw [hl]; exact b2))
    · obtain ⟨v, q, rfl⟩ := st_1 (st := st) (by omega)
      have hl2 : q.length + 1 = h := hl
      obtain ⟨a1, a2⟩ := RSK_0 hb
      obtain ⟨kd, g, x, y⟩ := s
      have h1 : kd = 14 := h1
      subst h1
      have e2 : rvl F (srd (14, g, x, y)) (V, (h : Int)) = (nup V (q.length : Int) (1 - V (q.length : Int)), (h : Int)) := by
        show rv1 F 14 0 (V, (h : Int)) = _
        unfold rv1
        rw [if_neg (by decide), if_pos rfl]
        dsimp only
        rw [show (h : Int) - 1 = (q.length : Int) by omega]
      rw [e2]
      refine ih h k h3 _ ((!v) :: q) hl (RSK_push a2 ?_ (fun j hj => nup_ne (by omega)))
      rw [nup_at, a1]
      cases v <;> decide
    · obtain ⟨w, v, q, rfl⟩ := st_2 (st := st) (by omega)
      have hl2 : (q.length + 1) + 1 = h := hl
      obtain ⟨a1, a2⟩ := RSK_0 hb
      rw [List.length_cons] at a1
      obtain ⟨a3, a4⟩ := RSK_0 a2
      obtain ⟨kd, g, x, y⟩ := s
      have e3 : ∀ c : Int, c = 15 ∨ c = 16 → rv1 F c 0 (V, (h : Int)) = (nup V (q.length : Int) (rbin c (b01 v) (b01 w)), ((h - 1 : Nat) : Int)) := by
        intro c hc
        have := rv1_b (F := F) (c := c) (by omega) (by omega) (V := V) (k := (q.length : Int))
        rw [show (q.length : Int) + 1 + 1 = (h : Int) by omega, a3, show (q.length : Int) + 1 = ((q.length + 1 : Nat) : Int) by omega, a1] at this
        rw [this]
        congr 1
        omega
      rcases h1 with h1 | h1
      · have h1 : kd = 15 := h1
        subst h1
        have e2 : rvl F (srd (15, g, x, y)) (V, (h : Int)) = _ := e3 15 (Or.inl rfl)
        rw [e2, (rb01 _ _).1]
        exact ih (h - 1) k h3 _ ((v && w) :: q) (by rw [List.length_cons]; omega) (RSK_push a4 nup_at (fun j hj => nup_ne (by omega)))
      · have h1 : kd = 16 := h1
        subst h1
        have e2 : rvl F (srd (16, g, x, y)) (V, (h : Int)) = _ := e3 16 (Or.inr rfl)
        rw [e2, (rb01 _ _).2]
        exact ih (h - 1) k h3 _ ((v || w) :: q) (by rw [List.length_cons]; omega) (RSK_push a4 nup_at (fun j hj => nup_ne (by omega)))
theorem rvr_l {G : Int → Int} : ∀ (l : List (Int × Int)) (i : Int) (s : (Int → Int) × Int), (∀ (j : Nat) (v : Int × Int), l[j]? = some v → G (444 + 2 * (i + (j : Int))) = v.1 ∧ G (444 + 2 * (i + (j : Int)) + 1) = v.2) → rvr F G l.length i s = rvl F l s := by
  intro l
  induction l with
  | nil => intro i s _; rfl
  | cons c l ih =>
    intro i s h
    show rvr F G l.length (i + 1) (rv1 F (G (444 + 2 * i)) (G (444 + 2 * i + 1)) s) = rvl F l (rv1 F c.1 c.2 s)
    obtain ⟨h0, h1⟩ := h 0 c rfl
    rw [show i + ((0 : Nat) : Int) = i by omega] at h0 h1
    rw [h0, h1]
    refine ih (i + 1) _ (fun j v hj => ?_)
    have := h (j + 1) v (by simpa using hj)
    rwa [show i + ((j + 1 : Nat) : Int) = i + 1 + (j : Int) by omega] at this
/-- what the reference makes of a condition's steps -/
theorem rhl_t (hF : FB F) {G : Int → Int} {t : List lst} {k : Int} {V : Int → Int} (hw : shg 32 t 0 1) (he : G (396 + 4 * k + 3) = G (396 + 4 * k + 2) + ((srds t).length : Int)) (hG : ∀ (j : Nat) (v : Int × Int), (srds t)[j]? = some v → G (444 + 2 * (G (396 + 4 * k + 2) + (j : Int))) = v.1 ∧ G (444 + 2 * (G (396 + 4 * k + 2) + (j : Int)) + 1) = v.2) : rhl F G k V ↔ lvl F t = true := by
  unfold rhl
  rw [show (G (396 + 4 * k + 3) - G (396 + 4 * k + 2)).toNat = (srds t).length by omega, rvr_l _ _ _ hG]
  obtain ⟨V2, e2, h2, h3⟩ := rvl_s hF t 0 1 hw V [] rfl (fun i v h => by simp at h)
  have e2 : rvl F (srds t) (V, 0) = (V2, 1) := e2
  rw [e2]
  obtain ⟨v, q, e⟩ := st_1 (st := srun F t []) (by omega)
  have hq : q = [] := by
    rw [e, List.length_cons] at h3
    exact List.length_eq_zero_iff.mp (by omega)
  subst hq
  rw [e] at h2
  rw [lvl_e e]
  have h0 : V2 0 = b01 v := (RSK_0 h2).1
  unfold rend
  show ((1 : Int) = (0 : Int) ∨ gm_w (V2 0) = 1) ↔ _
  rw [h0]
  cases v <;> decide
theorem rhl_0 {G : Int → Int} {k : Int} {V : Int → Int} (he : G (396 + 4 * k + 3) = G (396 + 4 * k + 2)) : rhl F G k V := by
  unfold rhl
  rw [show (G (396 + 4 * k + 3) - G (396 + 4 * k + 2)).toNat = 0 by omega]
  exact Or.inl rfl
/-- as hok, of steps in a row -/
noncomputable def hokl : List (Int × Int) → Int → Prop
  | [], t => 0 ≤ t ∧ t ≤ 400
  | c :: l, t => (0 ≤ c.1 ∧ c.1 ≤ 16) ∧ (c.1 ≤ 10 → (0 ≤ t ∧ t < 400) ∧ hokl l (t + 1)) ∧ (c.1 = 14 → (1 ≤ t ∧ t ≤ 400) ∧ hokl l t) ∧ (10 < c.1 → ¬ c.1 = 14 → (2 ≤ t ∧ t ≤ 400) ∧ hokl l (t - 1))
theorem hok_l {G : Int → Int} : ∀ (l : List (Int × Int)) (i t : Int), (∀ (j : Nat) (v : Int × Int), l[j]? = some v → G (444 + 2 * (i + (j : Int))) = v.1) → hokl l t → hok G l.length i t := by
  intro l
  induction l with
  | nil => exact fun i t _ h => h
  | cons c l ih =>
    intro i t h hh
    obtain ⟨h1, h2, h3, h4⟩ := hh
    have h0 := h 0 c rfl
    rw [show i + ((0 : Nat) : Int) = i by omega] at h0
    have hs : ∀ (j : Nat) (v : Int × Int), l[j]? = some v → G (444 + 2 * (i + 1 + (j : Int))) = v.1 := fun j v hj => by
      have := h (j + 1) v (by simpa using hj)
      rwa [show i + ((j + 1 : Nat) : Int) = i + 1 + (j : Int) by omega] at this
    show (0 ≤ G (444 + 2 * i) ∧ G (444 + 2 * i) ≤ 16) ∧ (G (444 + 2 * i) ≤ 10 → (0 ≤ t ∧ t < 400) ∧ hok G l.length (i + 1) (t + 1)) ∧ (G (444 + 2 * i) = 14 → (1 ≤ t ∧ t ≤ 400) ∧ hok G l.length (i + 1) t) ∧ (10 < G (444 + 2 * i) → ¬ G (444 + 2 * i) = 14 → (2 ≤ t ∧ t ≤ 400) ∧ hok G l.length (i + 1) (t - 1))
    rw [h0]
    exact ⟨h1, fun g => ⟨(h2 g).1, ih _ _ hs (h2 g).2⟩, fun g => ⟨(h3 g).1, ih _ _ hs (h3 g).2⟩, fun g g2 => ⟨(h4 g g2).1, ih _ _ hs (h4 g g2).2⟩⟩
theorem hokl_p {p : Int × Int} {l : List (Int × Int)} {t : Int} (hp : pwf p) (h0 : 0 ≤ t ∧ t < 400) (h : hokl l (t + 1)) : hokl (p :: l) t := by
  have h1 : 0 ≤ p.1 ∧ p.1 ≤ 10 := by rcases hp with ⟨⟨h1, h2⟩, -⟩ | ⟨h1, h2, h3⟩ <;> exact ⟨by omega, by omega⟩
  exact ⟨⟨h1.1, by omega⟩, fun _ => ⟨h0, h⟩, fun g => absurd g (by omega), fun g => absurd g (by omega)⟩
theorem hokl_b {c : Int} {l : List (Int × Int)} {t : Int} (hc : 10 < c ∧ c ≤ 16) (h14 : ¬ c = 14) (h0 : 0 ≤ t ∧ t + 1 + 1 ≤ 400) (h : hokl l (t + 1)) : hokl ((c, 0) :: l) (t + 1 + 1) := by
  refine ⟨⟨by show (0 : Int) ≤ c; omega, hc.2⟩, fun g => absurd g (by show ¬ c ≤ 10; omega), fun g => absurd g h14, fun _ _ => ⟨⟨by omega, by omega⟩, ?_⟩⟩
  rw [show t + 1 + 1 - 1 = t + 1 by omega]
  exact h
theorem hokl_ps : ∀ (ps : List (Int × Int)), (∀ p ∈ ps, pwf p) → ∀ (rest : List (Int × Int)) (t : Int), 0 ≤ t → t + 1 + 1 ≤ 400 → hokl rest (t + 1) → hokl (rps ps ++ rest) (t + 1) := by
  intro ps
  induction ps with
  | nil => exact fun _ rest t _ _ h => h
  | cons p ps ih =>
    intro h rest t t0 hl hr
    have h9 := ih (fun q hq => h q (List.mem_cons_of_mem _ hq)) rest t t0 hl hr
    show hokl (p :: (11, 0) :: (rps ps ++ rest)) (t + 1)
    exact hokl_p (h p List.mem_cons_self) ⟨by omega, by omega⟩ (hokl_b (by decide) (by decide) ⟨t0, by omega⟩ h9)
theorem hokl_pt {ps : List (Int × Int)} (h : ∀ p ∈ ps, pwf p) (hn : ¬ ps = []) (rest : List (Int × Int)) (t : Int) (t0 : 0 ≤ t) (hl : t + 1 + 1 ≤ 400) (hr : hokl rest (t + 1)) : hokl (rpt ps ++ rest) t := by
  cases ps with
  | nil => exact absurd rfl hn
  | cons p ps =>
    show hokl (p :: (rps ps ++ rest)) t
    exact hokl_p (h p List.mem_cons_self) ⟨t0, by omega⟩ (hokl_ps ps (fun q hq => h q (List.mem_cons_of_mem _ hq)) rest t t0 hl hr)
theorem hokl_s : ∀ (ls : List lst) (h k : Nat), shg 32 ls h k → ∀ rest : List (Int × Int), h ≤ 32 → hokl rest (k : Int) → hokl (srds ls ++ rest) (h : Int) := by
  intro ls
  induction ls with
  | nil =>
    intro h k hs rest _ hr
    have hs : h = k := hs
    subst hs
    exact hr
  | cons s r ih =>
    intro h k hs rest hh hr
    show hokl ((srd s ++ srds r) ++ rest) (h : Int)
    rw [List.append_assoc]
    obtain ⟨kd, g, x, y⟩ := s
    rcases hs with ⟨h1, h2, h3⟩ | ⟨h1, h2, h3⟩ | ⟨h1, h2, h3⟩
    · have h9 := ih (h + 1) k h3 rest h2 hr
      rw [show ((h + 1 : Nat) : Int) = (h : Int) + 1 by omega] at h9
      rcases h1 with ⟨h1, hx, hy, nx, ny⟩ | h1 | h1
      · have h1 : kd = 0 := h1
        subst h1
        show hokl ((rpt x ++ (rpt y ++ [(if g = true then 13 else 12, 0)])) ++ (srds r ++ rest)) (h : Int)
        rw [List.append_assoc, List.append_assoc]
        refine hokl_pt hx nx _ _ (by omega) (by omega) (hokl_pt hy ny _ _ (by omega) (by omega) ?_)
        cases g
        · exact hokl_b (by decide) (by decide) ⟨by omega, by omega⟩ h9
        · exact hokl_b (by decide) (by decide) ⟨by omega, by omega⟩ h9
      · have h1 : kd = 8 := h1
        subst h1
        show hokl ((8, 0) :: (srds r ++ rest)) (h : Int)
        exact ⟨by decide, fun _ => ⟨⟨by omega, by omega⟩, h9⟩, fun g => absurd g (by decide), fun g => absurd g (by decide)⟩
      · have h1 : kd = 9 := h1
        subst h1
        show hokl ((9, 0) :: (srds r ++ rest)) (h : Int)
        exact ⟨by decide, fun _ => ⟨⟨by omega, by omega⟩, h9⟩, fun g => absurd g (by decide), fun g => absurd g (by decide)⟩
    · have h9 := ih h k h3 rest hh hr
      have h1 : kd = 14 := h1
      subst h1
      show hokl ((14, 0) :: (srds r ++ rest)) (h : Int)
      exact ⟨by decide, fun g => absurd g (by decide), fun _ => ⟨⟨by omega, by omega⟩, h9⟩, fun _ g => absurd rfl g⟩
    · have h9 := ih (h - 1) k h3 rest (by omega) hr
      obtain ⟨u, rfl⟩ : ∃ u, h = u + 1 + 1 := ⟨h - 2, by omega⟩
      rw [show ((u + 1 + 1 - 1 : Nat) : Int) = (u : Int) + 1 by omega] at h9
      rw [show ((u + 1 + 1 : Nat) : Int) = (u : Int) + 1 + 1 by omega]
      rcases h1 with h1 | h1
      · have h1 : kd = 15 := h1
        subst h1
        exact hokl_b (show (10 : Int) < 15 ∧ (15 : Int) ≤ 16 by decide) (show ¬ (15 : Int) = 14 by decide) ⟨by omega, by omega⟩ h9
      · have h1 : kd = 16 := h1
        subst h1
        exact hokl_b (show (10 : Int) < 16 ∧ (16 : Int) ≤ 16 by decide) (show ¬ (16 : Int) = 14 by decide) ⟨by omega, by omega⟩ h9
end LT1
end
/-! 7a21.l1lq -/
section
/-! A LAW, as both keep it. -/
/-- a line: kind, how much, on what -/
noncomputable abbrev lln := Int × Int × Option (List lst)
noncomputable def LW (ls : List lln) : Prop := ls.length ≤ 12 ∧ ∀ (k : Nat) (x : lln), ls[k]? = some x → (0 ≤ x.1 ∧ x.1 ≤ 2) ∧ (0 ≤ x.2.1 ∧ x.2.1 ≤ 20) ∧ ∀ t, x.2.2 = some t → shg 32 t 0 1
/-- the class's law -/
noncomputable def LC (ls : List lln) (C Ln : Int → Int) : Prop := ∀ (k : Nat) (x : lln), ls[k]? = some x → Ln ((k : Int) * 4 + 0) = x.1 ∧ (¬ x.1 = 2 → Ln ((k : Int) * 4 + 1) = x.2.1) ∧ (x.2.2 = none → Ln ((k : Int) * 4 + 2) = Ln ((k : Int) * 4 + 3)) ∧ ∀ t, x.2.2 = some t → Ln ((k : Int) * 4 + 3) = Ln ((k : Int) * 4 + 2) + ((scds t).length : Int) ∧ ∀ (j : Nat) (v : Int), (scds t)[j]? = some v → C (Ln ((k : Int) * 4 + 2) + (j : Int)) = v
/-- the reference's -/
noncomputable def LR (ls : List lln) (G : Int → Int) : Prop := ∀ (k : Nat) (x : lln), ls[k]? = some x → G (396 + 4 * (k : Int)) = x.1 ∧ G (396 + 4 * (k : Int) + 1) = (if x.1 = 2 then 1 else x.2.1) ∧ (x.2.2 = none → G (396 + 4 * (k : Int) + 3) = G (396 + 4 * (k : Int) + 2)) ∧ ∀ t, x.2.2 = some t → G (396 + 4 * (k : Int) + 3) = G (396 + 4 * (k : Int) + 2) + ((srds t).length : Int) ∧ ∀ (j : Nat) (v : Int × Int), (srds t)[j]? = some v → G (444 + 2 * (G (396 + 4 * (k : Int) + 2) + (j : Int))) = v.1 ∧ G (444 + 2 * (G (396 + 4 * (k : Int) + 2) + (j : Int)) + 1) = v.2
/-- whether a line holds -/
noncomputable def lv (F : Int → Int) (x : lln) : Prop := ∀ t, x.2.2 = some t → lvl F t = true
noncomputable def HH (ls : List lln) (F : Int → Int) (k : Int) : Prop := ∃ x, ls[k.toNat]? = some x ∧ lv F x
section LQ1
variable {ls : List lln} {F C Ln G N h : Int → Int} {sp : Int → Int → Int}
theorem lq_at {k : Nat} (hk : k < ls.length) : ∃ x, ls[k]? = some x := ⟨ls[k], List.getElem?_eq_getElem hk⟩
theorem evh_x (hW : LW ls) (hC : LC ls C Ln) (hF : FB F) {k : Nat} {x : lln} (hx : ls[k]? = some x) : evh F C (Ln ((k : Int) * 4 + 2)) (Ln ((k : Int) * 4 + 3)) ↔ lv F x := by
  obtain ⟨-, -, c3, c4⟩ := hC k x hx
  obtain ⟨-, -, w3⟩ := hW.2 k x hx
  unfold lv
  cases ht : x.2.2 with
  | none =>
    rw [← c3 ht]
    exact ⟨fun _ t h => by simp at h, fun _ => evh_0⟩
  | some t =>
    obtain ⟨e1, e2⟩ := c4 t ht
    have w1 := w3 t ht
    have n1 := scds_n w1
    rw [evh_t hF w1 e1 (by omega) e2]
    exact ⟨fun h t2 h2 => by cases h2; exact h, fun h => h t rfl⟩
theorem rhl_x (hW : LW ls) (hR : LR ls G) (hF : FB F) {k : Nat} {x : lln} {V : Int → Int} (hx : ls[k]? = some x) : rhl F G (k : Int) V ↔ lv F x := by
  obtain ⟨-, -, c3, c4⟩ := hR k x hx
  obtain ⟨-, -, w3⟩ := hW.2 k x hx
  unfold lv
  cases ht : x.2.2 with
  | none => exact ⟨fun _ t h => by simp at h, fun _ => rhl_0 (c3 ht)⟩
  | some t =>
    obtain ⟨e1, e2⟩ := c4 t ht
    have w1 := w3 t ht
    rw [rhl_t hF w1 e1 e2]
    exact ⟨fun h t2 h2 => by cases h2; exact h, fun h => h t rfl⟩
theorem HH_x {k : Nat} {x : lln} (hx : ls[k]? = some x) : HH ls F (k : Int) ↔ lv F x := by
  unfold HH
  rw [show ((k : Int)).toNat = k from Int.toNat_natCast k]
  exact ⟨fun ⟨y, h1, h2⟩ => by rw [hx] at h1; cases h1; exact h2, fun h => ⟨x, hx, h⟩⟩
theorem hhl_x (hW : LW ls) (hR : LR ls G) : HHL (HH ls) G (ls.length : Int) := by
  intro F k V hF h0 h1
  obtain ⟨u, rfl⟩ : ∃ u : Nat, k = (u : Int) := ⟨k.toNat, by omega⟩
  obtain ⟨x, hx⟩ := lq_at (ls := ls) (k := u) (by omega)
  rw [rhl_x hW hR hF hx, HH_x hx]
theorem lsum_x (hW : LW ls) (hC : LC ls C Ln) (hR : LR ls G) (hF : FB F) : ∀ k : Nat, k ≤ ls.length → lfas F C Ln k = rsum (HH ls) F G 0 k - rsum (HH ls) F G 1 k := by
  intro k
  induction k with
  | zero => intro _; rfl
  | succ k ih =>
    intro hk
    obtain ⟨x, hx⟩ := lq_at (ls := ls) (k := k) (by omega)
    have i1 := ih (by omega)
    obtain ⟨c1, c2, -, -⟩ := hC k x hx
    obtain ⟨r1, r2, -, -⟩ := hR k x hx
    obtain ⟨⟨w1, w2⟩, -, -⟩ := hW.2 k x hx
    have e1 := evh_x hW hC hF hx
    have e2 := HH_x (F := F) hx
    have s0 : rsum (HH ls) F G 0 (k + 1) = rsum (HH ls) F G 0 k + @ite Int (G (396 + 4 * (k : Int)) = 0 ∧ HH ls F (k : Int)) (Classical.propDecidable _) (G (396 + 4 * (k : Int) + 1)) 0 := rfl
    have s1 : rsum (HH ls) F G 1 (k + 1) = rsum (HH ls) F G 1 k + @ite Int (G (396 + 4 * (k : Int)) = 1 ∧ HH ls F (k : Int)) (Classical.propDecidable _) (G (396 + 4 * (k : Int) + 1)) 0 := rfl
    have s2 : lfas F C Ln (k + 1) = lfas F C Ln k + (if ¬ Ln ((k : Int) * 4 + 0) = 2 then (@ite Int (evh F C (Ln ((k : Int) * 4 + 2)) (Ln ((k : Int) * 4 + 3))) (Classical.propDecidable _) (if Ln ((k : Int) * 4 + 0) = 0 then Ln ((k : Int) * 4 + 1) else -Ln ((k : Int) * 4 + 1)) 0) else 0) := rfl
    rw [s0, s1, s2, r1, r2, c1]
    have h3 : x.1 = 0 ∨ x.1 = 1 ∨ x.1 = 2 := by omega
    by_cases hv : lv F x
    · have a1 := e1.mpr hv
      have a2 := e2.mpr hv
      rcases h3 with h3 | h3 | h3
      · rw [if_pos (show ¬ x.1 = 2 by omega), if_pos a1, if_pos h3, if_pos (show x.1 = 0 ∧ HH ls F (k : Int) from ⟨h3, a2⟩), if_neg (show ¬ (x.1 = 1 ∧ HH ls F (k : Int)) from fun hh => by have := hh.1; omega), if_neg (show ¬ x.1 = 2 by omega), c2 (by omega)]
        omega
      · rw [if_pos (show ¬ x.1 = 2 by omega), if_pos a1, if_neg (show ¬ x.1 = 0 by omega), if_neg (show ¬ (x.1 = 0 ∧ HH ls F (k : Int)) from fun hh => by have := hh.1; omega), if_pos (show x.1 = 1 ∧ HH ls F (k : Int) from ⟨h3, a2⟩), if_neg (show ¬ x.1 = 2 by omega), c2 (by omega)]
        omega
      · rw [if_neg (show ¬ ¬ x.1 = 2 from fun hh => hh h3), if_neg (show ¬ (x.1 = 0 ∧ HH ls F (k : Int)) from fun hh => by have := hh.1; omega), if_neg (show ¬ (x.1 = 1 ∧ HH ls F (k : Int)) from fun hh => by have := hh.1; omega)]
        omega
    · have a1 : ¬ evh F C (Ln ((k : Int) * 4 + 2)) (Ln ((k : Int) * 4 + 3)) := fun hh => hv (e1.mp hh)
      have a2 : ¬ HH ls F (k : Int) := fun hh => hv (e2.mp hh)
      rw [if_neg (show ¬ (x.1 = 0 ∧ HH ls F (k : Int)) from fun hh => a2 hh.2), if_neg (show ¬ (x.1 = 1 ∧ HH ls F (k : Int)) from fun hh => a2 hh.2)]
      by_cases h2 : x.1 = 2
      · rw [if_neg (show ¬ ¬ x.1 = 2 from fun hh => hh h2)]
        omega
      · rw [if_pos h2, if_neg a1]
        omega
theorem rsum_2 (hW : LW ls) (hR : LR ls G) : ∀ k : Nat, k ≤ ls.length → 0 ≤ rsum (HH ls) F G 2 k ∧ (0 < rsum (HH ls) F G 2 k ↔ ∃ (u : Nat) (x : lln), u < k ∧ ls[u]? = some x ∧ x.1 = 2 ∧ lv F x) := by
  intro k
  induction k with
  | zero => intro _; exact ⟨Int.le_refl _, fun h => absurd h (by show ¬ (0 : Int) < 0; decide), fun ⟨u, x, h, _⟩ => absurd h (Nat.not_lt_zero _)⟩
  | succ k ih =>
    intro hk
    obtain ⟨x, hx⟩ := lq_at (ls := ls) (k := k) (by omega)
    obtain ⟨i1, i2⟩ := ih (by omega)
    obtain ⟨r1, r2, -, -⟩ := hR k x hx
    have e2 := HH_x (F := F) hx
    have s2 : rsum (HH ls) F G 2 (k + 1) = rsum (HH ls) F G 2 k + @ite Int (G (396 + 4 * (k : Int)) = 2 ∧ HH ls F (k : Int)) (Classical.propDecidable _) (G (396 + 4 * (k : Int) + 1)) 0 := rfl
    rw [s2, r1, r2]
    by_cases hv : x.1 = 2 ∧ HH ls F (k : Int)
    · rw [if_pos hv, if_pos hv.1]
      exact ⟨by omega, fun _ => ⟨k, x, Nat.lt_succ_self k, hx, hv.1, e2.mp hv.2⟩, fun _ => by omega⟩
    · rw [if_neg hv]
      refine ⟨by omega, fun h => ?_, fun ⟨u, y, h1, h2, h3, h4⟩ => ?_⟩
      · obtain ⟨u, y, h1, h2⟩ := i2.mp (by omega)
        exact ⟨u, y, by omega, h2⟩
      · by_cases e : u = k
        · subst e
          rw [hx] at h2
          cases h2
          exact absurd ⟨h3, e2.mpr h4⟩ hv
        · have := i2.mpr ⟨u, y, by omega, h2, h3, h4⟩
          omega
theorem lopn_x (hW : LW ls) (hC : LC ls C Ln) (hR : LR ls G) (hF : FB F) : lopn F C Ln (ls.length : Int) ↔ 0 < rsum (HH ls) F G 2 ls.length := by
  rw [(rsum_2 hW hR ls.length (Nat.le_refl _)).2]
  unfold lopn
  constructor
  · rintro ⟨k, ⟨k0, k1⟩, h2, h3⟩
    obtain ⟨u, rfl⟩ : ∃ u : Nat, k = (u : Int) := ⟨k.toNat, by omega⟩
    obtain ⟨x, hx⟩ := lq_at (ls := ls) (k := u) (by omega)
    exact ⟨u, x, by omega, hx, (hC u x hx).1.symm.trans h2, (evh_x hW hC hF hx).mp h3⟩
  · rintro ⟨u, x, h1, hx, h2, h3⟩
    exact ⟨(u : Int), ⟨by omega, by omega⟩, (hC u x hx).1.trans h2, (evh_x hW hC hF hx).mpr h3⟩
/-- FLOW is the same -/
theorem lphi_x (hW : LW ls) (hC : LC ls C Ln) (hR : LR ls G) {l r y : Int} (hs : sp l r = nsp N l r) : lphi N h sp C Ln (ls.length : Int) l r y = rphi N h (HH ls) G (ls.length : Int) l r y := by
  unfold lphi rphi
  rw [hs, show ((ls.length : Int)).toNat = ls.length from Int.toNat_natCast _, lsum_x hW hC hR fb_fcts _ (Nat.le_refl _)]
  congr 2
  omega
theorem nphi_x {l r y : Int} (hs : sp l r = nsp N l r) : nphi sp l r y = rphi0 N l r y := by
  unfold nphi rphi0
  rw [hs]
  congr 2
  omega
end LQ1
end
/-! 7a22.c12hs -/
section
/-! THE CLASS: its History as a list, the newest first; what a call refuses (laid by wip/core/c12.py). -/
theorem pl_le {i : Int} (hi : 0 ≤ i ∧ i < 395 ∧ ¬ i = 8) : (pl i).1 ≤ 12 := by
  rcases pl_cases hi with rfl | rfl | rfl | rfl | rfl | rfl | rfl | rfl | rfl | rfl | rfl | rfl | rfl | rfl | h | h | h | h | h | h
  · decide
  · decide
  · decide
  · decide
  · decide
  · decide
  · decide
  · decide
  · decide
  · decide
  · decide
  · decide
  · decide
  · decide
  · rw [pl_2 h]; exact (by decide : (2 : Nat) ≤ 12)
  · rw [pl_4 h]; exact (by decide : (4 : Nat) ≤ 12)
  · rw [pl_6 h]; exact (by decide : (6 : Nat) ≤ 12)
  · rw [pl_8 h]; exact (by decide : (8 : Nat) ≤ 12)
  · rw [pl_10 h]; exact (by decide : (10 : Nat) ≤ 12)
  · rw [pl_12 h]; exact (by decide : (12 : Nat) ≤ 12)
theorem cs_same {M M2 : gm_M} {b : Nat} (h : ∀ (x : Nat) (j : Int), b ≤ x → x ≤ b + 12 → M2 x j = M x j) : cs M2 b = cs M b := cs_ext fun i hi => h _ _ (Nat.le_add_right _ _) (Nat.add_le_add_left (pl_le hi) _)
theorem cst_cpe : (List.range 12).all (fun p => cstL.all fun q => decide (q.1 < 44 + 13 * p ∨ 44 + 13 * p + 12 < q.1 ∨ ((q.1 = 44 + 13 * p + 1 ∨ q.1 = 44 + 13 * p + 3 ∨ q.1 = 44 + 13 * p + 5 ∨ q.1 = 44 + 13 * p + 7 ∨ q.1 = 44 + 13 * p + 9 ∨ q.1 = 44 + 13 * p + 11) ∧ 0 ≤ q.2.1 ∧ q.2.1 < 3))) = true := by decide +kernel
theorem cst_cpf : [3, 16, 29].all (fun p => cstL.all fun q => decide (q.1 < p ∨ p + 12 < q.1 ∨ ((q.1 = p + 1 ∨ q.1 = p + 3 ∨ q.1 = p + 5 ∨ q.1 = p + 7 ∨ q.1 = p + 9 ∨ q.1 = p + 11) ∧ 0 ≤ q.2.1 ∧ q.2.1 < 3))) = true := by decide +kernel
theorem cst_cpy0 {M M2 : gm_M} {b s : Nat} (h : cstL.all (fun q => decide (q.1 < b ∨ b + 12 < q.1 ∨ ((q.1 = b + 1 ∨ q.1 = b + 3 ∨ q.1 = b + 5 ∨ q.1 = b + 7 ∨ q.1 = b + 9 ∨ q.1 = b + 11) ∧ 0 ≤ q.2.1 ∧ q.2.1 < 3))) = true) (hC : CST M) (hc : CPY M M2 b s) : CST M2 := by
  intro q hq
  rw [← hC q hq]
  rcases of_decide_eq_true (List.all_eq_true.mp h q hq) with h1 | h1 | ⟨h1, h2, h3⟩
  · exact hc.1 _ _ (Or.inl h1)
  · exact hc.1 _ _ (Or.inr h1)
  · exact hc.2.1 _ _ h2 h3 (by omega)
theorem cst_cpy {M M2 : gm_M} {p s : Nat} (hp : p < 12) (hC : CST M) (hc : CPY M M2 (44 + 13 * p) s) : CST M2 := cst_cpy0 (List.all_eq_true.mp cst_cpe p (List.mem_range.mpr hp)) hC hc
/-- what is remembered, the newest first -/
noncomputable def HIS (A : List (Int → Int)) (M : gm_M) : Prop := ∃ nx : Int, (0 ≤ nx ∧ nx < 12) ∧ M 42 1 = nx ∧ M 42 2 = (A.length : Int) ∧ A.length ≤ 12 ∧ ∀ (i : Nat) (N1 : Int → Int), A[i]? = some N1 → cs M (44 + 13 * ((nx + 11 - (i : Int)) % 12).toNat) = N1
theorem his_fr {A : List (Int → Int)} {M M2 : gm_M} (h : HIS A M) (e : ∀ (x : Nat) (j : Int), 42 ≤ x → x ≤ 199 → M2 x j = M x j) : HIS A M2 := by
  obtain ⟨nx, h0, h1, h2, h3, h4⟩ := h
  refine ⟨nx, h0, by rw [e 42 1 (by decide) (by decide)]; exact h1, by rw [e 42 2 (by decide) (by decide)]; exact h2, h3, fun i N1 hi => ?_⟩
  rw [← h4 i N1 hi]
  exact cs_same fun x j x1 x2 => e x j (by omega) (by omega)
section HS12
variable {X : Int → Int} {LX d bc bs n : Nat} {K : gm_K} {R : gm_R} {M : gm_M} {Q : gm_Q} {N h : Int → Int} {sp : Int → Int → Int} {A : List (Int → Int)} {i sz x y : Int}
theorem ti_far {M2 : gm_M} (hT : TI N h sp M) (hC : CST M2) (e : ∀ (x : Nat) (j : Int), x < 42 ∨ 199 < x → M2 x j = M x j) : TI N h sp M2 := by
  refine ⟨hC, ?_, fun y y1 y2 => ?_, fun l r l1 l2 r1 r2 => ?_⟩
  · rw [← hT.2.1]
    exact cs_same fun x j x1 x2 => e x j (by omega)
  · rw [e 201 y (by decide), e 203 y (by decide)]
    exact hT.2.2.1 y y1 y2
  · rw [e 202 _ (by decide)]
    exact hT.2.2.2 l r l1 l2 r1 r2
theorem rem_c154 (hd : 5 ≤ d) (hE : E0 n K R) (hT : TI N h sp M) (hN : NR N) (hH : HIS A M) (hq : ∀ (p : Nat) (M2 : gm_M), p < 12 → (M 42 1 = (p : Int) ∧ M2 42 1 = ((p : Int) + 1) % 12) → HIS ((N :: A).take 12) M2 → TI N h sp M2 → (∀ (x : Nat) (j : Int), x < 42 ∨ 199 < x → M2 x j = M x j) → Q (.inl none) n K (gm_uR R (44 + 13 * p) 8 (R 3 8)) M2) : gm_Wp X LX d bc bs 154 0 (gm_ent 154 [gm_vr 42, gm_vr 3]) [] n K R M Q := by
  obtain ⟨nx, h0, h1, h2, h3, h4⟩ := hH
  have hp : nx.toNat < 12 := by omega
  refine hi_rem hd hE hT.1 h0 h1 h2 ⟨by omega, by omega⟩ (sz_cs hN hT.2.1) (fun M9 hc => ?_)
  have far : ∀ (x : Nat) (j : Int), x < 42 ∨ 199 < x → gm_uM (gm_uM M9 42 1 ((nx + 1) % 12)) 42 2 (min ((A.length : Int) + 1) 12) x j = M x j := fun x j hx => (uM_ne (by omega)).trans ((uM_ne (by omega)).trans (hc.1 x j (by omega)))
  have c9 : CST M9 := cst_cpy hp hT.1 hc
  have cM : CST (gm_uM (gm_uM M9 42 1 ((nx + 1) % 12)) 42 2 (min ((A.length : Int) + 1) 12)) := cst_fr (W := [((42 : Nat), some (1 : Int)), ((42 : Nat), some (2 : Int))]) c9 (fr_p (fr_p fr_0 (Or.inr (by decide))) (Or.inr (by decide))) (by decide +kernel)
  refine hq nx.toNat _ hp ⟨by omega, (uM_ne (by decide)).trans (uM_at.trans (by omega))⟩ ⟨(nx + 1) % 12, ⟨by omega, by omega⟩, (uM_ne (by decide)).trans uM_at, uM_at.trans ?_, ?_, fun i N1 hi => ?_⟩ (ti_far hT cM far) far
  · rw [List.length_take, List.length_cons]
    omega
  · rw [List.length_take, List.length_cons]
    omega
  · have el : ∀ b : Nat, 43 ≤ b → cs (gm_uM (gm_uM M9 42 1 ((nx + 1) % 12)) 42 2 (min ((A.length : Int) + 1) 12)) b = cs M9 b := fun b hb => (cs_el (Or.inl (by omega))).trans (cs_el (Or.inl (by omega)))
    rw [el _ (by omega)]
    cases i with
    | zero =>
      have e : N = N1 := by simpa using hi
      subst e
      rw [show (((nx + 1) % 12 + 11 - ((0 : Nat) : Int)) % 12).toNat = nx.toNat by omega]
      exact hc.2.2.trans hT.2.1
    | succ i =>
      rw [List.getElem?_take] at hi
      split at hi
      · rename_i hi2
        have hi : A[i]? = some N1 := by simpa using hi
        rw [show (((nx + 1) % 12 + 11 - ((i + 1 : Nat) : Int)) % 12).toNat = ((nx + 11 - (i : Int)) % 12).toNat by omega]
        rw [← h4 i N1 hi]
        have hne : ¬ ((nx + 11 - (i : Int)) % 12).toNat = nx.toNat := by omega
        exact cs_same fun x j x1 x2 => hc.1 x j (by omega)
      · cases hi
theorem tb_c55 (hd : 5 ≤ d) (hE : E0 n K R) (hT : TI N h sp M) (hH : HIS A M) (hA : ∀ N1 ∈ A, NR N1) (hq0 : A = [] → Q (.inl (some (gm_vi 0))) n K R M) (hq1 : ∀ (N0 : Int → Int) (A1 : List (Int → Int)) (p : Nat) (M2 : gm_M), A = N0 :: A1 → p < 12 → (M2 42 1 = (p : Int) ∧ M 42 1 = ((p : Int) + 1) % 12) → HIS A1 M2 → CST M2 → cs M2 3 = N0 → (∀ (x : Nat) (j : Int), x < 3 ∨ (15 < x ∧ ¬ x = 42) → M2 x j = M x j) → Q (.inl (some (gm_vi 1))) n K (gm_uR R 3 8 (R (44 + 13 * p) 8)) M2) : gm_Wp X LX d bc bs 55 0 (gm_ent 55 [gm_vr 42, gm_vr 3]) [] n K R M Q := by
  obtain ⟨nx, h0, h1, h2, h3, h4⟩ := hH
  cases A with
  | nil => exact hi_tb0 hE h2 (hq0 rfl)
  | cons N0 A1 =>
    rw [List.length_cons] at h2 h3
    have e0 := h4 0 N0 rfl
    have hz : SZ M (44 + 13 * (((nx + 12) - 1) % 12).toNat) := sz_cs (hA N0 List.mem_cons_self) (by rw [← e0]; congr 3; omega)
    refine hi_tb hd hE hT.1 h0 h1 h2 ⟨by omega, by omega⟩ (by omega) (mx_3 hT.1) hz (fun M9 hc => ?_)
    have hp : (((nx + 12) - 1) % 12).toNat < 12 := by omega
    have cM : CST (gm_uM (gm_uM M 42 1 (((nx + 12) - 1) % 12)) 42 2 (((A1.length + 1 : Nat) : Int) - 1)) := cst_fr (W := [((42 : Nat), some (1 : Int)), ((42 : Nat), some (2 : Int))]) hT.1 (fr_p (fr_p fr_0 (Or.inr (by decide))) (Or.inr (by decide))) (by decide +kernel)
    have ho : ∀ (x : Nat) (j : Int), x < 3 ∨ 15 < x → M9 x j = gm_uM (gm_uM M 42 1 (((nx + 12) - 1) % 12)) 42 2 (((A1.length + 1 : Nat) : Int) - 1) x j := fun x j hx => hc.1 x j (by omega)
    refine hq1 N0 A1 _ M9 rfl hp ⟨(ho 42 1 (by decide)).trans ((uM_ne (by decide)).trans (uM_at.trans (by omega))), h1.trans (by omega)⟩ ⟨((nx + 12) - 1) % 12, ⟨by omega, by omega⟩, (ho 42 1 (by decide)).trans ((uM_ne (by decide)).trans uM_at), (ho 42 2 (by decide)).trans (uM_at.trans (by omega)), by omega, fun i N1 hi => ?_⟩ (cst_cpy0 (List.all_eq_true.mp cst_cpf 3 (by decide)) cM hc) ?_ (fun x j hx => ?_)
    · have := h4 (i + 1) N1 (by simpa using hi)
      rw [← this]
      rw [show ((((nx + 12) - 1) % 12 + 11 - (i : Int)) % 12).toNat = ((nx + 11 - ((i + 1 : Nat) : Int)) % 12).toNat by omega]
      refine cs_same fun x j x1 x2 => (ho x j (by omega)).trans ((uM_ne (by omega)).trans (uM_ne (by omega)))
    · rw [hc.2.2, ← e0]
      rw [show ((nx + 11 - ((0 : Nat) : Int)) % 12).toNat = (((nx + 12) - 1) % 12).toNat by omega]
      exact (cs_el (Or.inl (by omega))).trans (cs_el (Or.inl (by omega)))
    · exact (ho x j (by omega)).trans ((uM_ne (by omega)).trans (uM_ne (by omega)))
theorem im_t59 (hd : 5 ≤ d) (hE : E0 n K R) (hT : TI N h sp M) (hN : NR N) (hq : ∀ M2 : gm_M, TI N h sp M2 → cs M2 29 = N → M2 1 6 = 1 → (∀ (x : Nat) (j : Int), ¬ (x = 1 ∧ j = 6) → x < 29 ∨ 41 < x → M2 x j = M x j) → Q (.inl none) n K (gm_uR R 29 8 (R 3 8)) M2) : gm_Wp X LX d bc bs 59 0 (gm_ent 59 [gm_vr 1]) [] n K R M Q := by
  refine im_c59 hd hE hT.1 (sz_cs hN hT.2.1) (fun M9 hc => ?_)
  have c9 : CST M9 := cst_cpy0 (List.all_eq_true.mp cst_cpf 29 (by decide)) hT.1 hc
  have cM : CST (gm_uM M9 1 6 1) := cst_fr (W := [((1 : Nat), some (6 : Int))]) c9 (fr_p fr_0 (Or.inr (by decide))) (by decide +kernel)
  have far : ∀ (x : Nat) (j : Int), ¬ (x = 1 ∧ j = 6) → x < 29 ∨ 41 < x → gm_uM M9 1 6 1 x j = M x j := fun x j h1 hx => (uM_ne (by omega)).trans (hc.1 x j (by omega))
  refine hq _ ⟨cM, ?_, fun y y1 y2 => ?_, fun l r l1 l2 r1 r2 => ?_⟩ ((cs_el (Or.inl (by decide))).trans (hc.2.2.trans hT.2.1)) uM_at far
  · rw [← hT.2.1]
    exact cs_same fun x j x1 x2 => far x j (by omega) (by omega)
  · rw [far 201 y (by omega) (by decide), far 203 y (by omega) (by decide)]
    exact hT.2.2.1 y y1 y2
  · rw [far 202 _ (by omega) (by decide)]
    exact hT.2.2.2 l r l1 l2 r1 r2
theorem nd_133 (hd : 6 ≤ d) (hb1 : 1 ≤ bc) (hb2 : 6 ≤ bs) (hi : gm_ir i) (hs : gm_ir sz) (k1 : 0 ≤ i ∧ i < sz → Q (.inl none) n K R M) (k0 : ¬ (0 ≤ i ∧ i < sz) → Q (.inr 3) n K R M) : gm_Wp X LX d bc bs 133 0 (gm_ent 133 [gm_vr 1, gm_vi i, gm_vi sz]) [] n K R M Q := by
  refine gm_sz (gm_p_load (pc := 0) (i := .iload_n 1) (sr := 0) (j := 1) (by decide +kernel) rfl rfl rfl) ?_
  refine fw_if (cc := .lt) (pc := 1) (off := 8) (by decide +kernel) (by decide) hi (fun h1 => ?_) (fun h1 => ?_)
  · have h1 : i < 0 := h1
    exact gm_throw (ik := 453) (is := 455) (ic := 457) (x := 3) (id := 33) (lw := true) (by decide +kernel) (by decide +kernel) (by decide +kernel) (by decide +kernel) (by decide +kernel) (by decide +kernel) (by decide +kernel) (by decide +kernel) (Nat.le_of_ble_eq_true rfl) (by omega) (by omega) (by omega) (k0 (by first | assumption | omega))
  · have h1 : ¬ i < 0 := h1
    refine gm_sz (gm_p_load (pc := 4) (i := .iload_n 1) (sr := 0) (j := 1) (by decide +kernel) rfl rfl rfl) ?_
    refine gm_sz (gm_p_load (pc := 5) (i := .iload_n 2) (sr := 0) (j := 2) (by decide +kernel) rfl rfl rfl) ?_
    refine fw_ic (cc := .lt) (pc := 6) (off := 14) (by decide +kernel) (by decide) hi hs (fun h6 => ?_) (fun h6 => ?_)
    · have h6 : i < sz := h6
      exact gm_r_void (pc := 20) (by decide +kernel) (by decide +kernel) (k1 (by first | assumption | omega))
    · have h6 : ¬ i < sz := h6
      exact gm_throw (ik := 453) (is := 455) (ic := 457) (x := 3) (id := 33) (lw := true) (by decide +kernel) (by decide +kernel) (by decide +kernel) (by decide +kernel) (by decide +kernel) (by decide +kernel) (by decide +kernel) (by decide +kernel) (Nat.le_of_ble_eq_true rfl) (by omega) (by omega) (by omega) (k0 (by first | assumption | omega))
theorem nd_132 (hd : 8 ≤ d) (hb1 : 1 ≤ bc) (hb2 : 6 ≤ bs) (hE : E0 n K R) (hT : TI N h sp M) (hN : NR N) (hi : gm_ir i) (k1 : 0 ≤ i ∧ i < N 0 → Q (.inl none) n K R M) (k0 : ¬ (0 ≤ i ∧ i < N 0) → Q (.inr 3) n K R M) : gm_Wp X LX d bc bs 132 0 (gm_ent 132 [gm_vr 1, gm_vi i]) [] n K R M Q := by
  obtain ⟨⟨⟨a0, b0⟩, ⟨a1, b1⟩, ⟨a10, b10⟩, ⟨a11, b11⟩, ⟨a12, b12⟩, a9, b9⟩, ⟨⟨a2, b2⟩, ⟨a5, b5⟩, ⟨a3, b3⟩, ⟨a4, b4⟩, ⟨a6, b6⟩, ⟨a14, b14⟩, ⟨a7, b7⟩, a13, b13⟩, rF, rP, rL⟩ := id hN
  refine gm_sz (gm_p_load (pc := 0) (i := .aload_n 0) (sr := 2) (j := 0) (by decide +kernel) rfl rfl rfl) ?_
  refine gm_sz (gm_p_load (pc := 1) (i := .iload_n 1) (sr := 0) (j := 1) (by decide +kernel) rfl rfl rfl) ?_
  refine gm_sz (gm_p_load (pc := 2) (i := .aload_n 0) (sr := 2) (j := 0) (by decide +kernel) rfl rfl rfl) ?_
  refine gm_sz (fw_gr (pc := 3) (ix := 23) (ci := 0) (j := 3) (r := 3) (by decide +kernel) (e0k hE (k := 1) (c := 0) (by decide +kernel)) (by decide +kernel) (by decide +kernel) (e0r hE (k := 1) (j := 3) (r := 3) (by decide +kernel))) ?_
  refine gm_sz (fw_gi (pc := 6) (ix := 351) (ci := 1) (j := 0) (x := N 0) (by decide +kernel) (e0k hE (k := 3) (c := 1) (by decide +kernel)) (by decide +kernel) (by decide +kernel) (ti_lan hT)) ?_
  refine gm_c_virt (k := 1) (ci := 0) (mj := 133) (ix := 306) (pc := 9) (as := [gm_vi i, gm_vi (N 0)]) (st := []) (d' := d - 1) (bc' := 1) (bs' := 6) (by decide +kernel) (by decide +kernel) (by decide +kernel) (by decide +kernel) (e0k hE (k := 1) (c := 0) (by decide +kernel)).1 (e0k hE (k := 1) (c := 0) (by decide +kernel)).2 (by decide) (by decide +kernel) (show 2 = gm_na 133 by decide +kernel) (fw_c2 fw_si fw_si) (show 3 ≤ gm_ml 133 by decide +kernel) (Nat.le_of_ble_eq_true rfl) (by omega) (by omega) (by omega) ?_
  refine nd_133 (i := i) (sz := (N 0)) (by omega) (by decide) (by decide) hi ⟨by omega, by omega⟩ (fun c9 => ?_) (fun c9 => ?_)
  · show gm_Wp X LX d _ _ 132 12 _ [] n K _ _ Q
    exact gm_r_void (pc := 12) (by decide +kernel) (by decide +kernel) (k1 (by first | assumption | omega))
  · show Q (.inr 3) n K _ _
    exact (k0 (by first | assumption | omega))
theorem nd_139 (hd : 8 ≤ d) (hb1 : 1 ≤ bc) (hb2 : 6 ≤ bs) (hE : E0 n K R) (hT : TI N h sp M) (hN : NR N) (hi : gm_ir i) (k1 : 0 ≤ i ∧ i < N 3 → Q (.inl none) n K R M) (k0 : ¬ (0 ≤ i ∧ i < N 3) → Q (.inr 3) n K R M) : gm_Wp X LX d bc bs 139 0 (gm_ent 139 [gm_vr 1, gm_vi i]) [] n K R M Q := by
  obtain ⟨⟨⟨a0, b0⟩, ⟨a1, b1⟩, ⟨a10, b10⟩, ⟨a11, b11⟩, ⟨a12, b12⟩, a9, b9⟩, ⟨⟨a2, b2⟩, ⟨a5, b5⟩, ⟨a3, b3⟩, ⟨a4, b4⟩, ⟨a6, b6⟩, ⟨a14, b14⟩, ⟨a7, b7⟩, a13, b13⟩, rF, rP, rL⟩ := id hN
  refine gm_sz (gm_p_load (pc := 0) (i := .aload_n 0) (sr := 2) (j := 0) (by decide +kernel) rfl rfl rfl) ?_
  refine gm_sz (gm_p_load (pc := 1) (i := .iload_n 1) (sr := 0) (j := 1) (by decide +kernel) rfl rfl rfl) ?_
  refine gm_sz (gm_p_load (pc := 2) (i := .aload_n 0) (sr := 2) (j := 0) (by decide +kernel) rfl rfl rfl) ?_
  refine gm_sz (fw_gr (pc := 3) (ix := 23) (ci := 0) (j := 3) (r := 3) (by decide +kernel) (e0k hE (k := 1) (c := 0) (by decide +kernel)) (by decide +kernel) (by decide +kernel) (e0r hE (k := 1) (j := 3) (r := 3) (by decide +kernel))) ?_
  refine gm_sz (fw_gr (pc := 6) (ix := 183) (ci := 1) (j := 11) (r := 8) (by decide +kernel) (e0k hE (k := 3) (c := 1) (by decide +kernel)) (by decide +kernel) (by decide +kernel) (e0r hE (k := 3) (j := 11) (r := 8) (by decide +kernel))) ?_
  refine gm_c_virt (k := 8) (ci := 2) (mj := 9) (ix := 277) (pc := 9) (as := []) (st := [gm_vi i, gm_vr 1]) (d' := d - 1) (bc' := 0) (bs' := 0) (by decide +kernel) (by decide +kernel) (by decide +kernel) (by decide +kernel) (e0k hE (k := 8) (c := 2) (by decide +kernel)).1 (e0k hE (k := 8) (c := 2) (by decide +kernel)).2 (by decide) (by decide +kernel) (show 0 = gm_na 9 by decide +kernel) fw_c0 (show 1 ≤ gm_ml 9 by decide +kernel) (Nat.le_of_ble_eq_true rfl) (by omega) (Nat.zero_le _) (Nat.zero_le _) ?_
  refine rw_size (s := N 3) (e0k hE (k := 8) (c := 2) (by decide +kernel)) (ti_peo hT) ?_
  show gm_Wp X LX d _ _ 139 12 _ [gm_vi (N 3), gm_vi i, gm_vr 1] n K _ _ Q
  refine gm_c_virt (k := 1) (ci := 0) (mj := 133) (ix := 306) (pc := 12) (as := [gm_vi i, gm_vi (N 3)]) (st := []) (d' := d - 1) (bc' := 1) (bs' := 6) (by decide +kernel) (by decide +kernel) (by decide +kernel) (by decide +kernel) (e0k hE (k := 1) (c := 0) (by decide +kernel)).1 (e0k hE (k := 1) (c := 0) (by decide +kernel)).2 (by decide) (by decide +kernel) (show 2 = gm_na 133 by decide +kernel) (fw_c2 fw_si fw_si) (show 3 ≤ gm_ml 133 by decide +kernel) (Nat.le_of_ble_eq_true rfl) (by omega) (by omega) (by omega) ?_
  refine nd_133 (i := i) (sz := (N 3)) (by omega) (by decide) (by decide) hi ⟨by omega, by omega⟩ (fun c12 => ?_) (fun c12 => ?_)
  · show gm_Wp X LX d _ _ 139 15 _ [] n K _ _ Q
    exact gm_r_void (pc := 15) (by decide +kernel) (by decide +kernel) (k1 (by first | assumption | omega))
  · show Q (.inr 3) n K _ _
    exact (k0 (by first | assumption | omega))
theorem nd_143 (hd : 8 ≤ d) (hb1 : 1 ≤ bc) (hb2 : 6 ≤ bs) (hE : E0 n K R) (hT : TI N h sp M) (hN : NR N) (hi : gm_ir i) (k1 : 0 ≤ i ∧ i < N 4 → Q (.inl none) n K R M) (k0 : ¬ (0 ≤ i ∧ i < N 4) → Q (.inr 3) n K R M) : gm_Wp X LX d bc bs 143 0 (gm_ent 143 [gm_vr 1, gm_vi i]) [] n K R M Q := by
  obtain ⟨⟨⟨a0, b0⟩, ⟨a1, b1⟩, ⟨a10, b10⟩, ⟨a11, b11⟩, ⟨a12, b12⟩, a9, b9⟩, ⟨⟨a2, b2⟩, ⟨a5, b5⟩, ⟨a3, b3⟩, ⟨a4, b4⟩, ⟨a6, b6⟩, ⟨a14, b14⟩, ⟨a7, b7⟩, a13, b13⟩, rF, rP, rL⟩ := id hN
  refine gm_sz (gm_p_load (pc := 0) (i := .aload_n 0) (sr := 2) (j := 0) (by decide +kernel) rfl rfl rfl) ?_
  refine gm_sz (gm_p_load (pc := 1) (i := .iload_n 1) (sr := 0) (j := 1) (by decide +kernel) rfl rfl rfl) ?_
  refine gm_sz (gm_p_load (pc := 2) (i := .aload_n 0) (sr := 2) (j := 0) (by decide +kernel) rfl rfl rfl) ?_
  refine gm_sz (fw_gr (pc := 3) (ix := 23) (ci := 0) (j := 3) (r := 3) (by decide +kernel) (e0k hE (k := 1) (c := 0) (by decide +kernel)) (by decide +kernel) (by decide +kernel) (e0r hE (k := 1) (j := 3) (r := 3) (by decide +kernel))) ?_
  refine gm_sz (fw_gr (pc := 6) (ix := 203) (ci := 1) (j := 12) (r := 10) (by decide +kernel) (e0k hE (k := 3) (c := 1) (by decide +kernel)) (by decide +kernel) (by decide +kernel) (e0r hE (k := 3) (j := 12) (r := 10) (by decide +kernel))) ?_
  refine gm_c_virt (k := 10) (ci := 2) (mj := 9) (ix := 277) (pc := 9) (as := []) (st := [gm_vi i, gm_vr 1]) (d' := d - 1) (bc' := 0) (bs' := 0) (by decide +kernel) (by decide +kernel) (by decide +kernel) (by decide +kernel) (e0k hE (k := 10) (c := 2) (by decide +kernel)).1 (e0k hE (k := 10) (c := 2) (by decide +kernel)).2 (by decide) (by decide +kernel) (show 0 = gm_na 9 by decide +kernel) fw_c0 (show 1 ≤ gm_ml 9 by decide +kernel) (Nat.le_of_ble_eq_true rfl) (by omega) (Nat.zero_le _) (Nat.zero_le _) ?_
  refine rw_size (s := N 4) (e0k hE (k := 10) (c := 2) (by decide +kernel)) (ti_let hT) ?_
  show gm_Wp X LX d _ _ 143 12 _ [gm_vi (N 4), gm_vi i, gm_vr 1] n K _ _ Q
  refine gm_c_virt (k := 1) (ci := 0) (mj := 133) (ix := 306) (pc := 12) (as := [gm_vi i, gm_vi (N 4)]) (st := []) (d' := d - 1) (bc' := 1) (bs' := 6) (by decide +kernel) (by decide +kernel) (by decide +kernel) (by decide +kernel) (e0k hE (k := 1) (c := 0) (by decide +kernel)).1 (e0k hE (k := 1) (c := 0) (by decide +kernel)).2 (by decide) (by decide +kernel) (show 2 = gm_na 133 by decide +kernel) (fw_c2 fw_si fw_si) (show 3 ≤ gm_ml 133 by decide +kernel) (Nat.le_of_ble_eq_true rfl) (by omega) (by omega) (by omega) ?_
  refine nd_133 (i := i) (sz := (N 4)) (by omega) (by decide) (by decide) hi ⟨by omega, by omega⟩ (fun c12 => ?_) (fun c12 => ?_)
  · show gm_Wp X LX d _ _ 143 15 _ [] n K _ _ Q
    exact gm_r_void (pc := 15) (by decide +kernel) (by decide +kernel) (k1 (by first | assumption | omega))
  · show Q (.inr 3) n K _ _
    exact (k0 (by first | assumption | omega))
theorem nd_129 (hd : 8 ≤ d) (hb1 : 1 ≤ bc) (hb2 : 6 ≤ bs) (hi : gm_ir i) (k1 : 0 ≤ i ∧ i ≤ 299 → Q (.inl none) n K R M) (k0 : ¬ (0 ≤ i ∧ i ≤ 299) → Q (.inr 0) n K R M) : gm_Wp X LX d bc bs 129 0 (gm_ent 129 [gm_vr 1, gm_vi i]) [] n K R M Q := by
  refine gm_sz (gm_p_load (pc := 0) (i := .iload_n 1) (sr := 0) (j := 1) (by decide +kernel) rfl rfl rfl) ?_
  refine fw_if (cc := .lt) (pc := 1) (off := 10) (by decide +kernel) (by decide) hi (fun h1 => ?_) (fun h1 => ?_)
  · have h1 : i < 0 := h1
    exact gm_throw (ik := 121) (is := 458) (ic := 125) (x := 0) (id := 32) (lw := true) (by decide +kernel) (by decide +kernel) (by decide +kernel) (by decide +kernel) (by decide +kernel) (by decide +kernel) (by decide +kernel) (by decide +kernel) (Nat.le_of_ble_eq_true rfl) (by omega) (by omega) (by omega) (k0 (by first | assumption | omega))
  · have h1 : ¬ i < 0 := h1
    refine gm_sz (gm_p_load (pc := 4) (i := .iload_n 1) (sr := 0) (j := 1) (by decide +kernel) rfl rfl rfl) ?_
    refine gm_sz (gm_p_const (pc := 5) (i := .sipush 299) (v := gm_vi 299) (by decide +kernel) (by decide +kernel)) ?_
    refine fw_ic (cc := .le) (pc := 8) (off := 14) (by decide +kernel) (by decide) hi ⟨by decide, by decide⟩ (fun h8 => ?_) (fun h8 => ?_)
    · have h8 : i ≤ 299 := h8
      exact gm_r_void (pc := 22) (by decide +kernel) (by decide +kernel) (k1 (by first | assumption | omega))
    · have h8 : ¬ i ≤ 299 := h8
      exact gm_throw (ik := 121) (is := 458) (ic := 125) (x := 0) (id := 32) (lw := true) (by decide +kernel) (by decide +kernel) (by decide +kernel) (by decide +kernel) (by decide +kernel) (by decide +kernel) (by decide +kernel) (by decide +kernel) (Nat.le_of_ble_eq_true rfl) (by omega) (by omega) (by omega) (k0 (by first | assumption | omega))
theorem nd_153 (hd : 8 ≤ d) (hb1 : 1 ≤ bc) (hb2 : 6 ≤ bs) (hi : gm_ir x) (hy2 : gm_ir y) (k1 : ¬ x = y → Q (.inl none) n K R M) (k0 : ¬ (¬ x = y) → Q (.inr 0) n K R M) : gm_Wp X LX d bc bs 153 0 (gm_ent 153 [gm_vr 1, gm_vi x, gm_vi y]) [] n K R M Q := by
  refine gm_sz (gm_p_load (pc := 0) (i := .iload_n 1) (sr := 0) (j := 1) (by decide +kernel) rfl rfl rfl) ?_
  refine gm_sz (gm_p_load (pc := 1) (i := .iload_n 2) (sr := 0) (j := 2) (by decide +kernel) rfl rfl rfl) ?_
  refine fw_ic (cc := .ne) (pc := 2) (off := 14) (by decide +kernel) (by decide) hi hy2 (fun h2 => ?_) (fun h2 => ?_)
  · have h2 : ¬ x = y := h2
    exact gm_r_void (pc := 16) (by decide +kernel) (by decide +kernel) (k1 (by first | assumption | omega))
  · have h2 : x = y := Classical.not_not.mp h2
    exact gm_throw (ik := 121) (is := 462) (ic := 125) (x := 0) (id := 36) (lw := true) (by decide +kernel) (by decide +kernel) (by decide +kernel) (by decide +kernel) (by decide +kernel) (by decide +kernel) (by decide +kernel) (by decide +kernel) (Nat.le_of_ble_eq_true rfl) (by omega) (by omega) (by omega) (k0 (by first | assumption | omega))
end HS12
end
/-! 7a23.c13ac -/
section
/-! THE CLASS'S ACTS (laid by wip/core/c13.py). -/
theorem ks8_e : (List.range 12).all (fun p => (p2_O.2.1 (44 + 13 * p) 8).isNone) = true := by decide +kernel
theorem e0h {n : Nat} {K : gm_K} {R : gm_R} (hE : E0 n K R) {p v : Nat} (hp : p < 12) : E0 n K (gm_uR R (44 + 13 * p) 8 v) := e0u hE (Option.isNone_iff_eq_none.mp (List.all_eq_true.mp ks8_e p (List.mem_range.mpr hp)))
theorem e0h3 {n : Nat} {K : gm_K} {R : gm_R} (hE : E0 n K R) {v : Nat} : E0 n K (gm_uR R 3 8 v) := e0u hE (by decide +kernel)
theorem his_w {A : List (Int → Int)} {M M2 : gm_M} {W : List (Nat × Option Int)} (h : HIS A M) (hf : fr W M M2) (hw : W.all (fun w => !(decide (42 ≤ w.1) && decide (w.1 ≤ 199))) = true) : HIS A M2 := his_fr h fun x j x1 x2 => hf x j (fun hm => by have := List.all_eq_true.mp hw _ hm; simp at this; omega) (fun hm => by have := List.all_eq_true.mp hw _ hm; simp at this; omega)
theorem cs_th_fr {M : gm_M} {f t l r : Int} : fr [((10 : Nat), some (3 : Int)), ((11 : Nat), none)] M (cs_th3 M f t l r) := by
  unfold cs_th3
  exact fr_p (fr_p (fr_p (fr_p (fr_p (fr_p (fr_p (fr_p fr_0 (Or.inr (by decide))) (Or.inl (by decide))) (Or.inl (by decide))) (Or.inl (by decide))) (Or.inl (by decide))) (Or.inl (by decide))) (Or.inl (by decide))) (Or.inl (by decide))
section AC13
variable {X : Int → Int} {LX d bc bs n : Nat} {K : gm_K} {R : gm_R} {M : gm_M} {Q : gm_Q} {l p f t v w : Int} {N h : Int → Int} {sp : Int → Int → Int} {FI : gm_M → Prop} {φ : Int → Int → Int → Int} {Ψ : (Int → Int) → Int → Int → Int → Int → Prop} {o dd : Int → Int} {A : List (Int → Int)}
theorem ac_152 (hd : 12 ≤ d) (hbc : 4 ≤ bc) (hbs : 24 ≤ bs) (hE : E0 n K R) (hT : TI N h sp M) (hN : NR N) (hH : HIS A M) (hf : gm_ir f) (ht : gm_ir t) (q3 : ¬ ((0 ≤ f ∧ f < N 3) ∧ (0 ≤ t ∧ t < N 3)) → Q (.inr 3) n K R M) (q0 : 0 ≤ f ∧ f < N 3 → 0 ≤ t ∧ t < N 3 → f = t → Q (.inr 0) n K R M) (q1 : 0 ≤ f ∧ f < N 3 → 0 ≤ t ∧ t < N 3 → ¬ f = t → N 4 = 24 → Q (.inr 1) n K R M) (hq : 0 ≤ f ∧ f < N 3 → 0 ≤ t ∧ t < N 3 → ¬ f = t → N 4 < 24 → ∀ (p : Nat) (M2 : gm_M), p < 12 → (M 42 1 = (p : Int) ∧ M2 42 1 = ((p : Int) + 1) % 12) → HIS ((N :: A).take 12) M2 → CST M2 → cs M2 3 = nthr N f t ((N (95 + (f * 3 + 0)))) ((N (95 + (f * 3 + 1)))) → M2 1 15 = 0 → (∀ (x : Nat) (j : Int), x < 42 ∨ 199 < x → ¬ x = 10 → ¬ x = 11 → ¬ (x = 1 ∧ j = 15) → M2 x j = M x j) → Q (.inl (some (gm_vi (N 4)))) n K (gm_uR R (44 + 13 * p) 8 (R 3 8)) M2) : gm_Wp X LX d bc bs 152 0 (gm_ent 152 [gm_vr 1, gm_vi f, gm_vi t]) [] n K R M Q := by
  obtain ⟨⟨⟨a0, b0⟩, ⟨a1, b1⟩, ⟨a10, b10⟩, ⟨a11, b11⟩, ⟨a12, b12⟩, a9, b9⟩, ⟨⟨a2, b2⟩, ⟨a5, b5⟩, ⟨a3, b3⟩, ⟨a4, b4⟩, ⟨a6, b6⟩, ⟨a14, b14⟩, ⟨a7, b7⟩, a13, b13⟩, rF, rP, rL⟩ := id hN
  refine gm_sz (gm_p_load (pc := 0) (i := .aload_n 0) (sr := 2) (j := 0) (by decide +kernel) rfl rfl rfl) ?_
  refine gm_sz (gm_p_load (pc := 1) (i := .iload_n 1) (sr := 0) (j := 1) (by decide +kernel) rfl rfl rfl) ?_
  refine gm_c_virt (k := 1) (ci := 0) (mj := 139) (ix := 180) (pc := 2) (as := [gm_vi f]) (st := []) (d' := d - 1) (bc' := 1) (bs' := 6) (by decide +kernel) (by decide +kernel) (by decide +kernel) (by decide +kernel) (e0k hE (k := 1) (c := 0) (by decide +kernel)).1 (e0k hE (k := 1) (c := 0) (by decide +kernel)).2 (by decide) (by decide +kernel) (show 1 = gm_na 139 by decide +kernel) (fw_c1 fw_si) (show 2 ≤ gm_ml 139 by decide +kernel) (Nat.le_of_ble_eq_true rfl) (by omega) (by omega) (by omega) ?_
  refine nd_139 (i := f) (by omega) (by omega) (by omega) hE hT hN hf (fun c2 => ?_) (fun c2 => ?_)
  · show gm_Wp X LX d _ _ 152 5 _ [] n K _ _ Q
    have c2 : 0 ≤ f ∧ f < N 3 := c2
    refine gm_sz (gm_p_load (pc := 5) (i := .aload_n 0) (sr := 2) (j := 0) (by decide +kernel) rfl rfl rfl) ?_
    refine gm_sz (gm_p_load (pc := 6) (i := .iload_n 2) (sr := 0) (j := 2) (by decide +kernel) rfl rfl rfl) ?_
    refine gm_c_virt (k := 1) (ci := 0) (mj := 139) (ix := 180) (pc := 7) (as := [gm_vi t]) (st := []) (d' := d - 1) (bc' := 1) (bs' := 6) (by decide +kernel) (by decide +kernel) (by decide +kernel) (by decide +kernel) (e0k hE (k := 1) (c := 0) (by decide +kernel)).1 (e0k hE (k := 1) (c := 0) (by decide +kernel)).2 (by decide) (by decide +kernel) (show 1 = gm_na 139 by decide +kernel) (fw_c1 fw_si) (show 2 ≤ gm_ml 139 by decide +kernel) (Nat.le_of_ble_eq_true rfl) (by omega) (by omega) (by omega) ?_
    refine nd_139 (i := t) (by omega) (by omega) (by omega) hE hT hN ht (fun c7 => ?_) (fun c7 => ?_)
    · show gm_Wp X LX d _ _ 152 10 _ [] n K _ _ Q
      have c7 : 0 ≤ t ∧ t < N 3 := c7
      refine gm_sz (gm_p_load (pc := 10) (i := .aload_n 0) (sr := 2) (j := 0) (by decide +kernel) rfl rfl rfl) ?_
      refine gm_sz (gm_p_load (pc := 11) (i := .iload_n 1) (sr := 0) (j := 1) (by decide +kernel) rfl rfl rfl) ?_
      refine gm_sz (gm_p_load (pc := 12) (i := .iload_n 2) (sr := 0) (j := 2) (by decide +kernel) rfl rfl rfl) ?_
      refine gm_c_virt (k := 1) (ci := 0) (mj := 153) (ix := 234) (pc := 13) (as := [gm_vi f, gm_vi t]) (st := []) (d' := d - 1) (bc' := 1) (bs' := 6) (by decide +kernel) (by decide +kernel) (by decide +kernel) (by decide +kernel) (e0k hE (k := 1) (c := 0) (by decide +kernel)).1 (e0k hE (k := 1) (c := 0) (by decide +kernel)).2 (by decide) (by decide +kernel) (show 2 = gm_na 153 by decide +kernel) (fw_c2 fw_si fw_si) (show 3 ≤ gm_ml 153 by decide +kernel) (Nat.le_of_ble_eq_true rfl) (by omega) (by omega) (by omega) ?_
      refine nd_153 (x := f) (y := t) (by omega) (by omega) (by omega) hf ht (fun c13 => ?_) (fun c13 => ?_)
      · show gm_Wp X LX d _ _ 152 16 _ [] n K _ _ Q
        have c13 : ¬ f = t := c13
        refine gm_sz (gm_p_load (pc := 16) (i := .aload_n 0) (sr := 2) (j := 0) (by decide +kernel) rfl rfl rfl) ?_
        refine gm_sz (fw_gr (pc := 17) (ix := 23) (ci := 0) (j := 3) (r := 3) (by decide +kernel) (e0k hE (k := 1) (c := 0) (by decide +kernel)) (by decide +kernel) (by decide +kernel) (e0r hE (k := 1) (j := 3) (r := 3) (by decide +kernel))) ?_
        refine gm_sz (fw_gr (pc := 20) (ix := 203) (ci := 1) (j := 12) (r := 10) (by decide +kernel) (e0k hE (k := 3) (c := 1) (by decide +kernel)) (by decide +kernel) (by decide +kernel) (e0r hE (k := 3) (j := 12) (r := 10) (by decide +kernel))) ?_
        refine gm_c_virt (k := 10) (ci := 2) (mj := 108) (ix := 237) (pc := 23) (as := []) (st := []) (d' := d - 1) (bc' := 0) (bs' := 0) (by decide +kernel) (by decide +kernel) (by decide +kernel) (by decide +kernel) (e0k hE (k := 10) (c := 2) (by decide +kernel)).1 (e0k hE (k := 10) (c := 2) (by decide +kernel)).2 (by decide) (by decide +kernel) (show 0 = gm_na 108 by decide +kernel) fw_c0 (show 1 ≤ gm_ml 108 by decide +kernel) (Nat.le_of_ble_eq_true rfl) (by omega) (Nat.zero_le _) (Nat.zero_le _) ?_
        refine rw_full (s := N 4) (m := 24) (e0k hE (k := 10) (c := 2) (by decide +kernel)) (ti_let hT) (hT.1 (10, 0, 24) (by decide)) ⟨⟨by omega, by omega⟩, ⟨by decide, by decide⟩⟩ (fun f23 => ?_) (fun f23 => ?_)
        · show gm_Wp X LX d _ _ 152 26 _ [gm_vi 1] n K _ _ Q
          have f23 : 24 ≤ N 4 := f23
          refine fw_iffd (cc := .eq) (pc := 26) (off := 13) (by decide +kernel) (by decide) ⟨by decide, by decide⟩ (by decide) ?_
          exact gm_throw (ik := 131) (is := 241) (ic := 135) (x := 1) (id := 37) (lw := false) (by decide +kernel) (by decide +kernel) (by decide +kernel) (by decide +kernel) (by decide +kernel) (by decide +kernel) (by decide +kernel) (by decide +kernel) (Nat.le_of_ble_eq_true rfl) (by omega) (by omega) (by omega) (q1 (by omega) (by omega) (by omega) (by omega))
        · show gm_Wp X LX d _ _ 152 26 _ [gm_vi 0] n K _ _ Q
          have f23 : N 4 < 24 := f23
          refine fw_iftd (cc := .eq) (pc := 26) (off := 13) (by decide +kernel) (by decide) ⟨by decide, by decide⟩ (by decide) ?_
          refine gm_sz (gm_p_load (pc := 39) (i := .aload_n 0) (sr := 2) (j := 0) (by decide +kernel) rfl rfl rfl) ?_
          refine gm_sz (fw_gr (pc := 40) (ix := 40) (ci := 0) (j := 7) (r := 42) (by decide +kernel) (e0k hE (k := 1) (c := 0) (by decide +kernel)) (by decide +kernel) (by decide +kernel) (e0r hE (k := 1) (j := 7) (r := 42) (by decide +kernel))) ?_
          refine gm_sz (gm_p_load (pc := 43) (i := .aload_n 0) (sr := 2) (j := 0) (by decide +kernel) rfl rfl rfl) ?_
          refine gm_sz (fw_gr (pc := 44) (ix := 23) (ci := 0) (j := 3) (r := 3) (by decide +kernel) (e0k hE (k := 1) (c := 0) (by decide +kernel)) (by decide +kernel) (by decide +kernel) (e0r hE (k := 1) (j := 3) (r := 3) (by decide +kernel))) ?_
          refine gm_c_virt (k := 42) (ci := 3) (mj := 154) (ix := 243) (pc := 47) (as := [gm_vr 3]) (st := []) (d' := d - 1) (bc' := 0) (bs' := 0) (by decide +kernel) (by decide +kernel) (by decide +kernel) (by decide +kernel) (e0k hE (k := 42) (c := 3) (by decide +kernel)).1 (e0k hE (k := 42) (c := 3) (by decide +kernel)).2 (by decide) (by decide +kernel) (show 1 = gm_na 154 by decide +kernel) (fw_c1 fw_sr) (show 2 ≤ gm_ml 154 by decide +kernel) (Nat.le_of_ble_eq_true rfl) (by omega) (Nat.zero_le _) (Nat.zero_le _) ?_
          refine rem_c154 (by omega) hE hT hN hH (fun p47 M47 hp47 hk47 hs47 ht47 hx47 => ?_)
          show gm_Wp X LX d _ _ 152 50 _ [] n K _ _ Q
          refine gm_sz (gm_p_load (pc := 50) (i := .aload_n 0) (sr := 2) (j := 0) (by decide +kernel) rfl rfl rfl) ?_
          refine gm_sz (gm_p_const (pc := 51) (i := .iconst 0) (v := gm_vi 0) (by decide +kernel) (by decide +kernel)) ?_
          refine gm_sz (fw_pz (pc := 52) (ix := 101) (ci := 0) (j := 15) (M' := gm_uM M47 1 15 0) (by decide +kernel) (e0k hE (k := 1) (c := 0) (by decide +kernel)) (by decide +kernel) (by decide +kernel) (by decide +kernel) (Or.inl rfl) rfl) ?_
          refine gm_sz (gm_p_load (pc := 55) (i := .aload_n 0) (sr := 2) (j := 0) (by decide +kernel) rfl rfl rfl) ?_
          refine gm_sz (fw_gr (pc := 56) (ix := 23) (ci := 0) (j := 3) (r := 3) (by decide +kernel) (e0k hE (k := 1) (c := 0) (by decide +kernel)) (by decide +kernel) (by decide +kernel) (e0r (e0h hE (v := R 3 8) hp47) (k := 1) (j := 3) (r := 3) (by decide +kernel))) ?_
          refine gm_sz (gm_p_load (pc := 59) (i := .iload_n 1) (sr := 0) (j := 1) (by decide +kernel) rfl rfl rfl) ?_
          refine gm_sz (gm_p_load (pc := 60) (i := .iload_n 2) (sr := 0) (j := 2) (by decide +kernel) rfl rfl rfl) ?_
          refine gm_sz (gm_p_load (pc := 61) (i := .aload_n 0) (sr := 2) (j := 0) (by decide +kernel) rfl rfl rfl) ?_
          refine gm_sz (fw_gr (pc := 62) (ix := 23) (ci := 0) (j := 3) (r := 3) (by decide +kernel) (e0k hE (k := 1) (c := 0) (by decide +kernel)) (by decide +kernel) (by decide +kernel) (e0r (e0h hE (v := R 3 8) hp47) (k := 1) (j := 3) (r := 3) (by decide +kernel))) ?_
          refine gm_sz (fw_gr (pc := 65) (ix := 183) (ci := 1) (j := 11) (r := 8) (by decide +kernel) (e0k hE (k := 3) (c := 1) (by decide +kernel)) (by decide +kernel) (by decide +kernel) (e0r (e0h hE (v := R 3 8) hp47) (k := 3) (j := 11) (r := 8) (by decide +kernel))) ?_
          refine gm_sz (gm_p_load (pc := 68) (i := .iload_n 1) (sr := 0) (j := 1) (by decide +kernel) rfl rfl rfl) ?_
          refine gm_sz (gm_p_const (pc := 69) (i := .iconst 0) (v := gm_vi 0) (by decide +kernel) (by decide +kernel)) ?_
          refine gm_c_virt (k := 8) (ci := 2) (mj := 10) (ix := 186) (pc := 70) (as := [gm_vi f, gm_vi 0]) (st := [gm_vi t, gm_vi f, gm_vr 3]) (d' := d - 1) (bc' := 0) (bs' := 0) (by decide +kernel) (by decide +kernel) (by decide +kernel) (by decide +kernel) (e0k hE (k := 8) (c := 2) (by decide +kernel)).1 (e0k hE (k := 8) (c := 2) (by decide +kernel)).2 (by decide) (by decide +kernel) (show 2 = gm_na 10 by decide +kernel) (fw_c2 fw_si fw_si) (show 3 ≤ gm_ml 10 by decide +kernel) (Nat.le_of_ble_eq_true rfl) (by omega) (Nat.zero_le _) (Nat.zero_le _) ?_
          refine rw_get (s := N 3) (w := 3) (x := N (95 + (f * 3 + 0))) (e0k (e0h hE (v := R 3 8) hp47) (k := 8) (c := 2) (by decide +kernel)) (e0a (e0h hE (v := R 3 8) hp47) (k := 9) (q := ((0 : Nat), (24 : Nat))) (by decide +kernel)) (e0r (e0h hE (v := R 3 8) hp47) (k := 8) (j := 2) (r := 9) (by decide +kernel)) (by decide) ((uM_ne (by omega)).trans ((hx47 _ _ (by omega)).trans (ti_peo hT))) ((uM_ne (by omega)).trans ((hx47 _ _ (by omega)).trans (hT.1 (8, 1, 3) (by decide)))) ⟨by omega, by omega⟩ ⟨by omega, by omega⟩ ⟨by omega, by omega⟩ ⟨by omega, by omega⟩ ((uM_ne (by omega)).trans ((hx47 _ _ (by omega)).trans (ti_aP hT (by omega) (by omega)))) ?_
          show gm_Wp X LX d _ _ 152 73 _ [gm_vi (N (95 + (f * 3 + 0))), gm_vi t, gm_vi f, gm_vr 3] n K _ _ Q
          refine gm_sz (gm_p_load (pc := 73) (i := .aload_n 0) (sr := 2) (j := 0) (by decide +kernel) rfl rfl rfl) ?_
          refine gm_sz (fw_gr (pc := 74) (ix := 23) (ci := 0) (j := 3) (r := 3) (by decide +kernel) (e0k hE (k := 1) (c := 0) (by decide +kernel)) (by decide +kernel) (by decide +kernel) (e0r (e0h hE (v := R 3 8) hp47) (k := 1) (j := 3) (r := 3) (by decide +kernel))) ?_
          refine gm_sz (fw_gr (pc := 77) (ix := 183) (ci := 1) (j := 11) (r := 8) (by decide +kernel) (e0k hE (k := 3) (c := 1) (by decide +kernel)) (by decide +kernel) (by decide +kernel) (e0r (e0h hE (v := R 3 8) hp47) (k := 3) (j := 11) (r := 8) (by decide +kernel))) ?_
          refine gm_sz (gm_p_load (pc := 80) (i := .iload_n 1) (sr := 0) (j := 1) (by decide +kernel) rfl rfl rfl) ?_
          refine gm_sz (gm_p_const (pc := 81) (i := .iconst 1) (v := gm_vi 1) (by decide +kernel) (by decide +kernel)) ?_
          refine gm_c_virt (k := 8) (ci := 2) (mj := 10) (ix := 186) (pc := 82) (as := [gm_vi f, gm_vi 1]) (st := [gm_vi (N (95 + (f * 3 + 0))), gm_vi t, gm_vi f, gm_vr 3]) (d' := d - 1) (bc' := 0) (bs' := 0) (by decide +kernel) (by decide +kernel) (by decide +kernel) (by decide +kernel) (e0k hE (k := 8) (c := 2) (by decide +kernel)).1 (e0k hE (k := 8) (c := 2) (by decide +kernel)).2 (by decide) (by decide +kernel) (show 2 = gm_na 10 by decide +kernel) (fw_c2 fw_si fw_si) (show 3 ≤ gm_ml 10 by decide +kernel) (Nat.le_of_ble_eq_true rfl) (by omega) (Nat.zero_le _) (Nat.zero_le _) ?_
          refine rw_get (s := N 3) (w := 3) (x := N (95 + (f * 3 + 1))) (e0k (e0h hE (v := R 3 8) hp47) (k := 8) (c := 2) (by decide +kernel)) (e0a (e0h hE (v := R 3 8) hp47) (k := 9) (q := ((0 : Nat), (24 : Nat))) (by decide +kernel)) (e0r (e0h hE (v := R 3 8) hp47) (k := 8) (j := 2) (r := 9) (by decide +kernel)) (by decide) ((uM_ne (by omega)).trans ((hx47 _ _ (by omega)).trans (ti_peo hT))) ((uM_ne (by omega)).trans ((hx47 _ _ (by omega)).trans (hT.1 (8, 1, 3) (by decide)))) ⟨by omega, by omega⟩ ⟨by omega, by omega⟩ ⟨by omega, by omega⟩ ⟨by omega, by omega⟩ ((uM_ne (by omega)).trans ((hx47 _ _ (by omega)).trans (ti_aP hT (by omega) (by omega)))) ?_
          show gm_Wp X LX d _ _ 152 85 _ [gm_vi (N (95 + (f * 3 + 1))), gm_vi (N (95 + (f * 3 + 0))), gm_vi t, gm_vi f, gm_vr 3] n K _ _ Q
          refine gm_c_virt (k := 3) (ci := 1) (mj := 119) (ix := 246) (pc := 85) (as := [gm_vi f, gm_vi t, gm_vi (N (95 + (f * 3 + 0))), gm_vi (N (95 + (f * 3 + 1)))]) (st := []) (d' := d - 1) (bc' := 0) (bs' := 0) (by decide +kernel) (by decide +kernel) (by decide +kernel) (by decide +kernel) (e0k hE (k := 3) (c := 1) (by decide +kernel)).1 (e0k hE (k := 3) (c := 1) (by decide +kernel)).2 (by decide) (by decide +kernel) (show 4 = gm_na 119 by decide +kernel) (fw_c4 fw_si fw_si fw_si fw_si) (show 5 ≤ gm_ml 119 by decide +kernel) (Nat.le_of_ble_eq_true rfl) (by omega) (Nat.zero_le _) (Nat.zero_le _) ?_
          refine cs_thr3 (by omega) (e0h hE (v := R 3 8) hp47) (cst_fr (W := [((1 : Nat), some (15 : Int))]) ht47.1 (fr_p fr_0 (Or.inr (by decide))) (by decide +kernel)) (by rw [ti_let (ti_fr (W := [((1 : Nat), some (15 : Int))]) ht47 (fr_p fr_0 (Or.inr (by decide))) (by decide) (by decide +kernel))]; omega) ?_
          show gm_Wp X LX d _ _ 152 88 _ [gm_vi ((gm_uM M47 1 15 0) 10 3)] n K _ _ Q
          rw [show (gm_uM M47 1 15 0) 10 3 = N 4 from ti_let (ti_fr (W := [((1 : Nat), some (15 : Int))]) ht47 (fr_p fr_0 (Or.inr (by decide))) (by decide) (by decide +kernel))]
          refine gm_r_int (pc := 88) (by decide +kernel) (Or.inl (by decide +kernel)) (hq ⟨by omega, by omega⟩ ⟨by omega, by omega⟩ (by omega) (by omega) p47 (cs_th3 (gm_uM M47 1 15 0) f t (N (95 + (f * 3 + 0))) (N (95 + (f * 3 + 1)))) hp47 ⟨hk47.1, (((fr_c cs_th_fr (by decide)).trans ((uM_ne (by omega)).trans rfl))).trans hk47.2⟩ (his_w (W := [((1 : Nat), some (15 : Int)), ((10 : Nat), some (3 : Int)), ((11 : Nat), none)]) hs47 (fr_t (fr_p fr_0 (Or.inr (by decide))) cs_th_fr (by decide)) (by decide)) (cst_fr (W := [((1 : Nat), some (15 : Int)), ((10 : Nat), some (3 : Int)), ((11 : Nat), none)]) ht47.1 (fr_t (fr_p fr_0 (Or.inr (by decide))) cs_th_fr (by decide)) (by decide +kernel)) (cs_th_n (ti_fr (W := [((1 : Nat), some (15 : Int))]) ht47 (fr_p fr_0 (Or.inr (by decide))) (by decide) (by decide +kernel)).2.1 ⟨by omega, by omega⟩) ((fr_c cs_th_fr (by decide)).trans uM_at) (fun x j hx h10 h11 h15 => ?_))
          exact ((cs_th_fr x j (by intro hm; simp at hm; omega) (by intro hm; simp at hm; omega)).trans ((uM_ne (fun hh => h15 ⟨hh.1, hh.2⟩)).trans (hx47 x j hx)))
      · show Q (.inr 0) n K _ _
        have c13 : f = t := Classical.not_not.mp c13
        exact (q0 (by omega) (by omega) (by omega))
    · show Q (.inr 3) n K _ _
      have c7 : ¬ (0 ≤ t ∧ t < N 3) := c7
      exact (q3 (by omega))
  · show Q (.inr 3) n K _ _
    have c2 : ¬ (0 ≤ f ∧ f < N 3) := c2
    exact (q3 (by omega))
theorem ac_156 (hd : 12 ≤ d) (hbc : 4 ≤ bc) (hbs : 24 ≤ bs) (hE : E0 n K R) (hT : TI N h sp M) (hN : NR N) (hH : HIS A M) (hf : gm_ir p) (ht : gm_ir l) (q3 : ¬ ((0 ≤ p ∧ p < N 3) ∧ (l = -1 ∨ (0 ≤ l ∧ l < N 0))) → Q (.inr 3) n K R M) (hq : 0 ≤ p ∧ p < N 3 → (l = -1 ∨ (0 ≤ l ∧ l < N 0)) → ∀ (p9 : Nat) (M2 : gm_M), p9 < 12 → (M 42 1 = (p9 : Int) ∧ M2 42 1 = ((p9 : Int) + 1) % 12) → HIS ((N :: A).take 12) M2 → CST M2 → cs M2 3 = nwat N p l → (∀ (x : Nat) (j : Int), x < 42 ∨ 199 < x → ¬ x = 9 → M2 x j = M x j) → Q (.inl (some (gm_vi ((N (95 + (p * 3 + 2))))))) n K (gm_uR R (44 + 13 * p9) 8 (R 3 8)) M2) : gm_Wp X LX d bc bs 156 0 (gm_ent 156 [gm_vr 1, gm_vi p, gm_vi l]) [] n K R M Q := by
  obtain ⟨⟨⟨a0, b0⟩, ⟨a1, b1⟩, ⟨a10, b10⟩, ⟨a11, b11⟩, ⟨a12, b12⟩, a9, b9⟩, ⟨⟨a2, b2⟩, ⟨a5, b5⟩, ⟨a3, b3⟩, ⟨a4, b4⟩, ⟨a6, b6⟩, ⟨a14, b14⟩, ⟨a7, b7⟩, a13, b13⟩, rF, rP, rL⟩ := id hN
  refine gm_sz (gm_p_load (pc := 0) (i := .aload_n 0) (sr := 2) (j := 0) (by decide +kernel) rfl rfl rfl) ?_
  refine gm_sz (gm_p_load (pc := 1) (i := .iload_n 1) (sr := 0) (j := 1) (by decide +kernel) rfl rfl rfl) ?_
  refine gm_c_virt (k := 1) (ci := 0) (mj := 139) (ix := 180) (pc := 2) (as := [gm_vi p]) (st := []) (d' := d - 1) (bc' := 1) (bs' := 6) (by decide +kernel) (by decide +kernel) (by decide +kernel) (by decide +kernel) (e0k hE (k := 1) (c := 0) (by decide +kernel)).1 (e0k hE (k := 1) (c := 0) (by decide +kernel)).2 (by decide) (by decide +kernel) (show 1 = gm_na 139 by decide +kernel) (fw_c1 fw_si) (show 2 ≤ gm_ml 139 by decide +kernel) (Nat.le_of_ble_eq_true rfl) (by omega) (by omega) (by omega) ?_
  refine nd_139 (i := p) (by omega) (by omega) (by omega) hE hT hN hf (fun c2 => ?_) (fun c2 => ?_)
  · show gm_Wp X LX d _ _ 156 5 _ [] n K _ _ Q
    have c2 : 0 ≤ p ∧ p < N 3 := c2
    refine gm_sz (gm_p_load (pc := 5) (i := .iload_n 2) (sr := 0) (j := 2) (by decide +kernel) rfl rfl rfl) ?_
    refine gm_sz (gm_p_const (pc := 6) (i := .iconst (-1)) (v := gm_vi (-1)) (by decide +kernel) (by decide +kernel)) ?_
    refine fw_ic (cc := .eq) (pc := 7) (off := 8) (by decide +kernel) (by decide) ht ⟨by decide, by decide⟩ (fun h7 => ?_) (fun h7 => ?_)
    · have h7 : l = (-1) := h7
      refine gm_sz (gm_p_load (pc := 15) (i := .aload_n 0) (sr := 2) (j := 0) (by decide +kernel) rfl rfl rfl) ?_
      refine gm_sz (fw_gr (pc := 16) (ix := 40) (ci := 0) (j := 7) (r := 42) (by decide +kernel) (e0k hE (k := 1) (c := 0) (by decide +kernel)) (by decide +kernel) (by decide +kernel) (e0r hE (k := 1) (j := 7) (r := 42) (by decide +kernel))) ?_
      refine gm_sz (gm_p_load (pc := 19) (i := .aload_n 0) (sr := 2) (j := 0) (by decide +kernel) rfl rfl rfl) ?_
      refine gm_sz (fw_gr (pc := 20) (ix := 23) (ci := 0) (j := 3) (r := 3) (by decide +kernel) (e0k hE (k := 1) (c := 0) (by decide +kernel)) (by decide +kernel) (by decide +kernel) (e0r hE (k := 1) (j := 3) (r := 3) (by decide +kernel))) ?_
      refine gm_c_virt (k := 42) (ci := 3) (mj := 154) (ix := 243) (pc := 23) (as := [gm_vr 3]) (st := []) (d' := d - 1) (bc' := 0) (bs' := 0) (by decide +kernel) (by decide +kernel) (by decide +kernel) (by decide +kernel) (e0k hE (k := 42) (c := 3) (by decide +kernel)).1 (e0k hE (k := 42) (c := 3) (by decide +kernel)).2 (by decide) (by decide +kernel) (show 1 = gm_na 154 by decide +kernel) (fw_c1 fw_sr) (show 2 ≤ gm_ml 154 by decide +kernel) (Nat.le_of_ble_eq_true rfl) (by omega) (Nat.zero_le _) (Nat.zero_le _) ?_
      refine rem_c154 (by omega) hE hT hN hH (fun p23 M23 hp23 hk23 hs23 ht23 hx23 => ?_)
      show gm_Wp X LX d _ _ 156 26 _ [] n K _ _ Q
      refine gm_sz (gm_p_load (pc := 26) (i := .aload_n 0) (sr := 2) (j := 0) (by decide +kernel) rfl rfl rfl) ?_
      refine gm_sz (fw_gr (pc := 27) (ix := 23) (ci := 0) (j := 3) (r := 3) (by decide +kernel) (e0k hE (k := 1) (c := 0) (by decide +kernel)) (by decide +kernel) (by decide +kernel) (e0r (e0h hE (v := R 3 8) hp23) (k := 1) (j := 3) (r := 3) (by decide +kernel))) ?_
      refine gm_sz (fw_gr (pc := 30) (ix := 183) (ci := 1) (j := 11) (r := 8) (by decide +kernel) (e0k hE (k := 3) (c := 1) (by decide +kernel)) (by decide +kernel) (by decide +kernel) (e0r (e0h hE (v := R 3 8) hp23) (k := 3) (j := 11) (r := 8) (by decide +kernel))) ?_
      refine gm_sz (gm_p_load (pc := 33) (i := .iload_n 1) (sr := 0) (j := 1) (by decide +kernel) rfl rfl rfl) ?_
      refine gm_sz (gm_p_const (pc := 34) (i := .iconst 2) (v := gm_vi 2) (by decide +kernel) (by decide +kernel)) ?_
      refine gm_c_virt (k := 8) (ci := 2) (mj := 10) (ix := 186) (pc := 35) (as := [gm_vi p, gm_vi 2]) (st := []) (d' := d - 1) (bc' := 0) (bs' := 0) (by decide +kernel) (by decide +kernel) (by decide +kernel) (by decide +kernel) (e0k hE (k := 8) (c := 2) (by decide +kernel)).1 (e0k hE (k := 8) (c := 2) (by decide +kernel)).2 (by decide) (by decide +kernel) (show 2 = gm_na 10 by decide +kernel) (fw_c2 fw_si fw_si) (show 3 ≤ gm_ml 10 by decide +kernel) (Nat.le_of_ble_eq_true rfl) (by omega) (Nat.zero_le _) (Nat.zero_le _) ?_
      refine rw_get (s := N 3) (w := 3) (x := N (95 + (p * 3 + 2))) (e0k (e0h hE (v := R 3 8) hp23) (k := 8) (c := 2) (by decide +kernel)) (e0a (e0h hE (v := R 3 8) hp23) (k := 9) (q := ((0 : Nat), (24 : Nat))) (by decide +kernel)) (e0r (e0h hE (v := R 3 8) hp23) (k := 8) (j := 2) (r := 9) (by decide +kernel)) (by decide) ((hx23 _ _ (by omega)).trans (ti_peo hT)) ((hx23 _ _ (by omega)).trans (hT.1 (8, 1, 3) (by decide))) ⟨by omega, by omega⟩ ⟨by omega, by omega⟩ ⟨by omega, by omega⟩ ⟨by omega, by omega⟩ ((hx23 _ _ (by omega)).trans (ti_aP hT (by omega) (by omega))) ?_
      show gm_Wp X LX d _ _ 156 38 _ [gm_vi (N (95 + (p * 3 + 2)))] n K _ _ Q
      refine gm_sz (gm_p_stor (pc := 38) (i := .istore_n 3) (sr := 0) (j := 3) (by decide +kernel) rfl (show 4 ≤ _ from Nat.le_of_ble_eq_true rfl) rfl) ?_
      refine gm_sz (gm_p_load (pc := 39) (i := .aload_n 0) (sr := 2) (j := 0) (by decide +kernel) rfl rfl rfl) ?_
      refine gm_sz (fw_gr (pc := 40) (ix := 23) (ci := 0) (j := 3) (r := 3) (by decide +kernel) (e0k hE (k := 1) (c := 0) (by decide +kernel)) (by decide +kernel) (by decide +kernel) (e0r (e0h hE (v := R 3 8) hp23) (k := 1) (j := 3) (r := 3) (by decide +kernel))) ?_
      refine gm_sz (fw_gr (pc := 43) (ix := 183) (ci := 1) (j := 11) (r := 8) (by decide +kernel) (e0k hE (k := 3) (c := 1) (by decide +kernel)) (by decide +kernel) (by decide +kernel) (e0r (e0h hE (v := R 3 8) hp23) (k := 3) (j := 11) (r := 8) (by decide +kernel))) ?_
      refine gm_sz (gm_p_load (pc := 46) (i := .iload_n 1) (sr := 0) (j := 1) (by decide +kernel) rfl rfl rfl) ?_
      refine gm_sz (gm_p_const (pc := 47) (i := .iconst 2) (v := gm_vi 2) (by decide +kernel) (by decide +kernel)) ?_
      refine gm_sz (gm_p_load (pc := 48) (i := .iload_n 2) (sr := 0) (j := 2) (by decide +kernel) rfl rfl rfl) ?_
      refine gm_c_virt (k := 8) (ci := 2) (mj := 45) (ix := 250) (pc := 49) (as := [gm_vi p, gm_vi 2, gm_vi l]) (st := []) (d' := d - 1) (bc' := 0) (bs' := 0) (by decide +kernel) (by decide +kernel) (by decide +kernel) (by decide +kernel) (e0k hE (k := 8) (c := 2) (by decide +kernel)).1 (e0k hE (k := 8) (c := 2) (by decide +kernel)).2 (by decide) (by decide +kernel) (show 3 = gm_na 45 by decide +kernel) (fw_c3 fw_si fw_si fw_si) (show 4 ≤ gm_ml 45 by decide +kernel) (Nat.le_of_ble_eq_true rfl) (by omega) (Nat.zero_le _) (Nat.zero_le _) ?_
      refine rw_put (s := N 3) (w := 3) (e0k (e0h hE (v := R 3 8) hp23) (k := 8) (c := 2) (by decide +kernel)) (e0a (e0h hE (v := R 3 8) hp23) (k := 9) (q := ((0 : Nat), (24 : Nat))) (by decide +kernel)) (e0r (e0h hE (v := R 3 8) hp23) (k := 8) (j := 2) (r := 9) (by decide +kernel)) (by decide) ((hx23 _ _ (by omega)).trans (ti_peo hT)) ((hx23 _ _ (by omega)).trans (hT.1 (8, 1, 3) (by decide))) ⟨by omega, by omega⟩ ⟨by omega, by omega⟩ ⟨by omega, by omega⟩ ⟨by omega, by omega⟩ ?_
      show gm_Wp X LX d _ _ 156 52 _ [] n K _ _ Q
      refine gm_sz (gm_p_load (pc := 52) (i := .iload_n 3) (sr := 0) (j := 3) (by decide +kernel) rfl rfl rfl) ?_
      have c9 : cs (gm_uM M23 9 (p * 3 + 2) l) 3 = nwat N p l := by
        have e9 := cs_pP (M := M23) (b := 3) (j := p * 3 + 2) (v := l) (by omega) (by omega)
        rw [ht23.2.1] at e9
        exact e9
      refine gm_r_int (pc := 53) (by decide +kernel) (Or.inl (by decide +kernel)) (hq ⟨by omega, by omega⟩ (by omega) p23 (gm_uM M23 9 (p * 3 + 2) l) hp23 ⟨hk23.1, (((uM_ne (by omega)).trans rfl)).trans hk23.2⟩ (his_w (W := [((9 : Nat), none)]) hs23 (fr_p fr_0 (Or.inl (by decide))) (by decide)) (cst_fr (W := [((9 : Nat), none)]) ht23.1 (fr_p fr_0 (Or.inl (by decide))) (by decide +kernel)) c9 (fun x j hx h9 => ?_))
      exact ((uM_ne (fun hh => h9 hh.1)).trans (hx23 x j hx))
    · have h7 : ¬ l = (-1) := h7
      refine gm_sz (gm_p_load (pc := 10) (i := .aload_n 0) (sr := 2) (j := 0) (by decide +kernel) rfl rfl rfl) ?_
      refine gm_sz (gm_p_load (pc := 11) (i := .iload_n 2) (sr := 0) (j := 2) (by decide +kernel) rfl rfl rfl) ?_
      refine gm_c_virt (k := 1) (ci := 0) (mj := 132) (ix := 166) (pc := 12) (as := [gm_vi l]) (st := []) (d' := d - 1) (bc' := 1) (bs' := 6) (by decide +kernel) (by decide +kernel) (by decide +kernel) (by decide +kernel) (e0k hE (k := 1) (c := 0) (by decide +kernel)).1 (e0k hE (k := 1) (c := 0) (by decide +kernel)).2 (by decide) (by decide +kernel) (show 1 = gm_na 132 by decide +kernel) (fw_c1 fw_si) (show 2 ≤ gm_ml 132 by decide +kernel) (Nat.le_of_ble_eq_true rfl) (by omega) (by omega) (by omega) ?_
      refine nd_132 (i := l) (by omega) (by omega) (by omega) hE hT hN ht (fun c12 => ?_) (fun c12 => ?_)
      · show gm_Wp X LX d _ _ 156 15 _ [] n K _ _ Q
        have c12 : 0 ≤ l ∧ l < N 0 := c12
        refine gm_sz (gm_p_load (pc := 15) (i := .aload_n 0) (sr := 2) (j := 0) (by decide +kernel) rfl rfl rfl) ?_
        refine gm_sz (fw_gr (pc := 16) (ix := 40) (ci := 0) (j := 7) (r := 42) (by decide +kernel) (e0k hE (k := 1) (c := 0) (by decide +kernel)) (by decide +kernel) (by decide +kernel) (e0r hE (k := 1) (j := 7) (r := 42) (by decide +kernel))) ?_
        refine gm_sz (gm_p_load (pc := 19) (i := .aload_n 0) (sr := 2) (j := 0) (by decide +kernel) rfl rfl rfl) ?_
        refine gm_sz (fw_gr (pc := 20) (ix := 23) (ci := 0) (j := 3) (r := 3) (by decide +kernel) (e0k hE (k := 1) (c := 0) (by decide +kernel)) (by decide +kernel) (by decide +kernel) (e0r hE (k := 1) (j := 3) (r := 3) (by decide +kernel))) ?_
        refine gm_c_virt (k := 42) (ci := 3) (mj := 154) (ix := 243) (pc := 23) (as := [gm_vr 3]) (st := []) (d' := d - 1) (bc' := 0) (bs' := 0) (by decide +kernel) (by decide +kernel) (by decide +kernel) (by decide +kernel) (e0k hE (k := 42) (c := 3) (by decide +kernel)).1 (e0k hE (k := 42) (c := 3) (by decide +kernel)).2 (by decide) (by decide +kernel) (show 1 = gm_na 154 by decide +kernel) (fw_c1 fw_sr) (show 2 ≤ gm_ml 154 by decide +kernel) (Nat.le_of_ble_eq_true rfl) (by omega) (Nat.zero_le _) (Nat.zero_le _) ?_
        refine rem_c154 (by omega) hE hT hN hH (fun p23 M23 hp23 hk23 hs23 ht23 hx23 => ?_)
        show gm_Wp X LX d _ _ 156 26 _ [] n K _ _ Q
        refine gm_sz (gm_p_load (pc := 26) (i := .aload_n 0) (sr := 2) (j := 0) (by decide +kernel) rfl rfl rfl) ?_
        refine gm_sz (fw_gr (pc := 27) (ix := 23) (ci := 0) (j := 3) (r := 3) (by decide +kernel) (e0k hE (k := 1) (c := 0) (by decide +kernel)) (by decide +kernel) (by decide +kernel) (e0r (e0h hE (v := R 3 8) hp23) (k := 1) (j := 3) (r := 3) (by decide +kernel))) ?_
        refine gm_sz (fw_gr (pc := 30) (ix := 183) (ci := 1) (j := 11) (r := 8) (by decide +kernel) (e0k hE (k := 3) (c := 1) (by decide +kernel)) (by decide +kernel) (by decide +kernel) (e0r (e0h hE (v := R 3 8) hp23) (k := 3) (j := 11) (r := 8) (by decide +kernel))) ?_
        refine gm_sz (gm_p_load (pc := 33) (i := .iload_n 1) (sr := 0) (j := 1) (by decide +kernel) rfl rfl rfl) ?_
        refine gm_sz (gm_p_const (pc := 34) (i := .iconst 2) (v := gm_vi 2) (by decide +kernel) (by decide +kernel)) ?_
        refine gm_c_virt (k := 8) (ci := 2) (mj := 10) (ix := 186) (pc := 35) (as := [gm_vi p, gm_vi 2]) (st := []) (d' := d - 1) (bc' := 0) (bs' := 0) (by decide +kernel) (by decide +kernel) (by decide +kernel) (by decide +kernel) (e0k hE (k := 8) (c := 2) (by decide +kernel)).1 (e0k hE (k := 8) (c := 2) (by decide +kernel)).2 (by decide) (by decide +kernel) (show 2 = gm_na 10 by decide +kernel) (fw_c2 fw_si fw_si) (show 3 ≤ gm_ml 10 by decide +kernel) (Nat.le_of_ble_eq_true rfl) (by omega) (Nat.zero_le _) (Nat.zero_le _) ?_
        refine rw_get (s := N 3) (w := 3) (x := N (95 + (p * 3 + 2))) (e0k (e0h hE (v := R 3 8) hp23) (k := 8) (c := 2) (by decide +kernel)) (e0a (e0h hE (v := R 3 8) hp23) (k := 9) (q := ((0 : Nat), (24 : Nat))) (by decide +kernel)) (e0r (e0h hE (v := R 3 8) hp23) (k := 8) (j := 2) (r := 9) (by decide +kernel)) (by decide) ((hx23 _ _ (by omega)).trans (ti_peo hT)) ((hx23 _ _ (by omega)).trans (hT.1 (8, 1, 3) (by decide))) ⟨by omega, by omega⟩ ⟨by omega, by omega⟩ ⟨by omega, by omega⟩ ⟨by omega, by omega⟩ ((hx23 _ _ (by omega)).trans (ti_aP hT (by omega) (by omega))) ?_
        show gm_Wp X LX d _ _ 156 38 _ [gm_vi (N (95 + (p * 3 + 2)))] n K _ _ Q
        refine gm_sz (gm_p_stor (pc := 38) (i := .istore_n 3) (sr := 0) (j := 3) (by decide +kernel) rfl (show 4 ≤ _ from Nat.le_of_ble_eq_true rfl) rfl) ?_
        refine gm_sz (gm_p_load (pc := 39) (i := .aload_n 0) (sr := 2) (j := 0) (by decide +kernel) rfl rfl rfl) ?_
        refine gm_sz (fw_gr (pc := 40) (ix := 23) (ci := 0) (j := 3) (r := 3) (by decide +kernel) (e0k hE (k := 1) (c := 0) (by decide +kernel)) (by decide +kernel) (by decide +kernel) (e0r (e0h hE (v := R 3 8) hp23) (k := 1) (j := 3) (r := 3) (by decide +kernel))) ?_
        refine gm_sz (fw_gr (pc := 43) (ix := 183) (ci := 1) (j := 11) (r := 8) (by decide +kernel) (e0k hE (k := 3) (c := 1) (by decide +kernel)) (by decide +kernel) (by decide +kernel) (e0r (e0h hE (v := R 3 8) hp23) (k := 3) (j := 11) (r := 8) (by decide +kernel))) ?_
        refine gm_sz (gm_p_load (pc := 46) (i := .iload_n 1) (sr := 0) (j := 1) (by decide +kernel) rfl rfl rfl) ?_
        refine gm_sz (gm_p_const (pc := 47) (i := .iconst 2) (v := gm_vi 2) (by decide +kernel) (by decide +kernel)) ?_
        refine gm_sz (gm_p_load (pc := 48) (i := .iload_n 2) (sr := 0) (j := 2) (by decide +kernel) rfl rfl rfl) ?_
        refine gm_c_virt (k := 8) (ci := 2) (mj := 45) (ix := 250) (pc := 49) (as := [gm_vi p, gm_vi 2, gm_vi l]) (st := []) (d' := d - 1) (bc' := 0) (bs' := 0) (by decide +kernel) (by decide +kernel) (by decide +kernel) (by decide +kernel) (e0k hE (k := 8) (c := 2) (by decide +kernel)).1 (e0k hE (k := 8) (c := 2) (by decide +kernel)).2 (by decide) (by decide +kernel) (show 3 = gm_na 45 by decide +kernel) (fw_c3 fw_si fw_si fw_si) (show 4 ≤ gm_ml 45 by decide +kernel) (Nat.le_of_ble_eq_true rfl) (by omega) (Nat.zero_le _) (Nat.zero_le _) ?_
        refine rw_put (s := N 3) (w := 3) (e0k (e0h hE (v := R 3 8) hp23) (k := 8) (c := 2) (by decide +kernel)) (e0a (e0h hE (v := R 3 8) hp23) (k := 9) (q := ((0 : Nat), (24 : Nat))) (by decide +kernel)) (e0r (e0h hE (v := R 3 8) hp23) (k := 8) (j := 2) (r := 9) (by decide +kernel)) (by decide) ((hx23 _ _ (by omega)).trans (ti_peo hT)) ((hx23 _ _ (by omega)).trans (hT.1 (8, 1, 3) (by decide))) ⟨by omega, by omega⟩ ⟨by omega, by omega⟩ ⟨by omega, by omega⟩ ⟨by omega, by omega⟩ ?_
        show gm_Wp X LX d _ _ 156 52 _ [] n K _ _ Q
        refine gm_sz (gm_p_load (pc := 52) (i := .iload_n 3) (sr := 0) (j := 3) (by decide +kernel) rfl rfl rfl) ?_
        have c9 : cs (gm_uM M23 9 (p * 3 + 2) l) 3 = nwat N p l := by
          have e9 := cs_pP (M := M23) (b := 3) (j := p * 3 + 2) (v := l) (by omega) (by omega)
          rw [ht23.2.1] at e9
          exact e9
        refine gm_r_int (pc := 53) (by decide +kernel) (Or.inl (by decide +kernel)) (hq ⟨by omega, by omega⟩ (by omega) p23 (gm_uM M23 9 (p * 3 + 2) l) hp23 ⟨hk23.1, (((uM_ne (by omega)).trans rfl)).trans hk23.2⟩ (his_w (W := [((9 : Nat), none)]) hs23 (fr_p fr_0 (Or.inl (by decide))) (by decide)) (cst_fr (W := [((9 : Nat), none)]) ht23.1 (fr_p fr_0 (Or.inl (by decide))) (by decide +kernel)) c9 (fun x j hx h9 => ?_))
        exact ((uM_ne (fun hh => h9 hh.1)).trans (hx23 x j hx))
      · show Q (.inr 3) n K _ _
        have c12 : ¬ (0 ≤ l ∧ l < N 0) := c12
        exact (q3 (by omega))
  · show Q (.inr 3) n K _ _
    have c2 : ¬ (0 ≤ p ∧ p < N 3) := c2
    exact (q3 (by omega))
theorem cs_op_y {M : gm_M} {l p j : Int} (h : ¬ (j = l * 7 + 5 ∨ j = l * 7 + 6)) : cs_op M l p 11 j = M 11 j := by
  unfold cs_op
  rw [uM_ne (by omega), uM_ne (by omega), uM_ne (by omega), uM_ne (by omega), uM_ne (by omega), uM_ne (by omega)]
theorem ac_158 (hd : 24 ≤ d) (hbc : 4 ≤ bc) (hbs : 24 ≤ bs) (hE : E0 n K R) (hT : TI N h sp M) (hN : NR N) (hg : LOGI N) (hH : HIS A M) (hfw : FLW X LX n K R N h sp FI φ) (hI : FI M) (hk : M 1 15 = 0 ∨ (M 1 15 = 1 ∧ ENDS N h φ M)) (hl : gm_ir l) (q3 : ¬ (0 ≤ l ∧ l < N 4) → Q (.inr 3) n K R M) (q2 : 0 ≤ l ∧ l < N 4 → ∀ (o9 d9 : Int) (M2 : gm_M), OUTR N h φ l o9 d9 → ¬ WTS N l o9 → fr [((206 : Nat), some (2 : Int)), ((206 : Nat), some (3 : Int)), ((206 : Nat), some (4 : Int)), ((206 : Nat), some (5 : Int)), ((206 : Nat), some (6 : Int)), ((206 : Nat), some (7 : Int)), ((206 : Nat), some (8 : Int)), ((200 : Nat), some (6 : Int)), ((204 : Nat), none), ((205 : Nat), none), ((220 : Nat), some (3 : Int)), ((221 : Nat), none), ((1 : Nat), some (15 : Int))] M M2 → FI M2 → M2 1 15 = 1 → ENDS N h φ M2 → Q (.inr 2) n K R M2) (hq : 0 ≤ l ∧ l < N 4 → ∀ (o9 d9 : Int) (p : Nat) (M1 M2 : gm_M), OUTR N h φ l o9 d9 → WTS N l o9 → fr [((206 : Nat), some (2 : Int)), ((206 : Nat), some (3 : Int)), ((206 : Nat), some (4 : Int)), ((206 : Nat), some (5 : Int)), ((206 : Nat), some (6 : Int)), ((206 : Nat), some (7 : Int)), ((206 : Nat), some (8 : Int)), ((200 : Nat), some (6 : Int)), ((204 : Nat), none), ((205 : Nat), none), ((220 : Nat), some (3 : Int)), ((221 : Nat), none), ((1 : Nat), some (15 : Int))] M M1 → FI M1 → M1 1 15 = 1 → ENDS N h φ M1 → p < 12 → (M1 42 1 = (p : Int) ∧ M2 42 1 = ((p : Int) + 1) % 12) → HIS ((N :: A).take 12) M2 → CST M2 → cs M2 3 = nopn N l ((N (119 + (l * 7 + 1)))) → (∀ (x : Nat) (j : Int), x < 42 ∨ 199 < x → ¬ x = 11 → ¬ x = 14 → ¬ x = 15 → M2 x j = M1 x j) → Q (.inl (some (gm_vi (N 9 - (N (119 + (l * 7 + 3))))))) n K (gm_uR R (44 + 13 * p) 8 (R 3 8)) M2) : gm_Wp X LX d bc bs 158 0 (gm_ent 158 [gm_vr 1, gm_vi l]) [] n K R M Q := by
  obtain ⟨⟨⟨a0, b0⟩, ⟨a1, b1⟩, ⟨a10, b10⟩, ⟨a11, b11⟩, ⟨a12, b12⟩, a9, b9⟩, ⟨⟨a2, b2⟩, ⟨a5, b5⟩, ⟨a3, b3⟩, ⟨a4, b4⟩, ⟨a6, b6⟩, ⟨a14, b14⟩, ⟨a7, b7⟩, a13, b13⟩, rF, rP, rL⟩ := id hN
  refine gm_sz (gm_p_load (pc := 0) (i := .aload_n 0) (sr := 2) (j := 0) (by decide +kernel) rfl rfl rfl) ?_
  refine gm_sz (gm_p_load (pc := 1) (i := .iload_n 1) (sr := 0) (j := 1) (by decide +kernel) rfl rfl rfl) ?_
  refine gm_c_virt (k := 1) (ci := 0) (mj := 143) (ix := 200) (pc := 2) (as := [gm_vi l]) (st := []) (d' := d - 1) (bc' := 1) (bs' := 6) (by decide +kernel) (by decide +kernel) (by decide +kernel) (by decide +kernel) (e0k hE (k := 1) (c := 0) (by decide +kernel)).1 (e0k hE (k := 1) (c := 0) (by decide +kernel)).2 (by decide) (by decide +kernel) (show 1 = gm_na 143 by decide +kernel) (fw_c1 fw_si) (show 2 ≤ gm_ml 143 by decide +kernel) (Nat.le_of_ble_eq_true rfl) (by omega) (by omega) (by omega) ?_
  refine nd_143 (i := l) (by omega) (by omega) (by omega) hE hT hN hl (fun c2 => ?_) (fun c2 => ?_)
  · show gm_Wp X LX d _ _ 158 5 _ [] n K _ _ Q
    have c2 : 0 ≤ l ∧ l < N 4 := c2
    refine gm_sz (gm_p_load (pc := 5) (i := .aload_n 0) (sr := 2) (j := 0) (by decide +kernel) rfl rfl rfl) ?_
    refine gm_c_virt (k := 1) (ci := 0) (mj := 24) (ix := 254) (pc := 6) (as := []) (st := []) (d' := d - 1) (bc' := 0) (bs' := 0) (by decide +kernel) (by decide +kernel) (by decide +kernel) (by decide +kernel) (e0k hE (k := 1) (c := 0) (by decide +kernel)).1 (e0k hE (k := 1) (c := 0) (by decide +kernel)).2 (by decide) (by decide +kernel) (show 0 = gm_na 24 by decide +kernel) fw_c0 (show 1 ≤ gm_ml 24 by decide +kernel) (Nat.le_of_ble_eq_true rfl) (by omega) (Nat.zero_le _) (Nat.zero_le _) ?_
    refine en_c24 (by omega) hE hT hN hfw hI (hk.elim (fun hk => by rw [hk]; exact ⟨by decide, by decide⟩) (fun hk => by rw [hk.1]; exact ⟨by decide, by decide⟩)) (fun hz => hk.resolve_left hz) (fun M24 hf24 hI24 h24 he24 => ?_)
    show gm_Wp X LX d _ _ 158 9 _ [] n K _ _ Q
    refine gm_sz (gm_p_load (pc := 9) (i := .aload_n 0) (sr := 2) (j := 0) (by decide +kernel) rfl rfl rfl) ?_
    refine gm_sz (gm_p_load (pc := 10) (i := .iload_n 1) (sr := 0) (j := 1) (by decide +kernel) rfl rfl rfl) ?_
    refine gm_c_virt (k := 1) (ci := 0) (mj := 66) (ix := 257) (pc := 11) (as := [gm_vi l]) (st := []) (d' := d - 1) (bc' := 0) (bs' := 0) (by decide +kernel) (by decide +kernel) (by decide +kernel) (by decide +kernel) (e0k hE (k := 1) (c := 0) (by decide +kernel)).1 (e0k hE (k := 1) (c := 0) (by decide +kernel)).2 (by decide) (by decide +kernel) (show 1 = gm_na 66 by decide +kernel) (fw_c1 fw_si) (show 2 ≤ gm_ml 66 by decide +kernel) (Nat.le_of_ble_eq_true rfl) (by omega) (Nat.zero_le _) (Nat.zero_le _) ?_
    refine wt_c66 (by omega) hE (ti_fr (W := [((206 : Nat), some (2 : Int)), ((206 : Nat), some (3 : Int)), ((206 : Nat), some (4 : Int)), ((206 : Nat), some (5 : Int)), ((206 : Nat), some (6 : Int)), ((206 : Nat), some (7 : Int)), ((206 : Nat), some (8 : Int)), ((200 : Nat), some (6 : Int)), ((204 : Nat), none), ((205 : Nat), none), ((220 : Nat), some (3 : Int)), ((221 : Nat), none), ((1 : Nat), some (15 : Int))]) hT (fr_t fr_0 hf24 (by decide)) (by decide) (by decide +kernel)) hN c2 he24.1 rfl (OUTR_b (he24.2 l c2.1 c2.2) (rL l c2.1 c2.2).2.2.2.1.1) (fun v11 => ?_) (fun v11 => ?_)
    · show gm_Wp X LX d _ _ 158 14 _ [gm_vi 1] n K _ _ Q
      refine fw_iftd (cc := .ne) (pc := 14) (off := 14) (by decide +kernel) (by decide) ⟨by decide, by decide⟩ (by decide) ?_
      refine gm_sz (gm_p_load (pc := 28) (i := .aload_n 0) (sr := 2) (j := 0) (by decide +kernel) rfl rfl rfl) ?_
      refine gm_sz (fw_gr (pc := 29) (ix := 40) (ci := 0) (j := 7) (r := 42) (by decide +kernel) (e0k hE (k := 1) (c := 0) (by decide +kernel)) (by decide +kernel) (by decide +kernel) (e0r hE (k := 1) (j := 7) (r := 42) (by decide +kernel))) ?_
      refine gm_sz (gm_p_load (pc := 32) (i := .aload_n 0) (sr := 2) (j := 0) (by decide +kernel) rfl rfl rfl) ?_
      refine gm_sz (fw_gr (pc := 33) (ix := 23) (ci := 0) (j := 3) (r := 3) (by decide +kernel) (e0k hE (k := 1) (c := 0) (by decide +kernel)) (by decide +kernel) (by decide +kernel) (e0r hE (k := 1) (j := 3) (r := 3) (by decide +kernel))) ?_
      refine gm_c_virt (k := 42) (ci := 3) (mj := 154) (ix := 243) (pc := 36) (as := [gm_vr 3]) (st := []) (d' := d - 1) (bc' := 0) (bs' := 0) (by decide +kernel) (by decide +kernel) (by decide +kernel) (by decide +kernel) (e0k hE (k := 42) (c := 3) (by decide +kernel)).1 (e0k hE (k := 42) (c := 3) (by decide +kernel)).2 (by decide) (by decide +kernel) (show 1 = gm_na 154 by decide +kernel) (fw_c1 fw_sr) (show 2 ≤ gm_ml 154 by decide +kernel) (Nat.le_of_ble_eq_true rfl) (by omega) (Nat.zero_le _) (Nat.zero_le _) ?_
      refine rem_c154 (by omega) hE (ti_fr (W := [((206 : Nat), some (2 : Int)), ((206 : Nat), some (3 : Int)), ((206 : Nat), some (4 : Int)), ((206 : Nat), some (5 : Int)), ((206 : Nat), some (6 : Int)), ((206 : Nat), some (7 : Int)), ((206 : Nat), some (8 : Int)), ((200 : Nat), some (6 : Int)), ((204 : Nat), none), ((205 : Nat), none), ((220 : Nat), some (3 : Int)), ((221 : Nat), none), ((1 : Nat), some (15 : Int))]) hT (fr_t fr_0 hf24 (by decide)) (by decide) (by decide +kernel)) hN (his_w (W := [((206 : Nat), some (2 : Int)), ((206 : Nat), some (3 : Int)), ((206 : Nat), some (4 : Int)), ((206 : Nat), some (5 : Int)), ((206 : Nat), some (6 : Int)), ((206 : Nat), some (7 : Int)), ((206 : Nat), some (8 : Int)), ((200 : Nat), some (6 : Int)), ((204 : Nat), none), ((205 : Nat), none), ((220 : Nat), some (3 : Int)), ((221 : Nat), none), ((1 : Nat), some (15 : Int))]) hH (fr_t fr_0 hf24 (by decide)) (by decide)) (fun p36 M36 hp36 hk36 hs36 ht36 hx36 => ?_)
      show gm_Wp X LX d _ _ 158 39 _ [] n K _ _ Q
      refine gm_sz (gm_p_load (pc := 39) (i := .aload_n 0) (sr := 2) (j := 0) (by decide +kernel) rfl rfl rfl) ?_
      refine gm_sz (fw_gr (pc := 40) (ix := 23) (ci := 0) (j := 3) (r := 3) (by decide +kernel) (e0k hE (k := 1) (c := 0) (by decide +kernel)) (by decide +kernel) (by decide +kernel) (e0r (e0h hE (v := R 3 8) hp36) (k := 1) (j := 3) (r := 3) (by decide +kernel))) ?_
      refine gm_sz (gm_p_load (pc := 43) (i := .iload_n 1) (sr := 0) (j := 1) (by decide +kernel) rfl rfl rfl) ?_
      refine gm_sz (gm_p_load (pc := 44) (i := .aload_n 0) (sr := 2) (j := 0) (by decide +kernel) rfl rfl rfl) ?_
      refine gm_sz (fw_gr (pc := 45) (ix := 23) (ci := 0) (j := 3) (r := 3) (by decide +kernel) (e0k hE (k := 1) (c := 0) (by decide +kernel)) (by decide +kernel) (by decide +kernel) (e0r (e0h hE (v := R 3 8) hp36) (k := 1) (j := 3) (r := 3) (by decide +kernel))) ?_
      refine gm_sz (fw_gr (pc := 48) (ix := 203) (ci := 1) (j := 12) (r := 10) (by decide +kernel) (e0k hE (k := 3) (c := 1) (by decide +kernel)) (by decide +kernel) (by decide +kernel) (e0r (e0h hE (v := R 3 8) hp36) (k := 3) (j := 12) (r := 10) (by decide +kernel))) ?_
      refine gm_sz (gm_p_load (pc := 51) (i := .iload_n 1) (sr := 0) (j := 1) (by decide +kernel) rfl rfl rfl) ?_
      refine gm_sz (gm_p_const (pc := 52) (i := .iconst 1) (v := gm_vi 1) (by decide +kernel) (by decide +kernel)) ?_
      refine gm_c_virt (k := 10) (ci := 2) (mj := 10) (ix := 186) (pc := 53) (as := [gm_vi l, gm_vi 1]) (st := [gm_vi l, gm_vr 3]) (d' := d - 1) (bc' := 0) (bs' := 0) (by decide +kernel) (by decide +kernel) (by decide +kernel) (by decide +kernel) (e0k hE (k := 10) (c := 2) (by decide +kernel)).1 (e0k hE (k := 10) (c := 2) (by decide +kernel)).2 (by decide) (by decide +kernel) (show 2 = gm_na 10 by decide +kernel) (fw_c2 fw_si fw_si) (show 3 ≤ gm_ml 10 by decide +kernel) (Nat.le_of_ble_eq_true rfl) (by omega) (Nat.zero_le _) (Nat.zero_le _) ?_
      refine rw_get (s := N 4) (w := 7) (x := N (119 + (l * 7 + 1))) (e0k (e0h hE (v := R 3 8) hp36) (k := 10) (c := 2) (by decide +kernel)) (e0a (e0h hE (v := R 3 8) hp36) (k := 11) (q := ((0 : Nat), (168 : Nat))) (by decide +kernel)) (e0r (e0h hE (v := R 3 8) hp36) (k := 10) (j := 2) (r := 11) (by decide +kernel)) (by decide) ((hx36 _ _ (by omega)).trans ((fr_c hf24 (by decide)).trans (ti_let hT))) ((hx36 _ _ (by omega)).trans ((fr_c hf24 (by decide)).trans (hT.1 (10, 1, 7) (by decide)))) ⟨by omega, by omega⟩ ⟨by omega, by omega⟩ ⟨by omega, by omega⟩ ⟨by omega, by omega⟩ ((hx36 _ _ (by omega)).trans ((fr_c hf24 (by decide)).trans (ti_aL hT (by omega) (by omega)))) ?_
      show gm_Wp X LX d _ _ 158 56 _ [gm_vi (N (119 + (l * 7 + 1))), gm_vi l, gm_vr 3] n K _ _ Q
      refine gm_c_virt (k := 3) (ci := 1) (mj := 159) (ix := 266) (pc := 56) (as := [gm_vi l, gm_vi (N (119 + (l * 7 + 1)))]) (st := []) (d' := d - 1) (bc' := 0) (bs' := 0) (by decide +kernel) (by decide +kernel) (by decide +kernel) (by decide +kernel) (e0k hE (k := 3) (c := 1) (by decide +kernel)).1 (e0k hE (k := 3) (c := 1) (by decide +kernel)).2 (by decide) (by decide +kernel) (show 2 = gm_na 159 by decide +kernel) (fw_c2 fw_si fw_si) (show 3 ≤ gm_ml 159 by decide +kernel) (Nat.le_of_ble_eq_true rfl) (by omega) (Nat.zero_le _) (Nat.zero_le _) ?_
      refine cs_opn (by omega) (e0h hE (v := R 3 8) hp36) ht36.1 (by rw [ti_let ht36]; exact c2) (by rw [ti_let ht36]; omega) (by rw [ti_ope ht36]; exact logi_lt hN hg c2 v11.2.1) ?_
      show gm_Wp X LX d _ _ 158 59 _ [] n K _ _ Q
      refine gm_sz (gm_p_load (pc := 59) (i := .aload_n 0) (sr := 2) (j := 0) (by decide +kernel) rfl rfl rfl) ?_
      refine gm_sz (fw_gr (pc := 60) (ix := 23) (ci := 0) (j := 3) (r := 3) (by decide +kernel) (e0k hE (k := 1) (c := 0) (by decide +kernel)) (by decide +kernel) (by decide +kernel) (e0r (e0h hE (v := R 3 8) hp36) (k := 1) (j := 3) (r := 3) (by decide +kernel))) ?_
      refine gm_sz (fw_gi (pc := 63) (ix := 269) (ci := 1) (j := 6) (x := N 9) (by decide +kernel) (e0k hE (k := 3) (c := 1) (by decide +kernel)) (by decide +kernel) (by decide +kernel) ((fr_c cs_op_fr (by decide)).trans ((hx36 _ _ (by omega)).trans ((fr_c hf24 (by decide)).trans (ti_now hT))))) ?_
      refine gm_sz (gm_p_load (pc := 66) (i := .aload_n 0) (sr := 2) (j := 0) (by decide +kernel) rfl rfl rfl) ?_
      refine gm_sz (fw_gr (pc := 67) (ix := 23) (ci := 0) (j := 3) (r := 3) (by decide +kernel) (e0k hE (k := 1) (c := 0) (by decide +kernel)) (by decide +kernel) (by decide +kernel) (e0r (e0h hE (v := R 3 8) hp36) (k := 1) (j := 3) (r := 3) (by decide +kernel))) ?_
      refine gm_sz (fw_gr (pc := 70) (ix := 203) (ci := 1) (j := 12) (r := 10) (by decide +kernel) (e0k hE (k := 3) (c := 1) (by decide +kernel)) (by decide +kernel) (by decide +kernel) (e0r (e0h hE (v := R 3 8) hp36) (k := 3) (j := 12) (r := 10) (by decide +kernel))) ?_
      refine gm_sz (gm_p_load (pc := 73) (i := .iload_n 1) (sr := 0) (j := 1) (by decide +kernel) rfl rfl rfl) ?_
      refine gm_sz (gm_p_const (pc := 74) (i := .iconst 3) (v := gm_vi 3) (by decide +kernel) (by decide +kernel)) ?_
      refine gm_c_virt (k := 10) (ci := 2) (mj := 10) (ix := 186) (pc := 75) (as := [gm_vi l, gm_vi 3]) (st := [gm_vi (N 9)]) (d' := d - 1) (bc' := 0) (bs' := 0) (by decide +kernel) (by decide +kernel) (by decide +kernel) (by decide +kernel) (e0k hE (k := 10) (c := 2) (by decide +kernel)).1 (e0k hE (k := 10) (c := 2) (by decide +kernel)).2 (by decide) (by decide +kernel) (show 2 = gm_na 10 by decide +kernel) (fw_c2 fw_si fw_si) (show 3 ≤ gm_ml 10 by decide +kernel) (Nat.le_of_ble_eq_true rfl) (by omega) (Nat.zero_le _) (Nat.zero_le _) ?_
      refine rw_get (s := N 4) (w := 7) (x := N (119 + (l * 7 + 3))) (e0k (e0h hE (v := R 3 8) hp36) (k := 10) (c := 2) (by decide +kernel)) (e0a (e0h hE (v := R 3 8) hp36) (k := 11) (q := ((0 : Nat), (168 : Nat))) (by decide +kernel)) (e0r (e0h hE (v := R 3 8) hp36) (k := 10) (j := 2) (r := 11) (by decide +kernel)) (by decide) ((fr_c cs_op_fr (by decide)).trans ((hx36 _ _ (by omega)).trans ((fr_c hf24 (by decide)).trans (ti_let hT)))) ((fr_c cs_op_fr (by decide)).trans ((hx36 _ _ (by omega)).trans ((fr_c hf24 (by decide)).trans (hT.1 (10, 1, 7) (by decide))))) ⟨by omega, by omega⟩ ⟨by omega, by omega⟩ ⟨by omega, by omega⟩ ⟨by omega, by omega⟩ ((cs_op_y (by omega)).trans ((hx36 _ _ (by omega)).trans ((fr_c hf24 (by decide)).trans (ti_aL hT (by omega) (by omega))))) ?_
      show gm_Wp X LX d _ _ 158 78 _ [gm_vi (N (119 + (l * 7 + 3))), gm_vi (N 9)] n K _ _ Q
      refine gm_sz (gm_p_bin (pc := 78) (i := .isub) (f := fun x y => x - y) (by decide +kernel) rfl) ?_
      have hl24 : 0 ≤ l ∧ l < 24 := ⟨c2.1, by omega⟩
      have ho9 := logi_lt hN hg c2 v11.2.1
      have n9 : cs (cs_op M36 l (N (119 + (l * 7 + 1)))) 3 = nopn N l (N (119 + (l * 7 + 1))) := cs_op_n ht36.2.1 hl24 ho9
      refine gm_r_int (pc := 79) (by decide +kernel) (Or.inl (by decide +kernel)) ?_
      have e9 : (N 9) - (N (119 + (l * 7 + 3))) = N 9 - (N (119 + (l * 7 + 3))) := rfl
      exact hq c2 _ _ p36 M24 (cs_op M36 l (N (119 + (l * 7 + 1)))) (he24.2 l c2.1 c2.2) v11 hf24 hI24 h24 he24 hp36 ⟨hk36.1, (((fr_c cs_op_fr (by decide)).trans rfl)).trans hk36.2⟩ (his_w (W := [((11 : Nat), none), ((14 : Nat), some (3 : Int)), ((15 : Nat), none)]) hs36 (fr_t fr_0 cs_op_fr (by decide)) (by decide)) (cst_fr (W := [((11 : Nat), none), ((14 : Nat), some (3 : Int)), ((15 : Nat), none)]) ht36.1 (fr_t fr_0 cs_op_fr (by decide)) (by decide +kernel)) n9 (fun x j hx h11 h14 h15 => (cs_op_fr x j (by intro hm; simp at hm; omega) (by intro hm; simp at hm; omega)).trans (hx36 x j hx))
    · show gm_Wp X LX d _ _ 158 14 _ [gm_vi 0] n K _ _ Q
      refine fw_iffd (cc := .ne) (pc := 14) (off := 14) (by decide +kernel) (by decide) ⟨by decide, by decide⟩ (by decide) ?_
      exact gm_throw (ik := 261) (is := 263) (ic := 265) (x := 2) (id := 38) (lw := true) (by decide +kernel) (by decide +kernel) (by decide +kernel) (by decide +kernel) (by decide +kernel) (by decide +kernel) (by decide +kernel) (by decide +kernel) (Nat.le_of_ble_eq_true rfl) (by omega) (by omega) (by omega) (q2 c2 _ _ _ (he24.2 l c2.1 c2.2) v11 hf24 hI24 h24 he24)
  · show Q (.inr 3) n K _ _
    have c2 : ¬ (0 ≤ l ∧ l < N 4) := c2
    exact (q3 (by omega))
end AC13
end
