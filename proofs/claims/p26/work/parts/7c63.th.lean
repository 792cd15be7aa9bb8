/-! HUT, LATEST, THROWSFOR, WITHOUT: what they answer. -/
/-- the first ROW where it comes out in time -/
noncomputable def HUTA (N h : Int → Int) (φ : Int → Int → Int → Int) (lane x v : Int) : Prop := (v = -1 ∧ ∀ i : Nat, (i : Int) < N 1 → ¬ (¬ fro N h φ lane (i : Int) (N 9) = -1 ∧ fro N h φ lane (i : Int) (N 9) ≤ N 9 + x)) ∨ ∃ k : Nat, (k : Int) < N 1 ∧ v = (k : Int) ∧ (¬ fro N h φ lane (k : Int) (N 9) = -1 ∧ fro N h φ lane (k : Int) (N 9) ≤ N 9 + x) ∧ ∀ i : Nat, i < k → ¬ (¬ fro N h φ lane (i : Int) (N 9) = -1 ∧ fro N h φ lane (i : Int) (N 9) ≤ N 9 + x)
theorem HUTA_u {N h : Int → Int} {φ : Int → Int → Int → Int} {lane x v v2 : Int} (a : HUTA N h φ lane x v) (b : HUTA N h φ lane x v2) : v = v2 := by
  rcases a with ⟨a1, a2⟩ | ⟨k, a1, a2, a3, a4⟩
  · rcases b with ⟨b1, b2⟩ | ⟨j, b1, b2, b3, b4⟩
    · omega
    · exact absurd b3 (a2 j b1)
  · rcases b with ⟨b1, b2⟩ | ⟨j, b1, b2, b3, b4⟩
    · exact absurd a3 (b2 k a1)
    · have e : k = j := by
        rcases Nat.lt_trichotomy k j with h | h | h
        · exact absurd a3 (b4 k h)
        · exact h
        · exact absurd b3 (a4 j h)
      rw [a2, b2, e]
/-- the last YEAR when it may be thrown -/
noncomputable def LATA (N h : Int → Int) (φ : Int → Int → Int → Int) (p y v : Int) : Prop := (v = -1 ∧ ∀ q : Int, N 9 ≤ q → q ≤ 299 → ¬ (¬ fro N h φ ((N (95 + (p * 3 + 0)))) ((N (95 + (p * 3 + 1)))) q = -1 ∧ fro N h φ ((N (95 + (p * 3 + 0)))) ((N (95 + (p * 3 + 1)))) q ≤ y)) ∨ ((N 9 ≤ v ∧ v ≤ 299) ∧ (¬ fro N h φ ((N (95 + (p * 3 + 0)))) ((N (95 + (p * 3 + 1)))) v = -1 ∧ fro N h φ ((N (95 + (p * 3 + 0)))) ((N (95 + (p * 3 + 1)))) v ≤ y) ∧ ∀ q : Int, v < q → q ≤ 299 → ¬ (¬ fro N h φ ((N (95 + (p * 3 + 0)))) ((N (95 + (p * 3 + 1)))) q = -1 ∧ fro N h φ ((N (95 + (p * 3 + 0)))) ((N (95 + (p * 3 + 1)))) q ≤ y))
theorem LATA_u {N h : Int → Int} {φ : Int → Int → Int → Int} {p y v v2 : Int} (a : LATA N h φ p y v) (b : LATA N h φ p y v2) : v = v2 := by
  rcases a with ⟨a1, a2⟩ | ⟨a1, a2, a3⟩
  · rcases b with ⟨b1, b2⟩ | ⟨b1, b2, b3⟩
    · omega
    · exact absurd b2 (a2 v2 b1.1 b1.2)
  · rcases b with ⟨b1, b2⟩ | ⟨b1, b2, b3⟩
    · exact absurd a2 (b2 v a1.1 a1.2)
    · rcases Int.lt_trichotomy v v2 with h | h | h
      · exact absurd b2 (a3 v2 h b1.2)
      · exact h
      · exact absurd a2 (b3 v h a1.2)
section TH63
variable {X : Int → Int} {LX d bc bs n : Nat} {K : gm_K} {R : gm_R} {M : gm_M} {Q : gm_Q} {N h : Int → Int} {sp : Int → Int → Int} {FI : gm_M → Prop} {φ : Int → Int → Int → Int} {l lane row year y p w x k c v a b t : Int}
theorem fo_30l (hd : 15 ≤ d) (hE : E0 n K R) (hT : TI N h sp M) (hN : NR N) (hfw : FLW X LX n K R N h sp FI φ) (hI : FI M) (g2 : M 206 2 = lane) (g3 : M 206 3 = 0) (g4 : M 206 4 = -1) (g5 : M 206 5 = row) (g6 : M 206 6 = 0) (g7 : M 206 7 = y) (y9 : 0 ≤ y ∧ y ≤ 299) (b2 : 0 ≤ lane ∧ lane < N 0) (b5 : 0 ≤ row ∧ row ≤ 300) (hl : -1 ≤ x ∧ x ≤ 299) (hq1 : ¬ fro N h φ lane row y = -1 → fro N h φ lane row y ≤ x → ∀ M2, fr [(206, some 5), (206, some 6), (206, some 7), (206, some 8), (200, some 6), (204, none), (205, none)] M M2 → FI M2 → Q (.inl (some (gm_vi (fro N h φ lane row y)))) n K R M2) (hq0 : (fro N h φ lane row y = -1 ∨ x < fro N h φ lane row y) → ∀ M2, fr [(206, some 5), (206, some 6), (206, some 7), (206, some 8), (200, some 6), (204, none), (205, none)] M M2 → FI M2 → Q (.inl (some (gm_vi (-1)))) n K R M2) : gm_Wp X LX d bc bs 30 0 (gm_ent 30 [gm_vr 206, gm_vi x]) [] n K R M Q := by
  have fb := fro_b (N := N) (h := h) (φ := φ) (lane := lane) (row := row) y9.1
  refine wy_c30_206 (lane := lane) (rock := 0) (wo := -1) (r0 := row) (y0 := y) (lim := x) hd hE hT hN hfw hI g2 g3 g4 g5 g6 g7 y9.1 b2 ⟨by decide, by decide⟩ ⟨by decide, by decide⟩ b5 y9.2 hl.2 hl.1 (fun j M2 hf hI2 g1 g8 g9 _ _ => ?_) (fun M2 hf hI2 g1 => ?_)
  · have e : y + (j : Int) = fro N h φ lane row y := FRO_u (Or.inr ⟨j, by omega, rfl, g8, g9⟩) fro_s
    rw [e]
    exact hq1 (by omega) (by omega) M2 hf hI2
  · refine hq0 ?_ M2 hf hI2
    rcases fro_s (N := N) (h := h) (φ := φ) (lane := lane) (row := row) (y := y) with ⟨a, b⟩ | ⟨j, a, b, c, e⟩
    · exact Or.inl a
    · refine Or.inr ?_
      by_cases hj : y + (j : Int) ≤ x
      · have := g1 j hj
        omega
      · omega
theorem hu_c (hd : 20 ≤ d) (hE : E0 n K R) (hT : TI N h sp M) (hN : NR N) (hfw : FLW X LX n K R N h sp FI φ) (hI : FI M) (hl : 0 ≤ lane ∧ lane < N 0) (hx : 1 ≤ x ∧ x ≤ 299) (ha : a = min 299 (N 9 + x)) (hq : ∀ v, HUTA N h φ lane x v → ∀ M2, Q (.inl (some (gm_vi v))) n K R M2) : ∀ (u k : Nat) (z : Option gm_V) (M1 : gm_M), (k : Int) + (u : Int) = N 1 → (∀ i : Nat, i < k → ¬ (¬ fro N h φ lane ((i : Nat) : Int) (N 9) = -1 ∧ fro N h φ lane ((i : Nat) : Int) (N 9) ≤ N 9 + x)) → fr [(206, some 2), (206, some 3), (206, some 4), (206, some 5), (206, some 6), (206, some 7), (206, some 8), (200, some 6), (204, none), (205, none)] M M1 → FI M1 → gm_Wp X LX d bc bs 172 47 [some (gm_vr 1), some (gm_vi lane), some (gm_vi x), some (gm_vi a), some (gm_vi (k : Int))] [] n K R M1 Q := by
  obtain ⟨⟨⟨a0, b0⟩, ⟨a1, b1⟩, ⟨a10, b10⟩, ⟨a11, b11⟩, ⟨a12, b12⟩, a9, b9⟩, ⟨⟨a2, b2⟩, ⟨a5, b5⟩, ⟨a3, b3⟩, ⟨a4, b4⟩, ⟨a6, b6⟩, ⟨a14, b14⟩, ⟨a7, b7⟩, a13, b13⟩, rF, rP, rL⟩ := id hN
  intro u
  induction u with
  | zero =>
    intro k z M1 hk hp hf hI1
    refine gm_sz (gm_p_load (pc := 47) (i := .iload 4) (sr := 0) (j := 4) (by decide +kernel) rfl rfl rfl) ?_
    refine gm_sz (gm_p_load (pc := 49) (i := .aload_n 0) (sr := 2) (j := 0) (by decide +kernel) rfl rfl rfl) ?_
    refine gm_sz (fw_gr (pc := 50) (ix := 23) (ci := 0) (j := 3) (r := 3) (by decide +kernel) (e0k hE (k := 1) (c := 0) (by decide +kernel)) (by decide +kernel) (by decide +kernel) (e0r hE (k := 1) (j := 3) (r := 3) (by decide +kernel))) ?_
    refine gm_sz (fw_gi (pc := 53) (ix := 226) (ci := 1) (j := 1) (x := N 1) (by decide +kernel) (e0k hE (k := 3) (c := 1) (by decide +kernel)) (by decide +kernel) (by decide +kernel) ((fr_c hf (by decide)).trans (ti_las hT))) ?_
    refine fw_ict (cc := .ge) (pc := 56) (off := 42) (by decide +kernel) (by decide) ⟨by omega, by omega⟩ ⟨by omega, by omega⟩ (show (N 1) ≤ (k : Int) by omega) ?_
    refine gm_sz (gm_p_const (pc := 98) (i := .iconst (-1)) (v := gm_vi (-1)) (by decide +kernel) (by decide +kernel)) ?_
    exact gm_r_int (pc := 99) (by decide +kernel) (Or.inl (by decide +kernel)) (hq _ (Or.inl ⟨rfl, fun i i1 => hp i (by omega)⟩) _)
  | succ u ih =>
    intro k z M1 hk hp hf hI1
    refine gm_sz (gm_p_load (pc := 47) (i := .iload 4) (sr := 0) (j := 4) (by decide +kernel) rfl rfl rfl) ?_
    refine gm_sz (gm_p_load (pc := 49) (i := .aload_n 0) (sr := 2) (j := 0) (by decide +kernel) rfl rfl rfl) ?_
    refine gm_sz (fw_gr (pc := 50) (ix := 23) (ci := 0) (j := 3) (r := 3) (by decide +kernel) (e0k hE (k := 1) (c := 0) (by decide +kernel)) (by decide +kernel) (by decide +kernel) (e0r hE (k := 1) (j := 3) (r := 3) (by decide +kernel))) ?_
    refine gm_sz (fw_gi (pc := 53) (ix := 226) (ci := 1) (j := 1) (x := N 1) (by decide +kernel) (e0k hE (k := 3) (c := 1) (by decide +kernel)) (by decide +kernel) (by decide +kernel) ((fr_c hf (by decide)).trans (ti_las hT))) ?_
    refine fw_icf (cc := .ge) (pc := 56) (off := 42) (by decide +kernel) (by decide) ⟨by omega, by omega⟩ ⟨by omega, by omega⟩ (show ¬ (N 1) ≤ (k : Int) by omega) ?_
    refine gm_sz (gm_p_load (pc := 59) (i := .aload_n 0) (sr := 2) (j := 0) (by decide +kernel) rfl rfl rfl) ?_
    refine gm_sz (fw_gr (pc := 60) (ix := 58) (ci := 0) (j := 9) (r := 206) (by decide +kernel) (e0k hE (k := 1) (c := 0) (by decide +kernel)) (by decide +kernel) (by decide +kernel) (e0r hE (k := 1) (j := 9) (r := 206) (by decide +kernel))) ?_
    refine gm_sz (gm_p_load (pc := 63) (i := .iload_n 1) (sr := 0) (j := 1) (by decide +kernel) rfl rfl rfl) ?_
    refine gm_sz (gm_p_load (pc := 64) (i := .iload 4) (sr := 0) (j := 4) (by decide +kernel) rfl rfl rfl) ?_
    refine gm_sz (gm_p_load (pc := 66) (i := .aload_n 0) (sr := 2) (j := 0) (by decide +kernel) rfl rfl rfl) ?_
    refine gm_sz (fw_gr (pc := 67) (ix := 23) (ci := 0) (j := 3) (r := 3) (by decide +kernel) (e0k hE (k := 1) (c := 0) (by decide +kernel)) (by decide +kernel) (by decide +kernel) (e0r hE (k := 1) (j := 3) (r := 3) (by decide +kernel))) ?_
    refine gm_sz (fw_gi (pc := 70) (ix := 269) (ci := 1) (j := 6) (x := N 9) (by decide +kernel) (e0k hE (k := 3) (c := 1) (by decide +kernel)) (by decide +kernel) (by decide +kernel) ((fr_c hf (by decide)).trans (ti_now hT))) ?_
    refine gm_sz (gm_p_const (pc := 73) (i := .iconst 0) (v := gm_vi 0) (by decide +kernel) (by decide +kernel)) ?_
    refine gm_c_virt (k := 206) (ci := 5) (mj := 29) (ix := 291) (pc := 74) (as := [gm_vi lane, gm_vi (k : Int), gm_vi (N 9), gm_vi 0]) (st := []) (d' := d - 1) (bc' := 0) (bs' := 0) (by decide +kernel) (by decide +kernel) (by decide +kernel) (by decide +kernel) (e0k hE (k := 206) (c := 5) (by decide +kernel)).1 (e0k hE (k := 206) (c := 5) (by decide +kernel)).2 (by decide) (by decide +kernel) (show 4 = gm_na 29 by decide +kernel) (fw_c4 fw_si fw_si fw_si fw_si) (show 5 ≤ gm_ml 29 by decide +kernel) (Nat.le_of_ble_eq_true rfl) (by omega) (Nat.zero_le _) (Nat.zero_le _) ?_
    refine wy_st206 hE (ti_fr (W := [(206, some 2), (206, some 3), (206, some 4), (206, some 5), (206, some 6), (206, some 7), (206, some 8), (200, some 6), (204, none), (205, none)]) hT (fr_t fr_0 hf (by decide)) (by decide) (by decide +kernel)) hN (by first | omega | (split <;> decide)) ?_
    show gm_Wp X LX d _ _ 172 77 _ [] n K _ _ Q
    refine gm_sz (gm_p_load (pc := 77) (i := .aload_n 0) (sr := 2) (j := 0) (by decide +kernel) rfl rfl rfl) ?_
    refine gm_sz (fw_gr (pc := 78) (ix := 58) (ci := 0) (j := 9) (r := 206) (by decide +kernel) (e0k hE (k := 1) (c := 0) (by decide +kernel)) (by decide +kernel) (by decide +kernel) (e0r hE (k := 1) (j := 9) (r := 206) (by decide +kernel))) ?_
    refine gm_sz (gm_p_load (pc := 81) (i := .iload_n 3) (sr := 0) (j := 3) (by decide +kernel) rfl rfl rfl) ?_
    refine gm_c_virt (k := 206) (ci := 5) (mj := 30) (ix := 295) (pc := 82) (as := [gm_vi a]) (st := []) (d' := d - 1) (bc' := 0) (bs' := 0) (by decide +kernel) (by decide +kernel) (by decide +kernel) (by decide +kernel) (e0k hE (k := 206) (c := 5) (by decide +kernel)).1 (e0k hE (k := 206) (c := 5) (by decide +kernel)).2 (by decide) (by decide +kernel) (show 1 = gm_na 30 by decide +kernel) (fw_c1 fw_si) (show 2 ≤ gm_ml 30 by decide +kernel) (Nat.le_of_ble_eq_true rfl) (by omega) (Nat.zero_le _) (Nat.zero_le _) ?_
    refine fo_30l (lane := lane) (row := (k : Int)) (y := (N 9)) (x := a) (by omega) hE (ti_fr (W := [(206, some 2), (206, some 3), (206, some 4), (206, some 5), (206, some 6), (206, some 7), (206, some 8), (200, some 6), (204, none), (205, none)]) hT (fr_p (fr_p (fr_p (fr_p (fr_p (fr_p (fr_p (fr_t fr_0 hf (by decide)) (Or.inr (by decide))) (Or.inr (by decide))) (Or.inr (by decide))) (Or.inr (by decide))) (Or.inr (by decide))) (Or.inr (by decide))) (Or.inr (by decide))) (by decide) (by decide +kernel)) hN hfw (hfw.2.1 [(206, some 2), (206, some 5), (206, some 7), (206, some 3), (206, some 4), (206, some 6), (206, some 8)] _ _ (by decide) (fr_p (fr_p (fr_p (fr_p (fr_p (fr_p (fr_p fr_0 (Or.inr (by decide))) (Or.inr (by decide))) (Or.inr (by decide))) (Or.inr (by decide))) (Or.inr (by decide))) (Or.inr (by decide))) (Or.inr (by decide))) hI1) ((uM_ne (by omega)).trans ((uM_ne (by omega)).trans ((uM_ne (by omega)).trans ((uM_ne (by omega)).trans ((uM_ne (by omega)).trans ((uM_ne (by omega)).trans uM_at)))))) ((uM_ne (by omega)).trans ((uM_ne (by omega)).trans ((uM_ne (by omega)).trans uM_at))) ((uM_ne (by omega)).trans ((uM_ne (by omega)).trans uM_at)) ((uM_ne (by omega)).trans ((uM_ne (by omega)).trans ((uM_ne (by omega)).trans ((uM_ne (by omega)).trans ((uM_ne (by omega)).trans uM_at))))) ((uM_ne (by omega)).trans uM_at) ((uM_ne (by omega)).trans ((uM_ne (by omega)).trans ((uM_ne (by omega)).trans ((uM_ne (by omega)).trans uM_at)))) ⟨by omega, by omega⟩ ⟨by omega, by omega⟩ ⟨by omega, by omega⟩ ⟨by omega, by omega⟩ (fun w1 w2 M30 hf30 hI30 => ?_) (fun w1 M30 hf30 hI30 => ?_)
    · show gm_Wp X LX d _ _ 172 85 _ [gm_vi (fro N h φ lane (k : Int) (N 9))] n K _ _ Q
      have w1 : ¬ fro N h φ lane (k : Int) (N 9) = -1 := w1
      have w2 : fro N h φ lane (k : Int) (N 9) ≤ a := w2
      have fb := fro_b (N := N) (h := h) (φ := φ) (lane := lane) (row := (k : Int)) (y := (N 9)) (by omega)
      refine gm_sz (gm_p_const (pc := 85) (i := .iconst (-1)) (v := gm_vi (-1)) (by decide +kernel) (by decide +kernel)) ?_
      refine fw_ic (cc := .eq) (pc := 86) (off := 6) (by decide +kernel) (by decide) ⟨by omega, by omega⟩ ⟨by decide, by decide⟩ (fun h86 => ?_) (fun h86 => ?_)
      · have h86 : (fro N h φ lane (k : Int) (N 9)) = (-1) := h86
        refine gm_sz (gm_p_iinc (pc := 92) (j := 4) (z := 1) (by decide +kernel) rfl) ?_
        refine gm_sz (gm_p_goto (pc := 95) (off := (-48)) (by decide +kernel) (by decide)) ?_
        have hn9 : ¬ (¬ fro N h φ lane (k : Int) (N 9) = -1 ∧ fro N h φ lane (k : Int) (N 9) ≤ N 9 + x) := by omega
        have hp2 : ∀ i : Nat, i < k + 1 → ¬ (¬ fro N h φ lane ((i : Nat) : Int) (N 9) = -1 ∧ fro N h φ lane ((i : Nat) : Int) (N 9) ≤ N 9 + x) := fun i hi => by
          by_cases e : i = k
          · subst e; exact hn9
          · exact hp i (by omega)
        have h9 := ih (k + 1) z _ (by omega) hp2 (fr_t (fr_p (fr_p (fr_p (fr_p (fr_p (fr_p (fr_p (fr_t fr_0 hf (by decide)) (Or.inr (by decide))) (Or.inr (by decide))) (Or.inr (by decide))) (Or.inr (by decide))) (Or.inr (by decide))) (Or.inr (by decide))) (Or.inr (by decide))) hf30 (by decide)) hI30
        rw [show (((k + 1 : Nat) : Nat) : Int) = (k : Int) + 1 by omega] at h9
        exact h9
      · have h86 : ¬ (fro N h φ lane (k : Int) (N 9)) = (-1) := h86
        refine gm_sz (gm_p_load (pc := 89) (i := .iload 4) (sr := 0) (j := 4) (by decide +kernel) rfl rfl rfl) ?_
        exact gm_r_int (pc := 91) (by decide +kernel) (Or.inl (by decide +kernel)) (hq _ (Or.inr ⟨k, by omega, rfl, ⟨by omega, by omega⟩, hp⟩) _)
    · show gm_Wp X LX d _ _ 172 85 _ [gm_vi (-1)] n K _ _ Q
      have w1 : fro N h φ lane (k : Int) (N 9) = -1 ∨ a < fro N h φ lane (k : Int) (N 9) := w1
      have fb := fro_b (N := N) (h := h) (φ := φ) (lane := lane) (row := (k : Int)) (y := (N 9)) (by omega)
      refine gm_sz (gm_p_const (pc := 85) (i := .iconst (-1)) (v := gm_vi (-1)) (by decide +kernel) (by decide +kernel)) ?_
      refine fw_ictd (cc := .eq) (pc := 86) (off := 6) (by decide +kernel) (by decide) ⟨by decide, by decide⟩ ⟨by decide, by decide⟩ (by decide) ?_
      refine gm_sz (gm_p_iinc (pc := 92) (j := 4) (z := 1) (by decide +kernel) rfl) ?_
      refine gm_sz (gm_p_goto (pc := 95) (off := (-48)) (by decide +kernel) (by decide)) ?_
      have hn9 : ¬ (¬ fro N h φ lane (k : Int) (N 9) = -1 ∧ fro N h φ lane (k : Int) (N 9) ≤ N 9 + x) := by omega
      have hp2 : ∀ i : Nat, i < k + 1 → ¬ (¬ fro N h φ lane ((i : Nat) : Int) (N 9) = -1 ∧ fro N h φ lane ((i : Nat) : Int) (N 9) ≤ N 9 + x) := fun i hi => by
        by_cases e : i = k
        · subst e; exact hn9
        · exact hp i (by omega)
      have h9 := ih (k + 1) z _ (by omega) hp2 (fr_t (fr_p (fr_p (fr_p (fr_p (fr_p (fr_p (fr_p (fr_t fr_0 hf (by decide)) (Or.inr (by decide))) (Or.inr (by decide))) (Or.inr (by decide))) (Or.inr (by decide))) (Or.inr (by decide))) (Or.inr (by decide))) (Or.inr (by decide))) hf30 (by decide)) hI30
      rw [show (((k + 1 : Nat) : Nat) : Int) = (k : Int) + 1 by omega] at h9
      exact h9
theorem hu_r (hd : 20 ≤ d) (hE : E0 n K R) (hT : TR N h M) (hN : NR N) (hfw : FLR X LX n K R N h FI φ) (hI : FI M) (hl : 0 ≤ lane ∧ lane < N 0) (hx : 1 ≤ x ∧ x ≤ 299) (hq : ∀ v, HUTA N h φ lane x v → ∀ M2, M2 226 0 = 0 → Q (.inl (some (gm_vi v))) n K R M2) : ∀ (u k : Nat) (z : Option gm_V) (M1 : gm_M), (k : Int) + (u : Int) = N 1 → (∀ i : Nat, i < k → ¬ (¬ fro N h φ lane ((i : Nat) : Int) (N 9) = -1 ∧ fro N h φ lane ((i : Nat) : Int) (N 9) ≤ N 9 + x)) → fr [(226, some 0), (226, some 29), (226, some 30), (226, some 26), (226, some 17), (226, some 18), (226, some 19), (226, some 20), (226, some 21), (226, some 22), (226, some 23), (235, none), (233, none), (236, none), (237, none)] M M1 → FI M1 → M1 226 0 = 0 → gm_Wp X LX d bc bs 327 46 [some (gm_vr 226), some (gm_vi lane), some (gm_vi x), some (gm_vi (k : Int)), z] [] n K R M1 Q := by
  obtain ⟨⟨⟨a0, b0⟩, ⟨a1, b1⟩, ⟨a10, b10⟩, ⟨a11, b11⟩, ⟨a12, b12⟩, a9, b9⟩, ⟨⟨a2, b2⟩, ⟨a5, b5⟩, ⟨a3, b3⟩, ⟨a4, b4⟩, ⟨a6, b6⟩, ⟨a14, b14⟩, ⟨a7, b7⟩, a13, b13⟩, rF, rP, rL⟩ := id hN
  intro u
  induction u with
  | zero =>
    intro k z M1 hk hp hf hI1 h0
    refine gm_sz (gm_p_load (pc := 46) (i := .iload_n 3) (sr := 0) (j := 3) (by decide +kernel) rfl rfl rfl) ?_
    refine gm_sz (gm_p_load (pc := 47) (i := .aload_n 0) (sr := 2) (j := 0) (by decide +kernel) rfl rfl rfl) ?_
    refine gm_c_virt (k := 226) (ci := 11) (mj := 259) (ix := 94) (pc := 48) (as := []) (st := [gm_vi (k : Int)]) (d' := d - 1) (bc' := 0) (bs' := 0) (by decide +kernel) (by decide +kernel) (by decide +kernel) (by decide +kernel) (e0k hE (k := 226) (c := 11) (by decide +kernel)).1 (e0k hE (k := 226) (c := 11) (by decide +kernel)).2 (by decide) (by decide +kernel) (show 0 = gm_na 259 by decide +kernel) fw_c0 (show 1 ≤ gm_ml 259 by decide +kernel) (Nat.le_of_ble_eq_true rfl) (by omega) (Nat.zero_le _) (Nat.zero_le _) ?_
    refine re_lip hE (tr_fr (W := [(226, some 0), (226, some 29), (226, some 30), (226, some 26), (226, some 17), (226, some 18), (226, some 19), (226, some 20), (226, some 21), (226, some 22), (226, some 23), (235, none), (233, none), (236, none), (237, none)]) hT (fr_t fr_0 hf (by decide)) (by decide)) hN ?_
    show gm_Wp X LX d _ _ 327 51 _ [gm_vi (N 1), gm_vi (k : Int)] n K _ _ Q
    refine fw_ict (cc := .ge) (pc := 51) (off := 39) (by decide +kernel) (by decide) ⟨by omega, by omega⟩ ⟨by omega, by omega⟩ (show (N 1) ≤ (k : Int) by omega) ?_
    refine gm_sz (gm_p_const (pc := 90) (i := .iconst (-1)) (v := gm_vi (-1)) (by decide +kernel) (by decide +kernel)) ?_
    exact gm_r_int (pc := 91) (by decide +kernel) (Or.inl (by decide +kernel)) (hq _ (Or.inl ⟨rfl, fun i i1 => hp i (by omega)⟩) _ h0)
  | succ u ih =>
    intro k z M1 hk hp hf hI1 h0
    refine gm_sz (gm_p_load (pc := 46) (i := .iload_n 3) (sr := 0) (j := 3) (by decide +kernel) rfl rfl rfl) ?_
    refine gm_sz (gm_p_load (pc := 47) (i := .aload_n 0) (sr := 2) (j := 0) (by decide +kernel) rfl rfl rfl) ?_
    refine gm_c_virt (k := 226) (ci := 11) (mj := 259) (ix := 94) (pc := 48) (as := []) (st := [gm_vi (k : Int)]) (d' := d - 1) (bc' := 0) (bs' := 0) (by decide +kernel) (by decide +kernel) (by decide +kernel) (by decide +kernel) (e0k hE (k := 226) (c := 11) (by decide +kernel)).1 (e0k hE (k := 226) (c := 11) (by decide +kernel)).2 (by decide) (by decide +kernel) (show 0 = gm_na 259 by decide +kernel) fw_c0 (show 1 ≤ gm_ml 259 by decide +kernel) (Nat.le_of_ble_eq_true rfl) (by omega) (Nat.zero_le _) (Nat.zero_le _) ?_
    refine re_lip hE (tr_fr (W := [(226, some 0), (226, some 29), (226, some 30), (226, some 26), (226, some 17), (226, some 18), (226, some 19), (226, some 20), (226, some 21), (226, some 22), (226, some 23), (235, none), (233, none), (236, none), (237, none)]) hT (fr_t fr_0 hf (by decide)) (by decide)) hN ?_
    show gm_Wp X LX d _ _ 327 51 _ [gm_vi (N 1), gm_vi (k : Int)] n K _ _ Q
    refine fw_icf (cc := .ge) (pc := 51) (off := 39) (by decide +kernel) (by decide) ⟨by omega, by omega⟩ ⟨by omega, by omega⟩ (show ¬ (N 1) ≤ (k : Int) by omega) ?_
    refine gm_sz (gm_p_load (pc := 54) (i := .aload_n 0) (sr := 2) (j := 0) (by decide +kernel) rfl rfl rfl) ?_
    refine gm_sz (gm_p_load (pc := 55) (i := .iload_n 1) (sr := 0) (j := 1) (by decide +kernel) rfl rfl rfl) ?_
    refine gm_sz (gm_p_load (pc := 56) (i := .iload_n 3) (sr := 0) (j := 3) (by decide +kernel) rfl rfl rfl) ?_
    refine gm_sz (gm_p_load (pc := 57) (i := .aload_n 0) (sr := 2) (j := 0) (by decide +kernel) rfl rfl rfl) ?_
    refine gm_c_virt (k := 226) (ci := 11) (mj := 266) (ix := 162) (pc := 58) (as := []) (st := [gm_vi (k : Int), gm_vi lane, gm_vr 226]) (d' := d - 1) (bc' := 0) (bs' := 0) (by decide +kernel) (by decide +kernel) (by decide +kernel) (by decide +kernel) (e0k hE (k := 226) (c := 11) (by decide +kernel)).1 (e0k hE (k := 226) (c := 11) (by decide +kernel)).2 (by decide) (by decide +kernel) (show 0 = gm_na 266 by decide +kernel) fw_c0 (show 1 ≤ gm_ml 266 by decide +kernel) (Nat.le_of_ble_eq_true rfl) (by omega) (Nat.zero_le _) (Nat.zero_le _) ?_
    refine re_now hE (tr_fr (W := [(226, some 0), (226, some 29), (226, some 30), (226, some 26), (226, some 17), (226, some 18), (226, some 19), (226, some 20), (226, some 21), (226, some 22), (226, some 23), (235, none), (233, none), (236, none), (237, none)]) hT (fr_t fr_0 hf (by decide)) (by decide)) hN ?_
    show gm_Wp X LX d _ _ 327 61 _ [gm_vi (N 9), gm_vi (k : Int), gm_vi lane, gm_vr 226] n K _ _ Q
    refine gm_c_virt (k := 226) (ci := 11) (mj := 325) (ix := 425) (pc := 61) (as := [gm_vi lane, gm_vi (k : Int), gm_vi (N 9)]) (st := []) (d' := d - 1) (bc' := 0) (bs' := 0) (by decide +kernel) (by decide +kernel) (by decide +kernel) (by decide +kernel) (e0k hE (k := 226) (c := 11) (by decide +kernel)).1 (e0k hE (k := 226) (c := 11) (by decide +kernel)).2 (by decide) (by decide +kernel) (show 3 = gm_na 325 by decide +kernel) (fw_c3 fw_si fw_si fw_si) (show 4 ≤ gm_ml 325 by decide +kernel) (Nat.le_of_ble_eq_true rfl) (by omega) (Nat.zero_le _) (Nat.zero_le _) ?_
    refine ou_325 (lane := lane) (row := (k : Int)) (y := (N 9)) (by omega) hE (tr_fr (W := [(226, some 0), (226, some 29), (226, some 30), (226, some 26), (226, some 17), (226, some 18), (226, some 19), (226, some 20), (226, some 21), (226, some 22), (226, some 23), (235, none), (233, none), (236, none), (237, none)]) hT (fr_t fr_0 hf (by decide)) (by decide)) hN hfw hI1 ⟨by omega, by omega⟩ ⟨by omega, by omega⟩ ⟨by omega, by omega⟩ (fun M25 hf25 hI25 => ?_)
    show gm_Wp X LX d _ _ 327 64 _ [gm_vi (fro N h φ lane (k : Int) (N 9))] n K _ _ Q
    have fb := fro_b (N := N) (h := h) (φ := φ) (lane := lane) (row := (k : Int)) (y := (N 9)) (by omega)
    refine gm_sz (gm_p_stor (pc := 64) (i := .istore 4) (sr := 0) (j := 4) (by decide +kernel) rfl (show 5 ≤ _ from Nat.le_of_ble_eq_true rfl) rfl) ?_
    refine gm_sz (gm_p_load (pc := 66) (i := .iload 4) (sr := 0) (j := 4) (by decide +kernel) rfl rfl rfl) ?_
    refine fw_if (cc := .lt) (pc := 68) (off := 16) (by decide +kernel) (by decide) ⟨by omega, by omega⟩ (fun h68 => ?_) (fun h68 => ?_)
    · have h68 : (fro N h φ lane (k : Int) (N 9)) < 0 := h68
      refine gm_sz (gm_p_iinc (pc := 84) (j := 3) (z := 1) (by decide +kernel) rfl) ?_
      refine gm_sz (gm_p_goto (pc := 87) (off := (-41)) (by decide +kernel) (by decide)) ?_
      have hn9 : ¬ (¬ fro N h φ lane (k : Int) (N 9) = -1 ∧ fro N h φ lane (k : Int) (N 9) ≤ N 9 + x) := by omega
      have hp2 : ∀ i : Nat, i < k + 1 → ¬ (¬ fro N h φ lane ((i : Nat) : Int) (N 9) = -1 ∧ fro N h φ lane ((i : Nat) : Int) (N 9) ≤ N 9 + x) := fun i hi => by
        by_cases e : i = k
        · subst e; exact hn9
        · exact hp i (by omega)
      have h9 := ih (k + 1) (some (gm_vi (fro N h φ lane (k : Int) (N 9)))) _ (by omega) hp2 (fr_t (fr_t fr_0 hf (by decide)) hf25 (by decide)) hI25 ((fr_j hf25 (by decide)).trans h0)
      rw [show (((k + 1 : Nat) : Nat) : Int) = (k : Int) + 1 by omega] at h9
      exact h9
    · have h68 : ¬ (fro N h φ lane (k : Int) (N 9)) < 0 := h68
      refine gm_sz (gm_p_load (pc := 71) (i := .iload 4) (sr := 0) (j := 4) (by decide +kernel) rfl rfl rfl) ?_
      refine gm_sz (gm_p_load (pc := 73) (i := .aload_n 0) (sr := 2) (j := 0) (by decide +kernel) rfl rfl rfl) ?_
      refine gm_c_virt (k := 226) (ci := 11) (mj := 266) (ix := 162) (pc := 74) (as := []) (st := [gm_vi (fro N h φ lane (k : Int) (N 9))]) (d' := d - 1) (bc' := 0) (bs' := 0) (by decide +kernel) (by decide +kernel) (by decide +kernel) (by decide +kernel) (e0k hE (k := 226) (c := 11) (by decide +kernel)).1 (e0k hE (k := 226) (c := 11) (by decide +kernel)).2 (by decide) (by decide +kernel) (show 0 = gm_na 266 by decide +kernel) fw_c0 (show 1 ≤ gm_ml 266 by decide +kernel) (Nat.le_of_ble_eq_true rfl) (by omega) (Nat.zero_le _) (Nat.zero_le _) ?_
      refine re_now hE (tr_fr (W := [(226, some 0), (226, some 29), (226, some 30), (226, some 26), (226, some 17), (226, some 18), (226, some 19), (226, some 20), (226, some 21), (226, some 22), (226, some 23), (235, none), (233, none), (236, none), (237, none)]) hT (fr_t (fr_t fr_0 hf (by decide)) hf25 (by decide)) (by decide)) hN ?_
      show gm_Wp X LX d _ _ 327 77 _ [gm_vi (N 9), gm_vi (fro N h φ lane (k : Int) (N 9))] n K _ _ Q
      refine gm_sz (gm_p_load (pc := 77) (i := .iload_n 2) (sr := 0) (j := 2) (by decide +kernel) rfl rfl rfl) ?_
      refine gm_sz (gm_p_bin (pc := 78) (i := .iadd) (f := fun x y => x + y) (by decide +kernel) rfl) ?_
      refine fw_ic (cc := .gt) (pc := 79) (off := 5) (by decide +kernel) (by decide) ⟨by omega, by omega⟩ ⟨by omega, by omega⟩ (fun h79 => ?_) (fun h79 => ?_)
      · have h79 : ((N 9) + x) < (fro N h φ lane (k : Int) (N 9)) := h79
        refine gm_sz (gm_p_iinc (pc := 84) (j := 3) (z := 1) (by decide +kernel) rfl) ?_
        refine gm_sz (gm_p_goto (pc := 87) (off := (-41)) (by decide +kernel) (by decide)) ?_
        have hn9 : ¬ (¬ fro N h φ lane (k : Int) (N 9) = -1 ∧ fro N h φ lane (k : Int) (N 9) ≤ N 9 + x) := by omega
        have hp2 : ∀ i : Nat, i < k + 1 → ¬ (¬ fro N h φ lane ((i : Nat) : Int) (N 9) = -1 ∧ fro N h φ lane ((i : Nat) : Int) (N 9) ≤ N 9 + x) := fun i hi => by
          by_cases e : i = k
          · subst e; exact hn9
          · exact hp i (by omega)
        have h9 := ih (k + 1) (some (gm_vi (fro N h φ lane (k : Int) (N 9)))) _ (by omega) hp2 (fr_t (fr_t fr_0 hf (by decide)) hf25 (by decide)) hI25 ((fr_j hf25 (by decide)).trans h0)
        rw [show (((k + 1 : Nat) : Nat) : Int) = (k : Int) + 1 by omega] at h9
        exact h9
      · have h79 : ¬ ((N 9) + x) < (fro N h φ lane (k : Int) (N 9)) := h79
        refine gm_sz (gm_p_load (pc := 82) (i := .iload_n 3) (sr := 0) (j := 3) (by decide +kernel) rfl rfl rfl) ?_
        exact gm_r_int (pc := 83) (by decide +kernel) (Or.inl (by decide +kernel)) (hq _ (Or.inr ⟨k, by omega, rfl, ⟨by omega, by omega⟩, hp⟩) _ ((fr_j hf25 (by decide)).trans h0))
theorem cl_hut (hd : 20 ≤ d) (hbc : 4 ≤ bc) (hbs : 24 ≤ bs) (hE : E0 n K R) (hT : TI N h sp M) (hN : NR N) (hfw : FLW X LX n K R N h sp FI φ) (hI : FI M) (hi : gm_ir lane) (hi2 : gm_ir x) (kv : 0 ≤ lane ∧ lane < N 0 → 1 ≤ x ∧ x ≤ 299 → ∀ v, HUTA N h φ lane x v → ∀ M2, Q (.inl (some (gm_vi v))) n K R M2) (k3 : ¬ (0 ≤ lane ∧ lane < N 0) → Q (.inr 3) n K R M) (k0 : 0 ≤ lane ∧ lane < N 0 → ¬ (1 ≤ x ∧ x ≤ 299) → Q (.inr 0) n K R M) : gm_Wp X LX d bc bs 172 0 (gm_ent 172 [gm_vr 1, gm_vi lane, gm_vi x]) [] n K R M Q := by
  obtain ⟨⟨⟨a0, b0⟩, ⟨a1, b1⟩, ⟨a10, b10⟩, ⟨a11, b11⟩, ⟨a12, b12⟩, a9, b9⟩, ⟨⟨a2, b2⟩, ⟨a5, b5⟩, ⟨a3, b3⟩, ⟨a4, b4⟩, ⟨a6, b6⟩, ⟨a14, b14⟩, ⟨a7, b7⟩, a13, b13⟩, rF, rP, rL⟩ := id hN
  refine gm_sz (gm_p_load (pc := 0) (i := .aload_n 0) (sr := 2) (j := 0) (by decide +kernel) rfl rfl rfl) ?_
  refine gm_sz (gm_p_load (pc := 1) (i := .iload_n 1) (sr := 0) (j := 1) (by decide +kernel) rfl rfl rfl) ?_
  refine gm_c_virt (k := 1) (ci := 0) (mj := 132) (ix := 166) (pc := 2) (as := [gm_vi lane]) (st := []) (d' := d - 1) (bc' := 1) (bs' := 6) (by decide +kernel) (by decide +kernel) (by decide +kernel) (by decide +kernel) (e0k hE (k := 1) (c := 0) (by decide +kernel)).1 (e0k hE (k := 1) (c := 0) (by decide +kernel)).2 (by decide) (by decide +kernel) (show 1 = gm_na 132 by decide +kernel) (fw_c1 fw_si) (show 2 ≤ gm_ml 132 by decide +kernel) (Nat.le_of_ble_eq_true rfl) (by omega) (by omega) (by omega) ?_
  refine nd_132 (i := lane) (by omega) (by omega) (by omega) hE hT hN hi (fun c2 => ?_) (fun c2 => ?_)
  · show gm_Wp X LX d _ _ 172 5 _ [] n K _ _ Q
    have c2 : 0 ≤ lane ∧ lane < N 0 := c2
    refine gm_sz (gm_p_load (pc := 5) (i := .iload_n 2) (sr := 0) (j := 2) (by decide +kernel) rfl rfl rfl) ?_
    refine gm_sz (gm_p_const (pc := 6) (i := .iconst 1) (v := gm_vi 1) (by decide +kernel) (by decide +kernel)) ?_
    refine fw_ic (cc := .lt) (pc := 7) (off := 10) (by decide +kernel) (by decide) hi2 ⟨by decide, by decide⟩ (fun h7 => ?_) (fun h7 => ?_)
    · have h7 : x < 1 := h7
      exact gm_throw (ik := 121) (is := 301) (ic := 125) (x := 0) (id := 42) (lw := true) (by decide +kernel) (by decide +kernel) (by decide +kernel) (by decide +kernel) (by decide +kernel) (by decide +kernel) (by decide +kernel) (by decide +kernel) (Nat.le_of_ble_eq_true rfl) (by omega) (by omega) (by omega) (k0 ⟨by omega, by omega⟩ (by omega))
    · have h7 : ¬ x < 1 := h7
      refine gm_sz (gm_p_load (pc := 10) (i := .iload_n 2) (sr := 0) (j := 2) (by decide +kernel) rfl rfl rfl) ?_
      refine gm_sz (gm_p_const (pc := 11) (i := .sipush 299) (v := gm_vi 299) (by decide +kernel) (by decide +kernel)) ?_
      refine fw_ic (cc := .le) (pc := 14) (off := 14) (by decide +kernel) (by decide) hi2 ⟨by decide, by decide⟩ (fun h14 => ?_) (fun h14 => ?_)
      · have h14 : x ≤ 299 := h14
        refine gm_sz (gm_p_const (pc := 28) (i := .sipush 299) (v := gm_vi 299) (by decide +kernel) (by decide +kernel)) ?_
        refine gm_sz (gm_p_load (pc := 31) (i := .aload_n 0) (sr := 2) (j := 0) (by decide +kernel) rfl rfl rfl) ?_
        refine gm_sz (fw_gr (pc := 32) (ix := 23) (ci := 0) (j := 3) (r := 3) (by decide +kernel) (e0k hE (k := 1) (c := 0) (by decide +kernel)) (by decide +kernel) (by decide +kernel) (e0r hE (k := 1) (j := 3) (r := 3) (by decide +kernel))) ?_
        refine gm_sz (fw_gi (pc := 35) (ix := 269) (ci := 1) (j := 6) (x := N 9) (by decide +kernel) (e0k hE (k := 3) (c := 1) (by decide +kernel)) (by decide +kernel) (by decide +kernel) (ti_now hT)) ?_
        refine gm_sz (gm_p_load (pc := 38) (i := .iload_n 2) (sr := 0) (j := 2) (by decide +kernel) rfl rfl rfl) ?_
        refine gm_sz (gm_p_bin (pc := 39) (i := .iadd) (f := fun x y => x + y) (by decide +kernel) rfl) ?_
        refine gm_sz (gm_p_min (pc := 40) (ix := 229) (x := 299) (y := (N 9) + x) (by decide +kernel) (by decide +kernel) (gm_w_id (by omega) (by omega)) (gm_w_id (by omega) (by omega)) (Nat.le_of_ble_eq_true rfl) (by omega)) ?_
        refine gm_sz (gm_p_stor (pc := 43) (i := .istore_n 3) (sr := 0) (j := 3) (by decide +kernel) rfl (show 4 ≤ _ from Nat.le_of_ble_eq_true rfl) rfl) ?_
        refine gm_sz (gm_p_const (pc := 44) (i := .iconst 0) (v := gm_vi 0) (by decide +kernel) (by decide +kernel)) ?_
        refine gm_sz (gm_p_stor (pc := 45) (i := .istore 4) (sr := 0) (j := 4) (by decide +kernel) rfl (show 5 ≤ _ from Nat.le_of_ble_eq_true rfl) rfl) ?_
        exact hu_c hd hE hT hN hfw hI ⟨by omega, by omega⟩ ⟨by omega, by omega⟩ (by omega) (kv ⟨by omega, by omega⟩ ⟨by omega, by omega⟩) (N 1).toNat 0 none _ (by omega) (fun i hi => absurd hi (Nat.not_lt_zero _)) fr_0 hI
      · have h14 : ¬ x ≤ 299 := h14
        exact gm_throw (ik := 121) (is := 301) (ic := 125) (x := 0) (id := 42) (lw := true) (by decide +kernel) (by decide +kernel) (by decide +kernel) (by decide +kernel) (by decide +kernel) (by decide +kernel) (by decide +kernel) (by decide +kernel) (Nat.le_of_ble_eq_true rfl) (by omega) (by omega) (by omega) (k0 ⟨by omega, by omega⟩ (by omega))
  · show Q (.inr 3) n K _ _
    have c2 : ¬ (0 ≤ lane ∧ lane < N 0) := c2
    exact (k3 (by omega))
theorem re_hut (hd : 20 ≤ d) (hE : E0 n K R) (hT : TR N h M) (hN : NR N) (hfw : FLR X LX n K R N h FI φ) (hI : FI M) (hi : gm_ir lane) (hi2 : gm_ir x) (kv : 0 ≤ lane ∧ lane < N 0 → 1 ≤ x ∧ x ≤ 299 → ∀ v, HUTA N h φ lane x v → ∀ M2, M2 226 0 = 0 → Q (.inl (some (gm_vi v))) n K R M2) (k1 : ¬ (0 ≤ lane ∧ lane < N 0) → ∀ M2, M2 226 0 = 1 → Q (.inl (some (gm_vi 0))) n K R M2) (k2 : 0 ≤ lane ∧ lane < N 0 → ¬ (1 ≤ x ∧ x ≤ 299) → ∀ M2, M2 226 0 = 2 → Q (.inl (some (gm_vi 0))) n K R M2) : gm_Wp X LX d bc bs 327 0 (gm_ent 327 [gm_vr 226, gm_vi lane, gm_vi x]) [] n K R M Q := by
  obtain ⟨⟨⟨a0, b0⟩, ⟨a1, b1⟩, ⟨a10, b10⟩, ⟨a11, b11⟩, ⟨a12, b12⟩, a9, b9⟩, ⟨⟨a2, b2⟩, ⟨a5, b5⟩, ⟨a3, b3⟩, ⟨a4, b4⟩, ⟨a6, b6⟩, ⟨a14, b14⟩, ⟨a7, b7⟩, a13, b13⟩, rF, rP, rL⟩ := id hN
  refine gm_sz (gm_p_load (pc := 0) (i := .aload_n 0) (sr := 2) (j := 0) (by decide +kernel) rfl rfl rfl) ?_
  refine gm_sz (gm_p_const (pc := 1) (i := .iconst 0) (v := gm_vi 0) (by decide +kernel) (by decide +kernel)) ?_
  refine gm_sz (fw_pi (pc := 2) (ix := 3) (ci := 11) (j := 0) (M' := gm_uM M 226 0 0) (by decide +kernel) (e0k hE (k := 226) (c := 11) (by decide +kernel)) (by decide +kernel) (by decide +kernel) (by decide +kernel) rfl) ?_
  refine gm_sz (gm_p_load (pc := 5) (i := .aload_n 0) (sr := 2) (j := 0) (by decide +kernel) rfl rfl rfl) ?_
  refine gm_sz (gm_p_load (pc := 6) (i := .aload_n 0) (sr := 2) (j := 0) (by decide +kernel) rfl rfl rfl) ?_
  refine gm_sz (gm_p_load (pc := 7) (i := .iload_n 1) (sr := 0) (j := 1) (by decide +kernel) rfl rfl rfl) ?_
  refine gm_c_virt (k := 226) (ci := 11) (mj := 288) (ix := 356) (pc := 8) (as := [gm_vi lane]) (st := [gm_vr 226]) (d' := d - 1) (bc' := 0) (bs' := 0) (by decide +kernel) (by decide +kernel) (by decide +kernel) (by decide +kernel) (e0k hE (k := 226) (c := 11) (by decide +kernel)).1 (e0k hE (k := 226) (c := 11) (by decide +kernel)).2 (by decide) (by decide +kernel) (show 1 = gm_na 288 by decide +kernel) (fw_c1 fw_si) (show 2 ≤ gm_ml 288 by decide +kernel) (Nat.le_of_ble_eq_true rfl) (by omega) (Nat.zero_le _) (Nat.zero_le _) ?_
  refine no_288 (i := lane) (by omega) hE (tr_fr (W := [(226, some 0)]) hT (fr_p fr_0 (Or.inr (by decide))) (by decide)) hN hi (fun n8 => ?_) (fun n8 => ?_)
  · show gm_Wp X LX d _ _ 327 11 _ [gm_vi 1, gm_vr 226] n K _ _ Q
    have n8 : ¬ (0 ≤ lane ∧ lane < N 0) := n8
    refine gm_sz (gm_p_const (pc := 11) (i := .iconst 1) (v := gm_vi 1) (by decide +kernel) (by decide +kernel)) ?_
    refine gm_c_virt (k := 226) (ci := 11) (mj := 282) (ix := 300) (pc := 12) (as := [gm_vi 1, gm_vi 1]) (st := []) (d' := d - 1) (bc' := 0) (bs' := 0) (by decide +kernel) (by decide +kernel) (by decide +kernel) (by decide +kernel) (e0k hE (k := 226) (c := 11) (by decide +kernel)).1 (e0k hE (k := 226) (c := 11) (by decide +kernel)).2 (by decide) (by decide +kernel) (show 2 = gm_na 282 by decide +kernel) (fw_c2 fw_si fw_si) (show 3 ≤ gm_ml 282 by decide +kernel) (Nat.le_of_ble_eq_true rfl) (by omega) (Nat.zero_le _) (Nat.zero_le _) ?_
    refine tf_1 hE ?_
    show gm_Wp X LX d _ _ 327 15 _ [gm_vi 1] n K _ _ Q
    refine fw_iftd (cc := .ne) (pc := 15) (off := 27) (by decide +kernel) (by decide) ⟨by decide, by decide⟩ (by decide) ?_
    refine gm_sz (gm_p_const (pc := 42) (i := .iconst 0) (v := gm_vi 0) (by decide +kernel) (by decide +kernel)) ?_
    exact gm_r_int (pc := 43) (by decide +kernel) (Or.inl (by decide +kernel)) (k1 (by omega) _ uM_at)
  · show gm_Wp X LX d _ _ 327 11 _ [gm_vi 0, gm_vr 226] n K _ _ Q
    have n8 : 0 ≤ lane ∧ lane < N 0 := n8
    refine gm_sz (gm_p_const (pc := 11) (i := .iconst 1) (v := gm_vi 1) (by decide +kernel) (by decide +kernel)) ?_
    refine gm_c_virt (k := 226) (ci := 11) (mj := 282) (ix := 300) (pc := 12) (as := [gm_vi 0, gm_vi 1]) (st := []) (d' := d - 1) (bc' := 0) (bs' := 0) (by decide +kernel) (by decide +kernel) (by decide +kernel) (by decide +kernel) (e0k hE (k := 226) (c := 11) (by decide +kernel)).1 (e0k hE (k := 226) (c := 11) (by decide +kernel)).2 (by decide) (by decide +kernel) (show 2 = gm_na 282 by decide +kernel) (fw_c2 fw_si fw_si) (show 3 ≤ gm_ml 282 by decide +kernel) (Nat.le_of_ble_eq_true rfl) (by omega) (Nat.zero_le _) (Nat.zero_le _) ?_
    refine tf_0 hE ?_
    show gm_Wp X LX d _ _ 327 15 _ [gm_vi 0] n K _ _ Q
    refine fw_iffd (cc := .ne) (pc := 15) (off := 27) (by decide +kernel) (by decide) ⟨by decide, by decide⟩ (by decide) ?_
    refine gm_sz (gm_p_load (pc := 18) (i := .aload_n 0) (sr := 2) (j := 0) (by decide +kernel) rfl rfl rfl) ?_
    refine gm_sz (gm_p_load (pc := 19) (i := .iload_n 2) (sr := 0) (j := 2) (by decide +kernel) rfl rfl rfl) ?_
    refine gm_sz (gm_p_const (pc := 20) (i := .iconst 1) (v := gm_vi 1) (by decide +kernel) (by decide +kernel)) ?_
    refine gm_sz (gm_p_const (pc := 21) (i := .sipush 299) (v := gm_vi 299) (by decide +kernel) (by decide +kernel)) ?_
    refine gm_c_stat (mj := 286) (ix := 90) (pc := 24) (as := [gm_vi x, gm_vi 1, gm_vi 299]) (st := [gm_vr 226]) (d' := d - 1) (bc' := 0) (bs' := 0) (by decide +kernel) (by decide +kernel) (by decide +kernel) (by decide +kernel) (show 3 = gm_na 286 by decide +kernel) (fw_c3 fw_si fw_si fw_si) (show 3 ≤ gm_ml 286 by decide +kernel) (Nat.le_of_ble_eq_true rfl) (by omega) (Nat.zero_le _) (Nat.zero_le _) ?_
    refine in_286 (x := x) (y := 1) (z := 299) hi2 ⟨by decide, by decide⟩ ⟨by decide, by decide⟩ (fun k24a k24 => ?_) (fun k24 => ?_)
    · show gm_Wp X LX d _ _ 327 27 _ [gm_vi 1, gm_vr 226] n K _ _ Q
      have k24a : 1 ≤ x := k24a
      have k24 : x ≤ 299 := k24
      refine fw_iftd (cc := .ne) (pc := 27) (off := 7) (by decide +kernel) (by decide) ⟨by decide, by decide⟩ (by decide) ?_
      refine gm_sz (gm_p_const (pc := 34) (i := .iconst 0) (v := gm_vi 0) (by decide +kernel) (by decide +kernel)) ?_
      refine gm_sz (gm_p_const (pc := 35) (i := .iconst 2) (v := gm_vi 2) (by decide +kernel) (by decide +kernel)) ?_
      refine gm_c_virt (k := 226) (ci := 11) (mj := 282) (ix := 300) (pc := 36) (as := [gm_vi 0, gm_vi 2]) (st := []) (d' := d - 1) (bc' := 0) (bs' := 0) (by decide +kernel) (by decide +kernel) (by decide +kernel) (by decide +kernel) (e0k hE (k := 226) (c := 11) (by decide +kernel)).1 (e0k hE (k := 226) (c := 11) (by decide +kernel)).2 (by decide) (by decide +kernel) (show 2 = gm_na 282 by decide +kernel) (fw_c2 fw_si fw_si) (show 3 ≤ gm_ml 282 by decide +kernel) (Nat.le_of_ble_eq_true rfl) (by omega) (Nat.zero_le _) (Nat.zero_le _) ?_
      refine tf_0 hE ?_
      show gm_Wp X LX d _ _ 327 39 _ [gm_vi 0] n K _ _ Q
      refine fw_iftd (cc := .eq) (pc := 39) (off := 5) (by decide +kernel) (by decide) ⟨by decide, by decide⟩ (by decide) ?_
      refine gm_sz (gm_p_const (pc := 44) (i := .iconst 0) (v := gm_vi 0) (by decide +kernel) (by decide +kernel)) ?_
      refine gm_sz (gm_p_stor (pc := 45) (i := .istore_n 3) (sr := 0) (j := 3) (by decide +kernel) rfl (show 4 ≤ _ from Nat.le_of_ble_eq_true rfl) rfl) ?_
      exact hu_r hd hE (tr_fr (W := [(226, some 0)]) hT (fr_p fr_0 (Or.inr (by decide))) (by decide)) hN hfw (hfw.2.1 [(226, some 0)] _ _ (by decide) (fr_p fr_0 (Or.inr (by decide))) hI) ⟨by omega, by omega⟩ ⟨by omega, by omega⟩ (kv ⟨by omega, by omega⟩ ⟨by omega, by omega⟩) (N 1).toNat 0 _ _ (by omega) (fun i hi => absurd hi (Nat.not_lt_zero _)) fr_0 (hfw.2.1 [(226, some 0)] _ _ (by decide) (fr_p fr_0 (Or.inr (by decide))) hI) uM_at
    · show gm_Wp X LX d _ _ 327 27 _ [gm_vi 0, gm_vr 226] n K _ _ Q
      have k24 : ¬ (1 ≤ x ∧ x ≤ 299) := k24
      refine fw_iffd (cc := .ne) (pc := 27) (off := 7) (by decide +kernel) (by decide) ⟨by decide, by decide⟩ (by decide) ?_
      refine gm_sz (gm_p_const (pc := 30) (i := .iconst 1) (v := gm_vi 1) (by decide +kernel) (by decide +kernel)) ?_
      refine gm_sz (gm_p_goto (pc := 31) (off := 4) (by decide +kernel) (by decide)) ?_
      refine gm_sz (gm_p_const (pc := 35) (i := .iconst 2) (v := gm_vi 2) (by decide +kernel) (by decide +kernel)) ?_
      refine gm_c_virt (k := 226) (ci := 11) (mj := 282) (ix := 300) (pc := 36) (as := [gm_vi 1, gm_vi 2]) (st := []) (d' := d - 1) (bc' := 0) (bs' := 0) (by decide +kernel) (by decide +kernel) (by decide +kernel) (by decide +kernel) (e0k hE (k := 226) (c := 11) (by decide +kernel)).1 (e0k hE (k := 226) (c := 11) (by decide +kernel)).2 (by decide) (by decide +kernel) (show 2 = gm_na 282 by decide +kernel) (fw_c2 fw_si fw_si) (show 3 ≤ gm_ml 282 by decide +kernel) (Nat.le_of_ble_eq_true rfl) (by omega) (Nat.zero_le _) (Nat.zero_le _) ?_
      refine tf_1 hE ?_
      show gm_Wp X LX d _ _ 327 39 _ [gm_vi 1] n K _ _ Q
      refine fw_iffd (cc := .eq) (pc := 39) (off := 5) (by decide +kernel) (by decide) ⟨by decide, by decide⟩ (by decide) ?_
      refine gm_sz (gm_p_const (pc := 42) (i := .iconst 0) (v := gm_vi 0) (by decide +kernel) (by decide +kernel)) ?_
      exact gm_r_int (pc := 43) (by decide +kernel) (Or.inl (by decide +kernel)) (k2 ⟨by omega, by omega⟩ (by omega) _ uM_at)
theorem sh_170 (hd : 3 ≤ d) (hE : E0 n K R) (hT : TI N h sp M) (hN : NR N) (hp : 0 ≤ p ∧ p < N 3) (hq : ∀ M2, M2 = gm_uM (gm_uM (gm_uM (gm_uM (gm_uM (gm_uM (gm_uM M 206 2 (N (95 + (p * 3 + 0)))) 206 5 (N (95 + (p * 3 + 1)))) 206 7 y) 206 3 0) 206 4 (-1)) 206 6 0) 206 8 0 → Q (.inl none) n K R M2) : gm_Wp X LX d bc bs 170 0 (gm_ent 170 [gm_vr 206, gm_vi p, gm_vi y]) [] n K R M Q := by
  obtain ⟨⟨⟨a0, b0⟩, ⟨a1, b1⟩, ⟨a10, b10⟩, ⟨a11, b11⟩, ⟨a12, b12⟩, a9, b9⟩, ⟨⟨a2, b2⟩, ⟨a5, b5⟩, ⟨a3, b3⟩, ⟨a4, b4⟩, ⟨a6, b6⟩, ⟨a14, b14⟩, ⟨a7, b7⟩, a13, b13⟩, rF, rP, rL⟩ := id hN
  have rp := rP p hp.1 hp.2
  refine gm_sz (gm_p_load (pc := 0) (i := .aload_n 0) (sr := 2) (j := 0) (by decide +kernel) rfl rfl rfl) ?_
  refine gm_sz (gm_p_load (pc := 1) (i := .aload_n 0) (sr := 2) (j := 0) (by decide +kernel) rfl rfl rfl) ?_
  refine gm_sz (fw_gr (pc := 2) (ix := 34) (ci := 5) (j := 0) (r := 3) (by decide +kernel) (e0k hE (k := 206) (c := 5) (by decide +kernel)) (by decide +kernel) (by decide +kernel) (e0r hE (k := 206) (j := 0) (r := 3) (by decide +kernel))) ?_
  refine gm_sz (fw_gr (pc := 5) (ix := 62) (ci := 1) (j := 11) (r := 8) (by decide +kernel) (e0k hE (k := 3) (c := 1) (by decide +kernel)) (by decide +kernel) (by decide +kernel) (e0r hE (k := 3) (j := 11) (r := 8) (by decide +kernel))) ?_
  refine gm_sz (gm_p_load (pc := 8) (i := .iload_n 1) (sr := 0) (j := 1) (by decide +kernel) rfl rfl rfl) ?_
  refine gm_sz (gm_p_const (pc := 9) (i := .iconst 0) (v := gm_vi 0) (by decide +kernel) (by decide +kernel)) ?_
  refine gm_c_virt (k := 8) (ci := 2) (mj := 10) (ix := 48) (pc := 10) (as := [gm_vi p, gm_vi 0]) (st := [gm_vr 206]) (d' := d - 1) (bc' := 0) (bs' := 0) (by decide +kernel) (by decide +kernel) (by decide +kernel) (by decide +kernel) (e0k hE (k := 8) (c := 2) (by decide +kernel)).1 (e0k hE (k := 8) (c := 2) (by decide +kernel)).2 (by decide) (by decide +kernel) (show 2 = gm_na 10 by decide +kernel) (fw_c2 fw_si fw_si) (show 3 ≤ gm_ml 10 by decide +kernel) (Nat.le_of_ble_eq_true rfl) (by omega) (Nat.zero_le _) (Nat.zero_le _) ?_
  refine rw_get (s := N 3) (w := 3) (x := N (95 + (p * 3 + 0))) (e0k hE (k := 8) (c := 2) (by decide +kernel)) (e0a hE (k := 9) (q := (0, 24)) (by decide +kernel)) (e0r hE (k := 8) (j := 2) (r := 9) (by decide +kernel)) (by decide) (ti_peo hT) (hT.1 (8, 1, 3) (by decide)) ⟨by omega, by omega⟩ ⟨by omega, by omega⟩ ⟨by omega, by omega⟩ ⟨by omega, by omega⟩ (ti_aP hT (by omega) (by omega)) ?_
  show gm_Wp X LX d _ _ 170 13 _ [gm_vi (N (95 + (p * 3 + 0))), gm_vr 206] n K _ _ Q
  refine gm_sz (gm_p_load (pc := 13) (i := .aload_n 0) (sr := 2) (j := 0) (by decide +kernel) rfl rfl rfl) ?_
  refine gm_sz (fw_gr (pc := 14) (ix := 34) (ci := 5) (j := 0) (r := 3) (by decide +kernel) (e0k hE (k := 206) (c := 5) (by decide +kernel)) (by decide +kernel) (by decide +kernel) (e0r hE (k := 206) (j := 0) (r := 3) (by decide +kernel))) ?_
  refine gm_sz (fw_gr (pc := 17) (ix := 62) (ci := 1) (j := 11) (r := 8) (by decide +kernel) (e0k hE (k := 3) (c := 1) (by decide +kernel)) (by decide +kernel) (by decide +kernel) (e0r hE (k := 3) (j := 11) (r := 8) (by decide +kernel))) ?_
  refine gm_sz (gm_p_load (pc := 20) (i := .iload_n 1) (sr := 0) (j := 1) (by decide +kernel) rfl rfl rfl) ?_
  refine gm_sz (gm_p_const (pc := 21) (i := .iconst 1) (v := gm_vi 1) (by decide +kernel) (by decide +kernel)) ?_
  refine gm_c_virt (k := 8) (ci := 2) (mj := 10) (ix := 48) (pc := 22) (as := [gm_vi p, gm_vi 1]) (st := [gm_vi (N (95 + (p * 3 + 0))), gm_vr 206]) (d' := d - 1) (bc' := 0) (bs' := 0) (by decide +kernel) (by decide +kernel) (by decide +kernel) (by decide +kernel) (e0k hE (k := 8) (c := 2) (by decide +kernel)).1 (e0k hE (k := 8) (c := 2) (by decide +kernel)).2 (by decide) (by decide +kernel) (show 2 = gm_na 10 by decide +kernel) (fw_c2 fw_si fw_si) (show 3 ≤ gm_ml 10 by decide +kernel) (Nat.le_of_ble_eq_true rfl) (by omega) (Nat.zero_le _) (Nat.zero_le _) ?_
  refine rw_get (s := N 3) (w := 3) (x := N (95 + (p * 3 + 1))) (e0k hE (k := 8) (c := 2) (by decide +kernel)) (e0a hE (k := 9) (q := (0, 24)) (by decide +kernel)) (e0r hE (k := 8) (j := 2) (r := 9) (by decide +kernel)) (by decide) (ti_peo hT) (hT.1 (8, 1, 3) (by decide)) ⟨by omega, by omega⟩ ⟨by omega, by omega⟩ ⟨by omega, by omega⟩ ⟨by omega, by omega⟩ (ti_aP hT (by omega) (by omega)) ?_
  show gm_Wp X LX d _ _ 170 25 _ [gm_vi (N (95 + (p * 3 + 1))), gm_vi (N (95 + (p * 3 + 0))), gm_vr 206] n K _ _ Q
  refine gm_sz (gm_p_load (pc := 25) (i := .iload_n 2) (sr := 0) (j := 2) (by decide +kernel) rfl rfl rfl) ?_
  refine gm_sz (gm_p_const (pc := 26) (i := .iconst 0) (v := gm_vi 0) (by decide +kernel) (by decide +kernel)) ?_
  refine gm_c_virt (k := 206) (ci := 5) (mj := 29) (ix := 58) (pc := 27) (as := [gm_vi (N (95 + (p * 3 + 0))), gm_vi (N (95 + (p * 3 + 1))), gm_vi y, gm_vi 0]) (st := []) (d' := d - 1) (bc' := 0) (bs' := 0) (by decide +kernel) (by decide +kernel) (by decide +kernel) (by decide +kernel) (e0k hE (k := 206) (c := 5) (by decide +kernel)).1 (e0k hE (k := 206) (c := 5) (by decide +kernel)).2 (by decide) (by decide +kernel) (show 4 = gm_na 29 by decide +kernel) (fw_c4 fw_si fw_si fw_si fw_si) (show 5 ≤ gm_ml 29 by decide +kernel) (Nat.le_of_ble_eq_true rfl) (by omega) (Nat.zero_le _) (Nat.zero_le _) ?_
  refine wy_st206 hE hT hN (by first | omega | (split <;> decide)) ?_
  show gm_Wp X LX d _ _ 170 30 _ [] n K _ _ Q
  exact gm_r_void (pc := 30) (by decide +kernel) (by decide +kernel) (hq _ rfl)
theorem la_c (hd : 20 ≤ d) (hE : E0 n K R) (hT : TI N h sp M) (hN : NR N) (hfw : FLW X LX n K R N h sp FI φ) (hI : FI M) (hp : 0 ≤ p ∧ p < N 3) (hy : 0 ≤ y ∧ y ≤ 299) (hq : ∀ v, LATA N h φ p y v → ∀ M2, Q (.inl (some (gm_vi v))) n K R M2) : ∀ (u : Nat) (k : Int) (z : Option gm_V) (M1 : gm_M), k = N 9 - 1 + (u : Int) → k ≤ 299 → (∀ q : Int, k < q → q ≤ 299 → ¬ (¬ fro N h φ ((N (95 + (p * 3 + 0)))) ((N (95 + (p * 3 + 1)))) q = -1 ∧ fro N h φ ((N (95 + (p * 3 + 0)))) ((N (95 + (p * 3 + 1)))) q ≤ y)) → fr [(206, some 2), (206, some 3), (206, some 4), (206, some 5), (206, some 6), (206, some 7), (206, some 8), (200, some 6), (204, none), (205, none)] M M1 → FI M1 → gm_Wp X LX d bc bs 169 12 [some (gm_vr 1), some (gm_vi p), some (gm_vi y), some (gm_vi k)] [] n K R M1 Q := by
  obtain ⟨⟨⟨a0, b0⟩, ⟨a1, b1⟩, ⟨a10, b10⟩, ⟨a11, b11⟩, ⟨a12, b12⟩, a9, b9⟩, ⟨⟨a2, b2⟩, ⟨a5, b5⟩, ⟨a3, b3⟩, ⟨a4, b4⟩, ⟨a6, b6⟩, ⟨a14, b14⟩, ⟨a7, b7⟩, a13, b13⟩, rF, rP, rL⟩ := id hN
  have rp := rP p hp.1 hp.2
  intro u
  induction u with
  | zero =>
    intro k z M1 hk hk2 hp9 hf hI1
    refine gm_sz (gm_p_load (pc := 12) (i := .iload_n 3) (sr := 0) (j := 3) (by decide +kernel) rfl rfl rfl) ?_
    refine gm_sz (gm_p_load (pc := 13) (i := .aload_n 0) (sr := 2) (j := 0) (by decide +kernel) rfl rfl rfl) ?_
    refine gm_sz (fw_gr (pc := 14) (ix := 23) (ci := 0) (j := 3) (r := 3) (by decide +kernel) (e0k hE (k := 1) (c := 0) (by decide +kernel)) (by decide +kernel) (by decide +kernel) (e0r hE (k := 1) (j := 3) (r := 3) (by decide +kernel))) ?_
    refine gm_sz (fw_gi (pc := 17) (ix := 269) (ci := 1) (j := 6) (x := N 9) (by decide +kernel) (e0k hE (k := 3) (c := 1) (by decide +kernel)) (by decide +kernel) (by decide +kernel) ((fr_c hf (by decide)).trans (ti_now hT))) ?_
    refine fw_ict (cc := .lt) (pc := 20) (off := 32) (by decide +kernel) (by decide) ⟨by omega, by omega⟩ ⟨by omega, by omega⟩ (show k < (N 9) by omega) ?_
    refine gm_sz (gm_p_const (pc := 52) (i := .iconst (-1)) (v := gm_vi (-1)) (by decide +kernel) (by decide +kernel)) ?_
    exact gm_r_int (pc := 53) (by decide +kernel) (Or.inl (by decide +kernel)) (hq _ (Or.inl ⟨rfl, fun q q0 q1 => hp9 q (by omega) q1⟩) _)
  | succ u ih =>
    intro k z M1 hk hk2 hp9 hf hI1
    refine gm_sz (gm_p_load (pc := 12) (i := .iload_n 3) (sr := 0) (j := 3) (by decide +kernel) rfl rfl rfl) ?_
    refine gm_sz (gm_p_load (pc := 13) (i := .aload_n 0) (sr := 2) (j := 0) (by decide +kernel) rfl rfl rfl) ?_
    refine gm_sz (fw_gr (pc := 14) (ix := 23) (ci := 0) (j := 3) (r := 3) (by decide +kernel) (e0k hE (k := 1) (c := 0) (by decide +kernel)) (by decide +kernel) (by decide +kernel) (e0r hE (k := 1) (j := 3) (r := 3) (by decide +kernel))) ?_
    refine gm_sz (fw_gi (pc := 17) (ix := 269) (ci := 1) (j := 6) (x := N 9) (by decide +kernel) (e0k hE (k := 3) (c := 1) (by decide +kernel)) (by decide +kernel) (by decide +kernel) ((fr_c hf (by decide)).trans (ti_now hT))) ?_
    refine fw_icf (cc := .lt) (pc := 20) (off := 32) (by decide +kernel) (by decide) ⟨by omega, by omega⟩ ⟨by omega, by omega⟩ (show ¬ k < (N 9) by omega) ?_
    refine gm_sz (gm_p_load (pc := 23) (i := .aload_n 0) (sr := 2) (j := 0) (by decide +kernel) rfl rfl rfl) ?_
    refine gm_sz (fw_gr (pc := 24) (ix := 58) (ci := 0) (j := 9) (r := 206) (by decide +kernel) (e0k hE (k := 1) (c := 0) (by decide +kernel)) (by decide +kernel) (by decide +kernel) (e0r hE (k := 1) (j := 9) (r := 206) (by decide +kernel))) ?_
    refine gm_sz (gm_p_load (pc := 27) (i := .iload_n 1) (sr := 0) (j := 1) (by decide +kernel) rfl rfl rfl) ?_
    refine gm_sz (gm_p_load (pc := 28) (i := .iload_n 3) (sr := 0) (j := 3) (by decide +kernel) rfl rfl rfl) ?_
    refine gm_c_virt (k := 206) (ci := 5) (mj := 170) (ix := 298) (pc := 29) (as := [gm_vi p, gm_vi k]) (st := []) (d' := d - 1) (bc' := 0) (bs' := 0) (by decide +kernel) (by decide +kernel) (by decide +kernel) (by decide +kernel) (e0k hE (k := 206) (c := 5) (by decide +kernel)).1 (e0k hE (k := 206) (c := 5) (by decide +kernel)).2 (by decide) (by decide +kernel) (show 2 = gm_na 170 by decide +kernel) (fw_c2 fw_si fw_si) (show 3 ≤ gm_ml 170 by decide +kernel) (Nat.le_of_ble_eq_true rfl) (by omega) (Nat.zero_le _) (Nat.zero_le _) ?_
    refine sh_170 (p := p) (y := k) (by omega) hE (ti_fr (W := [(206, some 2), (206, some 3), (206, some 4), (206, some 5), (206, some 6), (206, some 7), (206, some 8), (200, some 6), (204, none), (205, none)]) hT (fr_t fr_0 hf (by decide)) (by decide) (by decide +kernel)) hN ⟨by omega, by omega⟩ (fun M170 e170 => ?_)
    show gm_Wp X LX d _ _ 169 32 _ [] n K _ _ Q
    subst e170
    refine gm_sz (gm_p_load (pc := 32) (i := .aload_n 0) (sr := 2) (j := 0) (by decide +kernel) rfl rfl rfl) ?_
    refine gm_sz (fw_gr (pc := 33) (ix := 58) (ci := 0) (j := 9) (r := 206) (by decide +kernel) (e0k hE (k := 1) (c := 0) (by decide +kernel)) (by decide +kernel) (by decide +kernel) (e0r hE (k := 1) (j := 9) (r := 206) (by decide +kernel))) ?_
    refine gm_sz (gm_p_load (pc := 36) (i := .iload_n 2) (sr := 0) (j := 2) (by decide +kernel) rfl rfl rfl) ?_
    refine gm_c_virt (k := 206) (ci := 5) (mj := 30) (ix := 295) (pc := 37) (as := [gm_vi y]) (st := []) (d' := d - 1) (bc' := 0) (bs' := 0) (by decide +kernel) (by decide +kernel) (by decide +kernel) (by decide +kernel) (e0k hE (k := 206) (c := 5) (by decide +kernel)).1 (e0k hE (k := 206) (c := 5) (by decide +kernel)).2 (by decide) (by decide +kernel) (show 1 = gm_na 30 by decide +kernel) (fw_c1 fw_si) (show 2 ≤ gm_ml 30 by decide +kernel) (Nat.le_of_ble_eq_true rfl) (by omega) (Nat.zero_le _) (Nat.zero_le _) ?_
    refine fo_30l (lane := ((N (95 + (p * 3 + 0))))) (row := ((N (95 + (p * 3 + 1))))) (y := k) (x := y) (by omega) hE (ti_fr (W := [(206, some 2), (206, some 3), (206, some 4), (206, some 5), (206, some 6), (206, some 7), (206, some 8), (200, some 6), (204, none), (205, none)]) hT (fr_p (fr_p (fr_p (fr_p (fr_p (fr_p (fr_p (fr_t fr_0 hf (by decide)) (Or.inr (by decide))) (Or.inr (by decide))) (Or.inr (by decide))) (Or.inr (by decide))) (Or.inr (by decide))) (Or.inr (by decide))) (Or.inr (by decide))) (by decide) (by decide +kernel)) hN hfw (hfw.2.1 [(206, some 2), (206, some 5), (206, some 7), (206, some 3), (206, some 4), (206, some 6), (206, some 8)] _ _ (by decide) (fr_p (fr_p (fr_p (fr_p (fr_p (fr_p (fr_p fr_0 (Or.inr (by decide))) (Or.inr (by decide))) (Or.inr (by decide))) (Or.inr (by decide))) (Or.inr (by decide))) (Or.inr (by decide))) (Or.inr (by decide))) hI1) ((uM_ne (by omega)).trans ((uM_ne (by omega)).trans ((uM_ne (by omega)).trans ((uM_ne (by omega)).trans ((uM_ne (by omega)).trans ((uM_ne (by omega)).trans uM_at)))))) ((uM_ne (by omega)).trans ((uM_ne (by omega)).trans ((uM_ne (by omega)).trans uM_at))) ((uM_ne (by omega)).trans ((uM_ne (by omega)).trans uM_at)) ((uM_ne (by omega)).trans ((uM_ne (by omega)).trans ((uM_ne (by omega)).trans ((uM_ne (by omega)).trans ((uM_ne (by omega)).trans uM_at))))) ((uM_ne (by omega)).trans uM_at) ((uM_ne (by omega)).trans ((uM_ne (by omega)).trans ((uM_ne (by omega)).trans ((uM_ne (by omega)).trans uM_at)))) ⟨by omega, by omega⟩ ⟨by omega, by omega⟩ ⟨by omega, by omega⟩ ⟨by omega, by omega⟩ (fun w1 w2 M30 hf30 hI30 => ?_) (fun w1 M30 hf30 hI30 => ?_)
    · show gm_Wp X LX d _ _ 169 40 _ [gm_vi (fro N h φ ((N (95 + (p * 3 + 0)))) ((N (95 + (p * 3 + 1)))) k)] n K _ _ Q
      have w1 : ¬ fro N h φ ((N (95 + (p * 3 + 0)))) ((N (95 + (p * 3 + 1)))) k = -1 := w1
      have w2 : fro N h φ ((N (95 + (p * 3 + 0)))) ((N (95 + (p * 3 + 1)))) k ≤ y := w2
      have fb := fro_b (N := N) (h := h) (φ := φ) (lane := ((N (95 + (p * 3 + 0))))) (row := ((N (95 + (p * 3 + 1))))) (y := k) (by omega)
      refine gm_sz (gm_p_const (pc := 40) (i := .iconst (-1)) (v := gm_vi (-1)) (by decide +kernel) (by decide +kernel)) ?_
      refine fw_ic (cc := .eq) (pc := 41) (off := 5) (by decide +kernel) (by decide) ⟨by omega, by omega⟩ ⟨by decide, by decide⟩ (fun h41 => ?_) (fun h41 => ?_)
      · have h41 : (fro N h φ ((N (95 + (p * 3 + 0)))) ((N (95 + (p * 3 + 1)))) k) = (-1) := h41
        refine gm_sz (gm_p_iinc (pc := 46) (j := 3) (z := (-1)) (by decide +kernel) rfl) ?_
        refine gm_sz (gm_p_goto (pc := 49) (off := (-37)) (by decide +kernel) (by decide)) ?_
        have hn9 : ¬ (¬ fro N h φ ((N (95 + (p * 3 + 0)))) ((N (95 + (p * 3 + 1)))) k = -1 ∧ fro N h φ ((N (95 + (p * 3 + 0)))) ((N (95 + (p * 3 + 1)))) k ≤ y) := by omega
        have hp2 : ∀ q : Int, k - 1 < q → q ≤ 299 → ¬ (¬ fro N h φ ((N (95 + (p * 3 + 0)))) ((N (95 + (p * 3 + 1)))) q = -1 ∧ fro N h φ ((N (95 + (p * 3 + 0)))) ((N (95 + (p * 3 + 1)))) q ≤ y) := fun q q0 q1 => by
          by_cases e : q = k
          · subst e; exact hn9
          · exact hp9 q (by omega) q1
        have h9 := ih (k - 1) z _ (by omega) (by omega) hp2 (fr_t (fr_p (fr_p (fr_p (fr_p (fr_p (fr_p (fr_p (fr_t fr_0 hf (by decide)) (Or.inr (by decide))) (Or.inr (by decide))) (Or.inr (by decide))) (Or.inr (by decide))) (Or.inr (by decide))) (Or.inr (by decide))) (Or.inr (by decide))) hf30 (by decide)) hI30
        rw [show k - 1 = k - 1 by omega] at h9
        exact h9
      · have h41 : ¬ (fro N h φ ((N (95 + (p * 3 + 0)))) ((N (95 + (p * 3 + 1)))) k) = (-1) := h41
        refine gm_sz (gm_p_load (pc := 44) (i := .iload_n 3) (sr := 0) (j := 3) (by decide +kernel) rfl rfl rfl) ?_
        exact gm_r_int (pc := 45) (by decide +kernel) (Or.inl (by decide +kernel)) (hq _ (Or.inr ⟨⟨by omega, by omega⟩, ⟨by omega, by omega⟩, hp9⟩) _)
    · show gm_Wp X LX d _ _ 169 40 _ [gm_vi (-1)] n K _ _ Q
      have w1 : fro N h φ ((N (95 + (p * 3 + 0)))) ((N (95 + (p * 3 + 1)))) k = -1 ∨ y < fro N h φ ((N (95 + (p * 3 + 0)))) ((N (95 + (p * 3 + 1)))) k := w1
      have fb := fro_b (N := N) (h := h) (φ := φ) (lane := ((N (95 + (p * 3 + 0))))) (row := ((N (95 + (p * 3 + 1))))) (y := k) (by omega)
      refine gm_sz (gm_p_const (pc := 40) (i := .iconst (-1)) (v := gm_vi (-1)) (by decide +kernel) (by decide +kernel)) ?_
      refine fw_ictd (cc := .eq) (pc := 41) (off := 5) (by decide +kernel) (by decide) ⟨by decide, by decide⟩ ⟨by decide, by decide⟩ (by decide) ?_
      refine gm_sz (gm_p_iinc (pc := 46) (j := 3) (z := (-1)) (by decide +kernel) rfl) ?_
      refine gm_sz (gm_p_goto (pc := 49) (off := (-37)) (by decide +kernel) (by decide)) ?_
      have hn9 : ¬ (¬ fro N h φ ((N (95 + (p * 3 + 0)))) ((N (95 + (p * 3 + 1)))) k = -1 ∧ fro N h φ ((N (95 + (p * 3 + 0)))) ((N (95 + (p * 3 + 1)))) k ≤ y) := by omega
      have hp2 : ∀ q : Int, k - 1 < q → q ≤ 299 → ¬ (¬ fro N h φ ((N (95 + (p * 3 + 0)))) ((N (95 + (p * 3 + 1)))) q = -1 ∧ fro N h φ ((N (95 + (p * 3 + 0)))) ((N (95 + (p * 3 + 1)))) q ≤ y) := fun q q0 q1 => by
        by_cases e : q = k
        · subst e; exact hn9
        · exact hp9 q (by omega) q1
      have h9 := ih (k - 1) z _ (by omega) (by omega) hp2 (fr_t (fr_p (fr_p (fr_p (fr_p (fr_p (fr_p (fr_p (fr_t fr_0 hf (by decide)) (Or.inr (by decide))) (Or.inr (by decide))) (Or.inr (by decide))) (Or.inr (by decide))) (Or.inr (by decide))) (Or.inr (by decide))) (Or.inr (by decide))) hf30 (by decide)) hI30
      rw [show k - 1 = k - 1 by omega] at h9
      exact h9
theorem la_r (hd : 20 ≤ d) (hE : E0 n K R) (hT : TR N h M) (hN : NR N) (hfw : FLR X LX n K R N h FI φ) (hI : FI M) (hp : 0 ≤ p ∧ p < N 3) (hy : 0 ≤ y ∧ y ≤ 299) (hq : ∀ v, LATA N h φ p y v → ∀ M2, M2 226 0 = 0 → Q (.inl (some (gm_vi v))) n K R M2) : ∀ (u : Nat) (k : Int) (z : Option gm_V) (M1 : gm_M), k = N 9 - 1 + (u : Int) → k ≤ 299 → (∀ q : Int, k < q → q ≤ 299 → ¬ (¬ fro N h φ ((N (95 + (p * 3 + 0)))) ((N (95 + (p * 3 + 1)))) q = -1 ∧ fro N h φ ((N (95 + (p * 3 + 0)))) ((N (95 + (p * 3 + 1)))) q ≤ y)) → fr [(226, some 0), (226, some 29), (226, some 30), (226, some 26), (226, some 17), (226, some 18), (226, some 19), (226, some 20), (226, some 21), (226, some 22), (226, some 23), (235, none), (233, none), (236, none), (237, none)] M M1 → FI M1 → M1 226 0 = 0 → gm_Wp X LX d bc bs 326 36 [some (gm_vr 226), some (gm_vi p), some (gm_vi y), some (gm_vi k), z] [] n K R M1 Q := by
  obtain ⟨⟨⟨a0, b0⟩, ⟨a1, b1⟩, ⟨a10, b10⟩, ⟨a11, b11⟩, ⟨a12, b12⟩, a9, b9⟩, ⟨⟨a2, b2⟩, ⟨a5, b5⟩, ⟨a3, b3⟩, ⟨a4, b4⟩, ⟨a6, b6⟩, ⟨a14, b14⟩, ⟨a7, b7⟩, a13, b13⟩, rF, rP, rL⟩ := id hN
  have rp := rP p hp.1 hp.2
  intro u
  induction u with
  | zero =>
    intro k z M1 hk hk2 hp9 hf hI1 h0
    refine gm_sz (gm_p_load (pc := 36) (i := .iload_n 3) (sr := 0) (j := 3) (by decide +kernel) rfl rfl rfl) ?_
    refine gm_sz (gm_p_load (pc := 37) (i := .aload_n 0) (sr := 2) (j := 0) (by decide +kernel) rfl rfl rfl) ?_
    refine gm_c_virt (k := 226) (ci := 11) (mj := 266) (ix := 162) (pc := 38) (as := []) (st := [gm_vi k]) (d' := d - 1) (bc' := 0) (bs' := 0) (by decide +kernel) (by decide +kernel) (by decide +kernel) (by decide +kernel) (e0k hE (k := 226) (c := 11) (by decide +kernel)).1 (e0k hE (k := 226) (c := 11) (by decide +kernel)).2 (by decide) (by decide +kernel) (show 0 = gm_na 266 by decide +kernel) fw_c0 (show 1 ≤ gm_ml 266 by decide +kernel) (Nat.le_of_ble_eq_true rfl) (by omega) (Nat.zero_le _) (Nat.zero_le _) ?_
    refine re_now hE (tr_fr (W := [(226, some 0), (226, some 29), (226, some 30), (226, some 26), (226, some 17), (226, some 18), (226, some 19), (226, some 20), (226, some 21), (226, some 22), (226, some 23), (235, none), (233, none), (236, none), (237, none)]) hT (fr_t fr_0 hf (by decide)) (by decide)) hN ?_
    show gm_Wp X LX d _ _ 326 41 _ [gm_vi (N 9), gm_vi k] n K _ _ Q
    refine fw_ict (cc := .lt) (pc := 41) (off := 41) (by decide +kernel) (by decide) ⟨by omega, by omega⟩ ⟨by omega, by omega⟩ (show k < (N 9) by omega) ?_
    refine gm_sz (gm_p_const (pc := 82) (i := .iconst (-1)) (v := gm_vi (-1)) (by decide +kernel) (by decide +kernel)) ?_
    exact gm_r_int (pc := 83) (by decide +kernel) (Or.inl (by decide +kernel)) (hq _ (Or.inl ⟨rfl, fun q q0 q1 => hp9 q (by omega) q1⟩) _ h0)
  | succ u ih =>
    intro k z M1 hk hk2 hp9 hf hI1 h0
    refine gm_sz (gm_p_load (pc := 36) (i := .iload_n 3) (sr := 0) (j := 3) (by decide +kernel) rfl rfl rfl) ?_
    refine gm_sz (gm_p_load (pc := 37) (i := .aload_n 0) (sr := 2) (j := 0) (by decide +kernel) rfl rfl rfl) ?_
    refine gm_c_virt (k := 226) (ci := 11) (mj := 266) (ix := 162) (pc := 38) (as := []) (st := [gm_vi k]) (d' := d - 1) (bc' := 0) (bs' := 0) (by decide +kernel) (by decide +kernel) (by decide +kernel) (by decide +kernel) (e0k hE (k := 226) (c := 11) (by decide +kernel)).1 (e0k hE (k := 226) (c := 11) (by decide +kernel)).2 (by decide) (by decide +kernel) (show 0 = gm_na 266 by decide +kernel) fw_c0 (show 1 ≤ gm_ml 266 by decide +kernel) (Nat.le_of_ble_eq_true rfl) (by omega) (Nat.zero_le _) (Nat.zero_le _) ?_
    refine re_now hE (tr_fr (W := [(226, some 0), (226, some 29), (226, some 30), (226, some 26), (226, some 17), (226, some 18), (226, some 19), (226, some 20), (226, some 21), (226, some 22), (226, some 23), (235, none), (233, none), (236, none), (237, none)]) hT (fr_t fr_0 hf (by decide)) (by decide)) hN ?_
    show gm_Wp X LX d _ _ 326 41 _ [gm_vi (N 9), gm_vi k] n K _ _ Q
    refine fw_icf (cc := .lt) (pc := 41) (off := 41) (by decide +kernel) (by decide) ⟨by omega, by omega⟩ ⟨by omega, by omega⟩ (show ¬ k < (N 9) by omega) ?_
    refine gm_sz (gm_p_load (pc := 44) (i := .aload_n 0) (sr := 2) (j := 0) (by decide +kernel) rfl rfl rfl) ?_
    refine gm_sz (gm_p_load (pc := 45) (i := .aload_n 0) (sr := 2) (j := 0) (by decide +kernel) rfl rfl rfl) ?_
    refine gm_sz (gm_p_load (pc := 46) (i := .iload_n 1) (sr := 0) (j := 1) (by decide +kernel) rfl rfl rfl) ?_
    refine gm_sz (gm_p_const (pc := 47) (i := .iconst 0) (v := gm_vi 0) (by decide +kernel) (by decide +kernel)) ?_
    refine gm_c_virt (k := 226) (ci := 11) (mj := 299) (ix := 396) (pc := 48) (as := [gm_vi p, gm_vi 0]) (st := [gm_vr 226]) (d' := d - 1) (bc' := 0) (bs' := 0) (by decide +kernel) (by decide +kernel) (by decide +kernel) (by decide +kernel) (e0k hE (k := 226) (c := 11) (by decide +kernel)).1 (e0k hE (k := 226) (c := 11) (by decide +kernel)).2 (by decide) (by decide +kernel) (show 2 = gm_na 299 by decide +kernel) (fw_c2 fw_si fw_si) (show 3 ≤ gm_ml 299 by decide +kernel) (Nat.le_of_ble_eq_true rfl) (by omega) (Nat.zero_le _) (Nat.zero_le _) ?_
    refine re_of hE (tr_fr (W := [(226, some 0), (226, some 29), (226, some 30), (226, some 26), (226, some 17), (226, some 18), (226, some 19), (226, some 20), (226, some 21), (226, some 22), (226, some 23), (235, none), (233, none), (236, none), (237, none)]) hT (fr_t fr_0 hf (by decide)) (by decide)) hN ⟨by omega, by omega⟩ ⟨by omega, by omega⟩ ?_
    show gm_Wp X LX d _ _ 326 51 _ [gm_vi (N (95 + (p * 3 + 0))), gm_vr 226] n K _ _ Q
    refine gm_sz (gm_p_load (pc := 51) (i := .aload_n 0) (sr := 2) (j := 0) (by decide +kernel) rfl rfl rfl) ?_
    refine gm_sz (gm_p_load (pc := 52) (i := .iload_n 1) (sr := 0) (j := 1) (by decide +kernel) rfl rfl rfl) ?_
    refine gm_sz (gm_p_const (pc := 53) (i := .iconst 1) (v := gm_vi 1) (by decide +kernel) (by decide +kernel)) ?_
    refine gm_c_virt (k := 226) (ci := 11) (mj := 299) (ix := 396) (pc := 54) (as := [gm_vi p, gm_vi 1]) (st := [gm_vi (N (95 + (p * 3 + 0))), gm_vr 226]) (d' := d - 1) (bc' := 0) (bs' := 0) (by decide +kernel) (by decide +kernel) (by decide +kernel) (by decide +kernel) (e0k hE (k := 226) (c := 11) (by decide +kernel)).1 (e0k hE (k := 226) (c := 11) (by decide +kernel)).2 (by decide) (by decide +kernel) (show 2 = gm_na 299 by decide +kernel) (fw_c2 fw_si fw_si) (show 3 ≤ gm_ml 299 by decide +kernel) (Nat.le_of_ble_eq_true rfl) (by omega) (Nat.zero_le _) (Nat.zero_le _) ?_
    refine re_of hE (tr_fr (W := [(226, some 0), (226, some 29), (226, some 30), (226, some 26), (226, some 17), (226, some 18), (226, some 19), (226, some 20), (226, some 21), (226, some 22), (226, some 23), (235, none), (233, none), (236, none), (237, none)]) hT (fr_t fr_0 hf (by decide)) (by decide)) hN ⟨by omega, by omega⟩ ⟨by omega, by omega⟩ ?_
    show gm_Wp X LX d _ _ 326 57 _ [gm_vi (N (95 + (p * 3 + 1))), gm_vi (N (95 + (p * 3 + 0))), gm_vr 226] n K _ _ Q
    refine gm_sz (gm_p_load (pc := 57) (i := .iload_n 3) (sr := 0) (j := 3) (by decide +kernel) rfl rfl rfl) ?_
    refine gm_c_virt (k := 226) (ci := 11) (mj := 325) (ix := 425) (pc := 58) (as := [gm_vi (N (95 + (p * 3 + 0))), gm_vi (N (95 + (p * 3 + 1))), gm_vi k]) (st := []) (d' := d - 1) (bc' := 0) (bs' := 0) (by decide +kernel) (by decide +kernel) (by decide +kernel) (by decide +kernel) (e0k hE (k := 226) (c := 11) (by decide +kernel)).1 (e0k hE (k := 226) (c := 11) (by decide +kernel)).2 (by decide) (by decide +kernel) (show 3 = gm_na 325 by decide +kernel) (fw_c3 fw_si fw_si fw_si) (show 4 ≤ gm_ml 325 by decide +kernel) (Nat.le_of_ble_eq_true rfl) (by omega) (Nat.zero_le _) (Nat.zero_le _) ?_
    refine ou_325 (lane := (N (95 + (p * 3 + 0)))) (row := (N (95 + (p * 3 + 1)))) (y := k) (by omega) hE (tr_fr (W := [(226, some 0), (226, some 29), (226, some 30), (226, some 26), (226, some 17), (226, some 18), (226, some 19), (226, some 20), (226, some 21), (226, some 22), (226, some 23), (235, none), (233, none), (236, none), (237, none)]) hT (fr_t fr_0 hf (by decide)) (by decide)) hN hfw hI1 ⟨by omega, by omega⟩ ⟨by omega, by omega⟩ ⟨by omega, by omega⟩ (fun M25 hf25 hI25 => ?_)
    show gm_Wp X LX d _ _ 326 61 _ [gm_vi (fro N h φ (N (95 + (p * 3 + 0))) (N (95 + (p * 3 + 1))) k)] n K _ _ Q
    have fb := fro_b (N := N) (h := h) (φ := φ) (lane := (N (95 + (p * 3 + 0)))) (row := (N (95 + (p * 3 + 1)))) (y := k) (by omega)
    refine gm_sz (gm_p_stor (pc := 61) (i := .istore 4) (sr := 0) (j := 4) (by decide +kernel) rfl (show 5 ≤ _ from Nat.le_of_ble_eq_true rfl) rfl) ?_
    refine gm_sz (gm_p_load (pc := 63) (i := .iload 4) (sr := 0) (j := 4) (by decide +kernel) rfl rfl rfl) ?_
    refine fw_if (cc := .lt) (pc := 65) (off := 11) (by decide +kernel) (by decide) ⟨by omega, by omega⟩ (fun h65 => ?_) (fun h65 => ?_)
    · have h65 : (fro N h φ (N (95 + (p * 3 + 0))) (N (95 + (p * 3 + 1))) k) < 0 := h65
      refine gm_sz (gm_p_iinc (pc := 76) (j := 3) (z := (-1)) (by decide +kernel) rfl) ?_
      refine gm_sz (gm_p_goto (pc := 79) (off := (-43)) (by decide +kernel) (by decide)) ?_
      have hn9 : ¬ (¬ fro N h φ ((N (95 + (p * 3 + 0)))) ((N (95 + (p * 3 + 1)))) k = -1 ∧ fro N h φ ((N (95 + (p * 3 + 0)))) ((N (95 + (p * 3 + 1)))) k ≤ y) := by omega
      have hp2 : ∀ q : Int, k - 1 < q → q ≤ 299 → ¬ (¬ fro N h φ ((N (95 + (p * 3 + 0)))) ((N (95 + (p * 3 + 1)))) q = -1 ∧ fro N h φ ((N (95 + (p * 3 + 0)))) ((N (95 + (p * 3 + 1)))) q ≤ y) := fun q q0 q1 => by
        by_cases e : q = k
        · subst e; exact hn9
        · exact hp9 q (by omega) q1
      have h9 := ih (k - 1) (some (gm_vi (fro N h φ (N (95 + (p * 3 + 0))) (N (95 + (p * 3 + 1))) k))) _ (by omega) (by omega) hp2 (fr_t (fr_t fr_0 hf (by decide)) hf25 (by decide)) hI25 ((fr_j hf25 (by decide)).trans h0)
      rw [show k - 1 = k - 1 by omega] at h9
      exact h9
    · have h65 : ¬ (fro N h φ (N (95 + (p * 3 + 0))) (N (95 + (p * 3 + 1))) k) < 0 := h65
      refine gm_sz (gm_p_load (pc := 68) (i := .iload 4) (sr := 0) (j := 4) (by decide +kernel) rfl rfl rfl) ?_
      refine gm_sz (gm_p_load (pc := 70) (i := .iload_n 2) (sr := 0) (j := 2) (by decide +kernel) rfl rfl rfl) ?_
      refine fw_ic (cc := .gt) (pc := 71) (off := 5) (by decide +kernel) (by decide) ⟨by omega, by omega⟩ ⟨by omega, by omega⟩ (fun h71 => ?_) (fun h71 => ?_)
      · have h71 : y < (fro N h φ (N (95 + (p * 3 + 0))) (N (95 + (p * 3 + 1))) k) := h71
        refine gm_sz (gm_p_iinc (pc := 76) (j := 3) (z := (-1)) (by decide +kernel) rfl) ?_
        refine gm_sz (gm_p_goto (pc := 79) (off := (-43)) (by decide +kernel) (by decide)) ?_
        have hn9 : ¬ (¬ fro N h φ ((N (95 + (p * 3 + 0)))) ((N (95 + (p * 3 + 1)))) k = -1 ∧ fro N h φ ((N (95 + (p * 3 + 0)))) ((N (95 + (p * 3 + 1)))) k ≤ y) := by omega
        have hp2 : ∀ q : Int, k - 1 < q → q ≤ 299 → ¬ (¬ fro N h φ ((N (95 + (p * 3 + 0)))) ((N (95 + (p * 3 + 1)))) q = -1 ∧ fro N h φ ((N (95 + (p * 3 + 0)))) ((N (95 + (p * 3 + 1)))) q ≤ y) := fun q q0 q1 => by
          by_cases e : q = k
          · subst e; exact hn9
          · exact hp9 q (by omega) q1
        have h9 := ih (k - 1) (some (gm_vi (fro N h φ (N (95 + (p * 3 + 0))) (N (95 + (p * 3 + 1))) k))) _ (by omega) (by omega) hp2 (fr_t (fr_t fr_0 hf (by decide)) hf25 (by decide)) hI25 ((fr_j hf25 (by decide)).trans h0)
        rw [show k - 1 = k - 1 by omega] at h9
        exact h9
      · have h71 : ¬ y < (fro N h φ (N (95 + (p * 3 + 0))) (N (95 + (p * 3 + 1))) k) := h71
        refine gm_sz (gm_p_load (pc := 74) (i := .iload_n 3) (sr := 0) (j := 3) (by decide +kernel) rfl rfl rfl) ?_
        exact gm_r_int (pc := 75) (by decide +kernel) (Or.inl (by decide +kernel)) (hq _ (Or.inr ⟨⟨by omega, by omega⟩, ⟨by omega, by omega⟩, hp9⟩) _ ((fr_j hf25 (by decide)).trans h0))
theorem cl_latest (hd : 20 ≤ d) (hbc : 4 ≤ bc) (hbs : 24 ≤ bs) (hE : E0 n K R) (hT : TI N h sp M) (hN : NR N) (hfw : FLW X LX n K R N h sp FI φ) (hI : FI M) (hi : gm_ir p) (hi2 : gm_ir y) (kv : 0 ≤ p ∧ p < N 3 → 0 ≤ y ∧ y ≤ 299 → ∀ v, LATA N h φ p y v → ∀ M2, Q (.inl (some (gm_vi v))) n K R M2) (k3 : ¬ (0 ≤ p ∧ p < N 3) → Q (.inr 3) n K R M) (k0 : 0 ≤ p ∧ p < N 3 → ¬ (0 ≤ y ∧ y ≤ 299) → Q (.inr 0) n K R M) : gm_Wp X LX d bc bs 169 0 (gm_ent 169 [gm_vr 1, gm_vi p, gm_vi y]) [] n K R M Q := by
  obtain ⟨⟨⟨a0, b0⟩, ⟨a1, b1⟩, ⟨a10, b10⟩, ⟨a11, b11⟩, ⟨a12, b12⟩, a9, b9⟩, ⟨⟨a2, b2⟩, ⟨a5, b5⟩, ⟨a3, b3⟩, ⟨a4, b4⟩, ⟨a6, b6⟩, ⟨a14, b14⟩, ⟨a7, b7⟩, a13, b13⟩, rF, rP, rL⟩ := id hN
  refine gm_sz (gm_p_load (pc := 0) (i := .aload_n 0) (sr := 2) (j := 0) (by decide +kernel) rfl rfl rfl) ?_
  refine gm_sz (gm_p_load (pc := 1) (i := .iload_n 1) (sr := 0) (j := 1) (by decide +kernel) rfl rfl rfl) ?_
  refine gm_c_virt (k := 1) (ci := 0) (mj := 139) (ix := 180) (pc := 2) (as := [gm_vi p]) (st := []) (d' := d - 1) (bc' := 1) (bs' := 6) (by decide +kernel) (by decide +kernel) (by decide +kernel) (by decide +kernel) (e0k hE (k := 1) (c := 0) (by decide +kernel)).1 (e0k hE (k := 1) (c := 0) (by decide +kernel)).2 (by decide) (by decide +kernel) (show 1 = gm_na 139 by decide +kernel) (fw_c1 fw_si) (show 2 ≤ gm_ml 139 by decide +kernel) (Nat.le_of_ble_eq_true rfl) (by omega) (by omega) (by omega) ?_
  refine nd_139 (i := p) (by omega) (by omega) (by omega) hE hT hN hi (fun c2 => ?_) (fun c2 => ?_)
  · show gm_Wp X LX d _ _ 169 5 _ [] n K _ _ Q
    have c2 : 0 ≤ p ∧ p < N 3 := c2
    refine gm_sz (gm_p_load (pc := 5) (i := .aload_n 0) (sr := 2) (j := 0) (by decide +kernel) rfl rfl rfl) ?_
    refine gm_sz (gm_p_load (pc := 6) (i := .iload_n 2) (sr := 0) (j := 2) (by decide +kernel) rfl rfl rfl) ?_
    refine gm_c_virt (k := 1) (ci := 0) (mj := 129) (ix := 160) (pc := 7) (as := [gm_vi y]) (st := []) (d' := d - 1) (bc' := 1) (bs' := 6) (by decide +kernel) (by decide +kernel) (by decide +kernel) (by decide +kernel) (e0k hE (k := 1) (c := 0) (by decide +kernel)).1 (e0k hE (k := 1) (c := 0) (by decide +kernel)).2 (by decide) (by decide +kernel) (show 1 = gm_na 129 by decide +kernel) (fw_c1 fw_si) (show 2 ≤ gm_ml 129 by decide +kernel) (Nat.le_of_ble_eq_true rfl) (by omega) (by omega) (by omega) ?_
    refine nd_129 (i := y) (by omega) (by omega) (by omega) hi2 (fun c7 => ?_) (fun c7 => ?_)
    · show gm_Wp X LX d _ _ 169 10 _ [] n K _ _ Q
      have c7 : 0 ≤ y ∧ y ≤ 299 := c7
      refine gm_sz (gm_p_load (pc := 10) (i := .iload_n 2) (sr := 0) (j := 2) (by decide +kernel) rfl rfl rfl) ?_
      refine gm_sz (gm_p_stor (pc := 11) (i := .istore_n 3) (sr := 0) (j := 3) (by decide +kernel) rfl (show 4 ≤ _ from Nat.le_of_ble_eq_true rfl) rfl) ?_
      have hb9 : ∀ q : Int, y < q → q ≤ 299 → ¬ (¬ fro N h φ ((N (95 + (p * 3 + 0)))) ((N (95 + (p * 3 + 1)))) q = -1 ∧ fro N h φ ((N (95 + (p * 3 + 0)))) ((N (95 + (p * 3 + 1)))) q ≤ y) := fun q q0 q1 hh => by
        have fb := fro_b (N := N) (h := h) (φ := φ) (lane := (N (95 + (p * 3 + 0)))) (row := (N (95 + (p * 3 + 1)))) (y := q) (by omega)
        omega
      by_cases hyn : N 9 - 1 ≤ y
      · exact la_c hd hE hT hN hfw hI ⟨by omega, by omega⟩ ⟨by omega, by omega⟩ (kv ⟨by omega, by omega⟩ ⟨by omega, by omega⟩) (y - (N 9 - 1)).toNat y none _ (by omega) (by omega) hb9 fr_0 hI
      · refine gm_sz (gm_p_load (pc := 12) (i := .iload_n 3) (sr := 0) (j := 3) (by decide +kernel) rfl rfl rfl) ?_
        refine gm_sz (gm_p_load (pc := 13) (i := .aload_n 0) (sr := 2) (j := 0) (by decide +kernel) rfl rfl rfl) ?_
        refine gm_sz (fw_gr (pc := 14) (ix := 23) (ci := 0) (j := 3) (r := 3) (by decide +kernel) (e0k hE (k := 1) (c := 0) (by decide +kernel)) (by decide +kernel) (by decide +kernel) (e0r hE (k := 1) (j := 3) (r := 3) (by decide +kernel))) ?_
        refine gm_sz (fw_gi (pc := 17) (ix := 269) (ci := 1) (j := 6) (x := N 9) (by decide +kernel) (e0k hE (k := 3) (c := 1) (by decide +kernel)) (by decide +kernel) (by decide +kernel) (ti_now hT)) ?_
        refine fw_ict (cc := .lt) (pc := 20) (off := 32) (by decide +kernel) (by decide) ⟨by omega, by omega⟩ ⟨by omega, by omega⟩ (show y < (N 9) by omega) ?_
        refine gm_sz (gm_p_const (pc := 52) (i := .iconst (-1)) (v := gm_vi (-1)) (by decide +kernel) (by decide +kernel)) ?_
        exact gm_r_int (pc := 53) (by decide +kernel) (Or.inl (by decide +kernel)) (kv ⟨by omega, by omega⟩ ⟨by omega, by omega⟩ _ (Or.inl ⟨rfl, fun q q0 q1 => hb9 q (by omega) q1⟩) _)
    · show Q (.inr 0) n K _ _
      have c7 : ¬ (0 ≤ y ∧ y ≤ 299) := c7
      exact (k0 ⟨by omega, by omega⟩ (by omega))
  · show Q (.inr 3) n K _ _
    have c2 : ¬ (0 ≤ p ∧ p < N 3) := c2
    exact (k3 (by omega))
theorem re_latest (hd : 20 ≤ d) (hE : E0 n K R) (hT : TR N h M) (hN : NR N) (hfw : FLR X LX n K R N h FI φ) (hI : FI M) (hi : gm_ir p) (hi2 : gm_ir y) (kv : 0 ≤ p ∧ p < N 3 → 0 ≤ y ∧ y ≤ 299 → ∀ v, LATA N h φ p y v → ∀ M2, M2 226 0 = 0 → Q (.inl (some (gm_vi v))) n K R M2) (k1 : ¬ (0 ≤ p ∧ p < N 3) → ∀ M2, M2 226 0 = 1 → Q (.inl (some (gm_vi 0))) n K R M2) (k2 : 0 ≤ p ∧ p < N 3 → ¬ (0 ≤ y ∧ y ≤ 299) → ∀ M2, M2 226 0 = 2 → Q (.inl (some (gm_vi 0))) n K R M2) : gm_Wp X LX d bc bs 326 0 (gm_ent 326 [gm_vr 226, gm_vi p, gm_vi y]) [] n K R M Q := by
  obtain ⟨⟨⟨a0, b0⟩, ⟨a1, b1⟩, ⟨a10, b10⟩, ⟨a11, b11⟩, ⟨a12, b12⟩, a9, b9⟩, ⟨⟨a2, b2⟩, ⟨a5, b5⟩, ⟨a3, b3⟩, ⟨a4, b4⟩, ⟨a6, b6⟩, ⟨a14, b14⟩, ⟨a7, b7⟩, a13, b13⟩, rF, rP, rL⟩ := id hN
  refine gm_sz (gm_p_load (pc := 0) (i := .aload_n 0) (sr := 2) (j := 0) (by decide +kernel) rfl rfl rfl) ?_
  refine gm_sz (gm_p_const (pc := 1) (i := .iconst 0) (v := gm_vi 0) (by decide +kernel) (by decide +kernel)) ?_
  refine gm_sz (fw_pi (pc := 2) (ix := 3) (ci := 11) (j := 0) (M' := gm_uM M 226 0 0) (by decide +kernel) (e0k hE (k := 226) (c := 11) (by decide +kernel)) (by decide +kernel) (by decide +kernel) (by decide +kernel) rfl) ?_
  refine gm_sz (gm_p_load (pc := 5) (i := .aload_n 0) (sr := 2) (j := 0) (by decide +kernel) rfl rfl rfl) ?_
  refine gm_sz (gm_p_load (pc := 6) (i := .aload_n 0) (sr := 2) (j := 0) (by decide +kernel) rfl rfl rfl) ?_
  refine gm_sz (gm_p_load (pc := 7) (i := .iload_n 1) (sr := 0) (j := 1) (by decide +kernel) rfl rfl rfl) ?_
  refine gm_c_virt (k := 226) (ci := 11) (mj := 298) (ix := 393) (pc := 8) (as := [gm_vi p]) (st := [gm_vr 226]) (d' := d - 1) (bc' := 0) (bs' := 0) (by decide +kernel) (by decide +kernel) (by decide +kernel) (by decide +kernel) (e0k hE (k := 226) (c := 11) (by decide +kernel)).1 (e0k hE (k := 226) (c := 11) (by decide +kernel)).2 (by decide) (by decide +kernel) (show 1 = gm_na 298 by decide +kernel) (fw_c1 fw_si) (show 2 ≤ gm_ml 298 by decide +kernel) (Nat.le_of_ble_eq_true rfl) (by omega) (Nat.zero_le _) (Nat.zero_le _) ?_
  refine no_298 (i := p) (by omega) hE (tr_fr (W := [(226, some 0)]) hT (fr_p fr_0 (Or.inr (by decide))) (by decide)) hN hi (fun n8 => ?_) (fun n8 => ?_)
  · show gm_Wp X LX d _ _ 326 11 _ [gm_vi 1, gm_vr 226] n K _ _ Q
    have n8 : ¬ (0 ≤ p ∧ p < N 3) := n8
    refine gm_sz (gm_p_const (pc := 11) (i := .iconst 1) (v := gm_vi 1) (by decide +kernel) (by decide +kernel)) ?_
    refine gm_c_virt (k := 226) (ci := 11) (mj := 282) (ix := 300) (pc := 12) (as := [gm_vi 1, gm_vi 1]) (st := []) (d' := d - 1) (bc' := 0) (bs' := 0) (by decide +kernel) (by decide +kernel) (by decide +kernel) (by decide +kernel) (e0k hE (k := 226) (c := 11) (by decide +kernel)).1 (e0k hE (k := 226) (c := 11) (by decide +kernel)).2 (by decide) (by decide +kernel) (show 2 = gm_na 282 by decide +kernel) (fw_c2 fw_si fw_si) (show 3 ≤ gm_ml 282 by decide +kernel) (Nat.le_of_ble_eq_true rfl) (by omega) (Nat.zero_le _) (Nat.zero_le _) ?_
    refine tf_1 hE ?_
    show gm_Wp X LX d _ _ 326 15 _ [gm_vi 1] n K _ _ Q
    refine fw_iftd (cc := .ne) (pc := 15) (off := 15) (by decide +kernel) (by decide) ⟨by decide, by decide⟩ (by decide) ?_
    refine gm_sz (gm_p_const (pc := 30) (i := .iconst 0) (v := gm_vi 0) (by decide +kernel) (by decide +kernel)) ?_
    exact gm_r_int (pc := 31) (by decide +kernel) (Or.inl (by decide +kernel)) (k1 (by omega) _ uM_at)
  · show gm_Wp X LX d _ _ 326 11 _ [gm_vi 0, gm_vr 226] n K _ _ Q
    have n8 : 0 ≤ p ∧ p < N 3 := n8
    refine gm_sz (gm_p_const (pc := 11) (i := .iconst 1) (v := gm_vi 1) (by decide +kernel) (by decide +kernel)) ?_
    refine gm_c_virt (k := 226) (ci := 11) (mj := 282) (ix := 300) (pc := 12) (as := [gm_vi 0, gm_vi 1]) (st := []) (d' := d - 1) (bc' := 0) (bs' := 0) (by decide +kernel) (by decide +kernel) (by decide +kernel) (by decide +kernel) (e0k hE (k := 226) (c := 11) (by decide +kernel)).1 (e0k hE (k := 226) (c := 11) (by decide +kernel)).2 (by decide) (by decide +kernel) (show 2 = gm_na 282 by decide +kernel) (fw_c2 fw_si fw_si) (show 3 ≤ gm_ml 282 by decide +kernel) (Nat.le_of_ble_eq_true rfl) (by omega) (Nat.zero_le _) (Nat.zero_le _) ?_
    refine tf_0 hE ?_
    show gm_Wp X LX d _ _ 326 15 _ [gm_vi 0] n K _ _ Q
    refine fw_iffd (cc := .ne) (pc := 15) (off := 15) (by decide +kernel) (by decide) ⟨by decide, by decide⟩ (by decide) ?_
    refine gm_sz (gm_p_load (pc := 18) (i := .aload_n 0) (sr := 2) (j := 0) (by decide +kernel) rfl rfl rfl) ?_
    refine gm_sz (gm_p_load (pc := 19) (i := .iload_n 2) (sr := 0) (j := 2) (by decide +kernel) rfl rfl rfl) ?_
    refine gm_c_stat (mj := 285) (ix := 353) (pc := 20) (as := [gm_vi y]) (st := [gm_vr 226]) (d' := d - 1) (bc' := 0) (bs' := 0) (by decide +kernel) (by decide +kernel) (by decide +kernel) (by decide +kernel) (show 1 = gm_na 285 by decide +kernel) (fw_c1 fw_si) (show 1 ≤ gm_ml 285 by decide +kernel) (Nat.le_of_ble_eq_true rfl) (by omega) (Nat.zero_le _) (Nat.zero_le _) ?_
    refine no_285 (i := y) (by omega) hi2 (fun n20 => ?_) (fun n20 => ?_)
    · show gm_Wp X LX d _ _ 326 23 _ [gm_vi 1, gm_vr 226] n K _ _ Q
      have n20 : ¬ (0 ≤ y ∧ y ≤ 299) := n20
      refine gm_sz (gm_p_const (pc := 23) (i := .iconst 2) (v := gm_vi 2) (by decide +kernel) (by decide +kernel)) ?_
      refine gm_c_virt (k := 226) (ci := 11) (mj := 282) (ix := 300) (pc := 24) (as := [gm_vi 1, gm_vi 2]) (st := []) (d' := d - 1) (bc' := 0) (bs' := 0) (by decide +kernel) (by decide +kernel) (by decide +kernel) (by decide +kernel) (e0k hE (k := 226) (c := 11) (by decide +kernel)).1 (e0k hE (k := 226) (c := 11) (by decide +kernel)).2 (by decide) (by decide +kernel) (show 2 = gm_na 282 by decide +kernel) (fw_c2 fw_si fw_si) (show 3 ≤ gm_ml 282 by decide +kernel) (Nat.le_of_ble_eq_true rfl) (by omega) (Nat.zero_le _) (Nat.zero_le _) ?_
      refine tf_1 hE ?_
      show gm_Wp X LX d _ _ 326 27 _ [gm_vi 1] n K _ _ Q
      refine fw_iffd (cc := .eq) (pc := 27) (off := 5) (by decide +kernel) (by decide) ⟨by decide, by decide⟩ (by decide) ?_
      refine gm_sz (gm_p_const (pc := 30) (i := .iconst 0) (v := gm_vi 0) (by decide +kernel) (by decide +kernel)) ?_
      exact gm_r_int (pc := 31) (by decide +kernel) (Or.inl (by decide +kernel)) (k2 ⟨by omega, by omega⟩ (by omega) _ uM_at)
    · show gm_Wp X LX d _ _ 326 23 _ [gm_vi 0, gm_vr 226] n K _ _ Q
      have n20 : 0 ≤ y ∧ y ≤ 299 := n20
      refine gm_sz (gm_p_const (pc := 23) (i := .iconst 2) (v := gm_vi 2) (by decide +kernel) (by decide +kernel)) ?_
      refine gm_c_virt (k := 226) (ci := 11) (mj := 282) (ix := 300) (pc := 24) (as := [gm_vi 0, gm_vi 2]) (st := []) (d' := d - 1) (bc' := 0) (bs' := 0) (by decide +kernel) (by decide +kernel) (by decide +kernel) (by decide +kernel) (e0k hE (k := 226) (c := 11) (by decide +kernel)).1 (e0k hE (k := 226) (c := 11) (by decide +kernel)).2 (by decide) (by decide +kernel) (show 2 = gm_na 282 by decide +kernel) (fw_c2 fw_si fw_si) (show 3 ≤ gm_ml 282 by decide +kernel) (Nat.le_of_ble_eq_true rfl) (by omega) (Nat.zero_le _) (Nat.zero_le _) ?_
      refine tf_0 hE ?_
      show gm_Wp X LX d _ _ 326 27 _ [gm_vi 0] n K _ _ Q
      refine fw_iftd (cc := .eq) (pc := 27) (off := 5) (by decide +kernel) (by decide) ⟨by decide, by decide⟩ (by decide) ?_
      refine gm_sz (gm_p_const (pc := 32) (i := .sipush 299) (v := gm_vi 299) (by decide +kernel) (by decide +kernel)) ?_
      refine gm_sz (gm_p_stor (pc := 35) (i := .istore_n 3) (sr := 0) (j := 3) (by decide +kernel) rfl (show 4 ≤ _ from Nat.le_of_ble_eq_true rfl) rfl) ?_
      exact la_r hd hE (tr_fr (W := [(226, some 0)]) hT (fr_p fr_0 (Or.inr (by decide))) (by decide)) hN hfw (hfw.2.1 [(226, some 0)] _ _ (by decide) (fr_p fr_0 (Or.inr (by decide))) hI) ⟨by omega, by omega⟩ ⟨by omega, by omega⟩ (kv ⟨by omega, by omega⟩ ⟨by omega, by omega⟩) (299 - (N 9 - 1)).toNat 299 _ _ (by omega) (by omega) (fun q q0 q1 => by omega) fr_0 (hfw.2.1 [(226, some 0)] _ _ (by decide) (fr_p fr_0 (Or.inr (by decide))) hI) uM_at
end TH63
section TH63B
variable {X : Int → Int} {LX d bc bs n g z g1 : Nat} {la : Nat → Nat} {K : gm_K} {R : gm_R} {M : gm_M} {N : Int → Int} {lw : Option (List lln)} {A : List (Int → Int)} {im : Option ((Int → Int) × Option (List lln))} {t w : Int} {f : Int → Int} {a b c e : Int} {NC : Nat} {C Ln G : Int → Int}
/-- what hut answers -/
noncomputable def v_hut (lw : Option (List lln)) (N : Int → Int) (a b : Int) : Int := @dite Int (∃ v, HUTA N (hts (N 13)) (aphi lw N (hts (N 13))) a b v) (Classical.propDecidable _) (fun h => Classical.choose h) (fun _ => 0)
theorem v_hut_s {v : Int} (h : HUTA N (hts (N 13)) (aphi lw N (hts (N 13))) a b v) : v_hut lw N a b = v := by
  unfold v_hut
  rw [dif_pos ⟨v, h⟩]
  exact HUTA_u (Classical.choose_spec (⟨v, h⟩ : ∃ v, HUTA N (hts (N 13)) (aphi lw N (hts (N 13))) a b v)) h
noncomputable def q_hut (lw : Option (List lln)) (N : Int → Int) (a : Int) (b : Int) : Int × Int := tif (¬ (0 ≤ a ∧ a < N 0)) (1, 0) (tif (¬ (1 ≤ b ∧ b ≤ 299)) (2, 0) (0, v_hut lw N a b))
theorem iq_hut : gm_ir (q_hut lw N a b).1 := by
  unfold q_hut
  exact tif_ir (show (-2147483648 : Int) ≤ 1 ∧ (1 : Int) < 2147483648 from by decide) (tif_ir (show (-2147483648 : Int) ≤ 2 ∧ (2 : Int) < 2147483648 from by decide) ((show (-2147483648 : Int) ≤ 0 ∧ (0 : Int) < 2147483648 from by decide)))
theorem cq_hut (hd : 24 ≤ d) (hbc : 4 ≤ bc) (hbs : 24 ≤ bs) (hE : E0 n K R) (hn : 245 ≤ n) (hK : K 245 = (2, 1)) (hc : CC n K R NC C Ln G lw) (hL : LBX NC C Ln lw M) (hG : GJ N) (hV : CLV N lw A im t w f M) (ia : gm_ir a) (ib : gm_ir b) : gm_Wp X LX d bc bs 172 0 (gm_ent 172 [gm_vr 1, gm_vi a, gm_vi b]) [] n K R M (hQ [(3, 1), (0, 2)] (CF (q_hut lw N a b).1 (oV (q_hut lw N a b).1 (q_hut lw N a b).2))) := by
  exact cl_hut (Nat.le_trans (by decide) hd) hbc hbs hE hV.1.1 hG.1.1 (flw_a hE hc hG.1.1 hG.1.2.1) (fic_of hL hV) ia ib (fun h h2 v hv M2 => hQ_v hn hK (cf_v hK ((tif_f (fun hh => hh h)).trans ((tif_f (fun hh => hh h2)).trans (congrArg (Prod.mk 0) (v_hut_s hv)))) rfl)) (fun h => hQ_x hn hK (c := 1) (by decide) (cf_x hK (tif_t h) (by decide))) (fun h h2 => hQ_x hn hK (c := 2) (by decide) (cf_x hK ((tif_f (fun hh => hh h)).trans (tif_t h2)) (by decide)))
theorem rq_hut (hd : 24 ≤ d) (hE : E0 n K R) (hT : jT fun j => M 227 (395 + j)) (hS6 : NSb 6 N) (hG : GJ N) (hV : RFV N lw A im t w f M) (ia : gm_ir a) (ib : gm_ir b) : gm_Wp X LX d bc bs 327 0 (gm_ent 327 [gm_vr 226, gm_vi a, gm_vi b]) [] n K R M (RF (q_hut lw N a b).1 (q_hut lw N a b).2) := by
  have k226 := k226 hE
  exact re_hut (Nat.le_trans (by decide) hd) hE hV.1.1 hG.1.1 (flr_a hE (lawg_of hV.1.2.1 hT) hgeo_r hG.1.1 hG.1.1 hS6) ⟨hV.2.1, fun _ _ => rfl⟩ ia ib (fun h h2 v hv M2 h0 => rf_e k226 ((tif_f (fun hh => hh h)).trans ((tif_f (fun hh => hh h2)).trans (congrArg (Prod.mk 0) (v_hut_s hv)))) (fun _ => rfl) h0) (fun h M2 h0 => rf_e k226 (tif_t h) (fun e => absurd e (by decide)) h0) (fun h h2 M2 h0 => rf_e k226 ((tif_f (fun hh => hh h)).trans (tif_t h2)) (fun e => absurd e (by decide)) h0)
theorem fw_hut (hb : bg g la K R M) (hR : REL la K M N lw A im t w f) (ia : gm_ir a) (ib : gm_ir b) : ∀ z g1, bs_ok la z g1 → ¬ z = 100003 → gm_Wp X LX 279 6 600 171 0 (gm_ent 171 (gm_vr 1 :: bc_as [a, b] true)) [] (245 + 4 * g1) (bs_K la K) (bs_R z g1) (bs_M la M) (CF (q_hut lw N a b).1 (oV (q_hut lw N a b).1 (q_hut lw N a b).2)) := by
  intro z g1 hz hz3
  have hE := e0_w hb hz
  obtain ⟨NC, C, Ln, hcc, hlb⟩ := cc_w hb hz hz3 hR.2.1.1 hR.2.2.2.1.2.1
  exact hl_171 (d := 278) (k1_e hE) (cq_hut (by decide) (by decide) (by decide) hE (k245 hE).1 (k245 hE).2 hcc hlb hR.1.1 (clv_w hb hR.2.2.1) ia ib)
theorem fm_hut (hb : bg g la K R M) (hR : REL la K M N lw A im t w f) (ia : gm_ir a) (ib : gm_ir b) : gm_Wp X LX 279 6 600 327 0 (gm_ent 327 (gm_vr 226 :: [a, b].map gm_vi)) [] 245 (bs_K la K) (bs_R 100003 0) (bs_M la M) (RF (q_hut lw N a b).1 (q_hut lw N a b).2) := rq_hut (by decide) (e0_w hb (Or.inr (Or.inl ⟨rfl, rfl⟩))) (gJ_w hb) (ns6 (bs_F0 (z := 100003) hb) (rfv_w (la := la) hR.2.2.2).1.1.1 hR.1.1.1.1) hR.1.1 (rfv_w hR.2.2.2) ia ib
/-- what latest answers -/
noncomputable def v_latest (lw : Option (List lln)) (N : Int → Int) (a b : Int) : Int := @dite Int (∃ v, LATA N (hts (N 13)) (aphi lw N (hts (N 13))) a b v) (Classical.propDecidable _) (fun h => Classical.choose h) (fun _ => 0)
theorem v_latest_s {v : Int} (h : LATA N (hts (N 13)) (aphi lw N (hts (N 13))) a b v) : v_latest lw N a b = v := by
  unfold v_latest
  rw [dif_pos ⟨v, h⟩]
  exact LATA_u (Classical.choose_spec (⟨v, h⟩ : ∃ v, LATA N (hts (N 13)) (aphi lw N (hts (N 13))) a b v)) h
noncomputable def q_latest (lw : Option (List lln)) (N : Int → Int) (a : Int) (b : Int) : Int × Int := tif (¬ (0 ≤ a ∧ a < N 3)) (1, 0) (tif (¬ (0 ≤ b ∧ b ≤ 299)) (2, 0) (0, v_latest lw N a b))
theorem iq_latest : gm_ir (q_latest lw N a b).1 := by
  unfold q_latest
  exact tif_ir (show (-2147483648 : Int) ≤ 1 ∧ (1 : Int) < 2147483648 from by decide) (tif_ir (show (-2147483648 : Int) ≤ 2 ∧ (2 : Int) < 2147483648 from by decide) ((show (-2147483648 : Int) ≤ 0 ∧ (0 : Int) < 2147483648 from by decide)))
theorem cq_latest (hd : 24 ≤ d) (hbc : 4 ≤ bc) (hbs : 24 ≤ bs) (hE : E0 n K R) (hn : 245 ≤ n) (hK : K 245 = (2, 1)) (hc : CC n K R NC C Ln G lw) (hL : LBX NC C Ln lw M) (hG : GJ N) (hV : CLV N lw A im t w f M) (ia : gm_ir a) (ib : gm_ir b) : gm_Wp X LX d bc bs 169 0 (gm_ent 169 [gm_vr 1, gm_vi a, gm_vi b]) [] n K R M (hQ [(3, 1), (0, 2)] (CF (q_latest lw N a b).1 (oV (q_latest lw N a b).1 (q_latest lw N a b).2))) := by
  exact cl_latest (Nat.le_trans (by decide) hd) hbc hbs hE hV.1.1 hG.1.1 (flw_a hE hc hG.1.1 hG.1.2.1) (fic_of hL hV) ia ib (fun h h2 v hv M2 => hQ_v hn hK (cf_v hK ((tif_f (fun hh => hh h)).trans ((tif_f (fun hh => hh h2)).trans (congrArg (Prod.mk 0) (v_latest_s hv)))) rfl)) (fun h => hQ_x hn hK (c := 1) (by decide) (cf_x hK (tif_t h) (by decide))) (fun h h2 => hQ_x hn hK (c := 2) (by decide) (cf_x hK ((tif_f (fun hh => hh h)).trans (tif_t h2)) (by decide)))
theorem rq_latest (hd : 24 ≤ d) (hE : E0 n K R) (hT : jT fun j => M 227 (395 + j)) (hS6 : NSb 6 N) (hG : GJ N) (hV : RFV N lw A im t w f M) (ia : gm_ir a) (ib : gm_ir b) : gm_Wp X LX d bc bs 326 0 (gm_ent 326 [gm_vr 226, gm_vi a, gm_vi b]) [] n K R M (RF (q_latest lw N a b).1 (q_latest lw N a b).2) := by
  have k226 := k226 hE
  exact re_latest (Nat.le_trans (by decide) hd) hE hV.1.1 hG.1.1 (flr_a hE (lawg_of hV.1.2.1 hT) hgeo_r hG.1.1 hG.1.1 hS6) ⟨hV.2.1, fun _ _ => rfl⟩ ia ib (fun h h2 v hv M2 h0 => rf_e k226 ((tif_f (fun hh => hh h)).trans ((tif_f (fun hh => hh h2)).trans (congrArg (Prod.mk 0) (v_latest_s hv)))) (fun _ => rfl) h0) (fun h M2 h0 => rf_e k226 (tif_t h) (fun e => absurd e (by decide)) h0) (fun h h2 M2 h0 => rf_e k226 ((tif_f (fun hh => hh h)).trans (tif_t h2)) (fun e => absurd e (by decide)) h0)
theorem fw_latest (hb : bg g la K R M) (hR : REL la K M N lw A im t w f) (ia : gm_ir a) (ib : gm_ir b) : ∀ z g1, bs_ok la z g1 → ¬ z = 100003 → gm_Wp X LX 279 6 600 168 0 (gm_ent 168 (gm_vr 1 :: bc_as [a, b] true)) [] (245 + 4 * g1) (bs_K la K) (bs_R z g1) (bs_M la M) (CF (q_latest lw N a b).1 (oV (q_latest lw N a b).1 (q_latest lw N a b).2)) := by
  intro z g1 hz hz3
  have hE := e0_w hb hz
  obtain ⟨NC, C, Ln, hcc, hlb⟩ := cc_w hb hz hz3 hR.2.1.1 hR.2.2.2.1.2.1
  exact hl_168 (d := 278) (k1_e hE) (cq_latest (by decide) (by decide) (by decide) hE (k245 hE).1 (k245 hE).2 hcc hlb hR.1.1 (clv_w hb hR.2.2.1) ia ib)
theorem fm_latest (hb : bg g la K R M) (hR : REL la K M N lw A im t w f) (ia : gm_ir a) (ib : gm_ir b) : gm_Wp X LX 279 6 600 326 0 (gm_ent 326 (gm_vr 226 :: [a, b].map gm_vi)) [] 245 (bs_K la K) (bs_R 100003 0) (bs_M la M) (RF (q_latest lw N a b).1 (q_latest lw N a b).2) := rq_latest (by decide) (e0_w hb (Or.inr (Or.inl ⟨rfl, rfl⟩))) (gJ_w hb) (ns6 (bs_F0 (z := 100003) hb) (rfv_w (la := la) hR.2.2.2).1.1.1 hR.1.1.1.1) hR.1.1 (rfv_w hR.2.2.2) ia ib
end TH63B
