/-! 7c57.rg -/
section
/-! RANGE, SWIFTEST, BARE: what they answer. -/
/-- the year when what starts there is out -/
def FRO (N h : Int → Int) (φ : Int → Int → Int → Int) (lane row y v : Int) : Prop := (v = -1 ∧ ∀ j : Nat, y + (j : Int) ≤ 299 → (nwy N h φ lane 0 (-1) y row j).1 < N 1) ∨ ∃ j : Nat, y + (j : Int) ≤ 299 ∧ v = y + (j : Int) ∧ N 1 ≤ (nwy N h φ lane 0 (-1) y row j).1 ∧ ∀ i, i < j → (nwy N h φ lane 0 (-1) y row i).1 < N 1
theorem FRO_u {N h : Int → Int} {φ : Int → Int → Int → Int} {lane row y v v2 : Int} (a : FRO N h φ lane row y v) (b : FRO N h φ lane row y v2) : v = v2 := by
  rcases a with ⟨a1, a2⟩ | ⟨k, a1, a2, a3, a4⟩
  · rcases b with ⟨b1, b2⟩ | ⟨j, b1, b2, b3, b4⟩
    · omega
    · have := a2 j b1
      omega
  · rcases b with ⟨b1, b2⟩ | ⟨j, b1, b2, b3, b4⟩
    · have := b2 k a1
      omega
    · have e : k = j := by
        rcases Nat.lt_trichotomy k j with h | h | h
        · have := b4 k h
          omega
        · exact h
        · have := a4 j h
          omega
      rw [a2, b2, e]
theorem FRO_x {N h : Int → Int} {φ : Int → Int → Int → Int} {lane row y : Int} : ∃ v, FRO N h φ lane row y v := by
  have key : ∀ m : Nat, (∀ k : Nat, k < m → y + (k : Int) ≤ 299 → (nwy N h φ lane 0 (-1) y row k).1 < N 1) ∨ ∃ k : Nat, y + (k : Int) ≤ 299 ∧ N 1 ≤ (nwy N h φ lane 0 (-1) y row k).1 ∧ ∀ i : Nat, i < k → (nwy N h φ lane 0 (-1) y row i).1 < N 1 := by
    intro m
    induction m with
    | zero => exact Or.inl (fun k k2 => absurd k2 (Nat.not_lt_zero _))
    | succ m ih =>
      rcases ih with hx | hx
      · by_cases h1 : y + (m : Int) ≤ 299
        · by_cases hb : N 1 ≤ (nwy N h φ lane 0 (-1) y row m).1
          · exact Or.inr ⟨m, h1, hb, fun i i2 => hx i i2 (by omega)⟩
          · refine Or.inl (fun k k2 k3 => ?_)
            by_cases e : k = m
            · subst e; omega
            · exact hx k (by omega) k3
        · refine Or.inl (fun k k2 k3 => ?_)
          exact hx k (by omega) k3
      · exact Or.inr hx
  rcases key (300 - y).toNat with h | ⟨k, a, b, c⟩
  · exact ⟨-1, Or.inl ⟨rfl, fun k k2 => h k (by omega) k2⟩⟩
  · exact ⟨_, Or.inr ⟨k, a, rfl, b, c⟩⟩
noncomputable def fro (N h : Int → Int) (φ : Int → Int → Int → Int) (lane row y : Int) : Int := Classical.choose (FRO_x (N := N) (h := h) (φ := φ) (lane := lane) (row := row) (y := y))
theorem fro_s {N h : Int → Int} {φ : Int → Int → Int → Int} {lane row y : Int} : FRO N h φ lane row y (fro N h φ lane row y) := Classical.choose_spec FRO_x
theorem fro_b {N h : Int → Int} {φ : Int → Int → Int → Int} {lane row y : Int} (h0 : 0 ≤ y) : (fro N h φ lane row y = -1 ∨ y ≤ fro N h φ lane row y) ∧ -1 ≤ fro N h φ lane row y ∧ fro N h φ lane row y ≤ 299 := by
  rcases fro_s (N := N) (h := h) (φ := φ) (lane := lane) (row := row) (y := y) with ⟨a1, a2⟩ | ⟨j, a1, a2, a3, a4⟩ <;> exact ⟨by omega, by omega, by omega⟩
/-- the fastest lane so far, and its year -/
noncomputable def swf (N h : Int → Int) (φ : Int → Int → Int → Int) (row y : Int) : Nat → Int × Int
  | 0 => (-1, 300)
  | k + 1 => if fro N h φ (k : Int) row y = -1 ∨ (swf N h φ row y k).2 ≤ fro N h φ (k : Int) row y then swf N h φ row y k else ((k : Int), fro N h φ (k : Int) row y)
theorem swf_b {N h : Int → Int} {φ : Int → Int → Int → Int} {row y : Int} (h0 : 0 ≤ y) : ∀ k : Nat, (-1 ≤ (swf N h φ row y k).1 ∧ (swf N h φ row y k).1 < (k : Int)) ∧ (0 ≤ (swf N h φ row y k).2 ∧ (swf N h φ row y k).2 ≤ 300) := by
  intro k
  induction k with
  | zero => exact show ((-1 : Int) ≤ -1 ∧ (-1 : Int) < ((0 : Nat) : Int)) ∧ (0 : Int) ≤ 300 ∧ (300 : Int) ≤ 300 from ⟨⟨by decide, by decide⟩, by decide, by decide⟩
  | succ k ih =>
    have fb := fro_b (N := N) (h := h) (φ := φ) (lane := (k : Int)) (row := row) h0
    by_cases hc : fro N h φ (k : Int) row y = -1 ∨ (swf N h φ row y k).2 ≤ fro N h φ (k : Int) row y
    · rw [show swf N h φ row y (k + 1) = swf N h φ row y k from if_pos hc]
      exact ⟨⟨by omega, by omega⟩, ih.2⟩
    · rw [show swf N h φ row y (k + 1) = ((k : Int), fro N h φ (k : Int) row y) from if_neg hc]
      exact ⟨⟨by omega, by omega⟩, by omega, by omega⟩
section RG57
variable {X : Int → Int} {LX d bc bs n : Nat} {K : gm_K} {R : gm_R} {M : gm_M} {Q : gm_Q} {N h : Int → Int} {sp : Int → Int → Int} {FI : gm_M → Prop} {φ : Int → Int → Int → Int} {l lane row year y p w x k c v a b t : Int}
theorem fo_30 (hd : 15 ≤ d) (hE : E0 n K R) (hT : TI N h sp M) (hN : NR N) (hfw : FLW X LX n K R N h sp FI φ) (hI : FI M) (g2 : M 206 2 = lane) (g3 : M 206 3 = 0) (g4 : M 206 4 = -1) (g5 : M 206 5 = row) (g6 : M 206 6 = 0) (g7 : M 206 7 = y) (y9 : 0 ≤ y ∧ y ≤ 299) (b2 : 0 ≤ lane ∧ lane < N 0) (b5 : 0 ≤ row ∧ row ≤ 300) (hq : ∀ M2, fr [(206, some 5), (206, some 6), (206, some 7), (206, some 8), (200, some 6), (204, none), (205, none)] M M2 → FI M2 → Q (.inl (some (gm_vi (fro N h φ lane row y)))) n K R M2) : gm_Wp X LX d bc bs 30 0 (gm_ent 30 [gm_vr 206, gm_vi 299]) [] n K R M Q := by
  refine wy_c30_206 (lane := lane) (rock := 0) (wo := -1) (r0 := row) (y0 := y) (lim := 299) hd hE hT hN hfw hI g2 g3 g4 g5 g6 g7 y9.1 b2 ⟨by decide, by decide⟩ ⟨by decide, by decide⟩ b5 y9.2 (by decide) (by decide) (fun j M2 hf hI2 g1 g8 g9 _ _ => ?_) (fun M2 hf hI2 g1 => ?_)
  · rw [show y + (j : Int) = fro N h φ lane row y from FRO_u (Or.inr ⟨j, g1, rfl, g8, g9⟩) fro_s]
    exact hq M2 hf hI2
  · rw [show (-1 : Int) = fro N h φ lane row y from FRO_u (Or.inl ⟨rfl, g1⟩) fro_s]
    exact hq M2 hf hI2
theorem rrun_f {M2 : gm_M} (hr : rrun N h φ lane 0 (-1) y row M2) : M2 226 29 = fro N h φ lane row y := by
  obtain ⟨-, -, hr⟩ := hr
  rcases hr with ⟨a, b⟩ | ⟨j, a, b, c, e⟩
  · exact FRO_u (Or.inl ⟨a, fun j hj => b j (by omega)⟩) fro_s
  · exact FRO_u (Or.inr ⟨j, by omega, b, c, e⟩) fro_s
theorem ou_325 (hd : 16 ≤ d) (hE : E0 n K R) (hT : TR N h M) (hN : NR N) (hfw : FLR X LX n K R N h FI φ) (hI : FI M) (y9 : 0 ≤ y ∧ y ≤ 299) (b2 : 0 ≤ lane ∧ lane < N 0) (b5 : 0 ≤ row ∧ row ≤ 300) (hq : ∀ M2, fr [(226, some 29), (226, some 30), (226, some 26), (226, some 17), (226, some 18), (226, some 19), (226, some 20), (226, some 21), (226, some 22), (226, some 23), (235, none), (233, none), (236, none), (237, none)] M M2 → FI M2 → Q (.inl (some (gm_vi (fro N h φ lane row y)))) n K R M2) : gm_Wp X LX d bc bs 325 0 (gm_ent 325 [gm_vr 226, gm_vi lane, gm_vi row, gm_vi y]) [] n K R M Q := by
  obtain ⟨⟨⟨a0, b0⟩, ⟨a1, b1⟩, ⟨a10, b10⟩, ⟨a11, b11⟩, ⟨a12, b12⟩, a9, b9⟩, ⟨⟨a2, b2⟩, ⟨a5, b5⟩, ⟨a3, b3⟩, ⟨a4, b4⟩, ⟨a6, b6⟩, ⟨a14, b14⟩, ⟨a7, b7⟩, a13, b13⟩, rF, rP, rL⟩ := id hN
  have rk9 : 0 ≤ (0 : Int) ∧ (0 : Int) ≤ 1 := ⟨by decide, by decide⟩
  have hwo9 : gm_ir (-1) := ⟨by decide, by decide⟩
  refine gm_sz (gm_p_load (pc := 0) (i := .aload_n 0) (sr := 2) (j := 0) (by decide +kernel) rfl rfl rfl) ?_
  refine gm_sz (gm_p_load (pc := 1) (i := .iload_n 1) (sr := 0) (j := 1) (by decide +kernel) rfl rfl rfl) ?_
  refine gm_sz (gm_p_load (pc := 2) (i := .iload_n 2) (sr := 0) (j := 2) (by decide +kernel) rfl rfl rfl) ?_
  refine gm_sz (gm_p_load (pc := 3) (i := .iload_n 3) (sr := 0) (j := 3) (by decide +kernel) rfl rfl rfl) ?_
  refine gm_sz (gm_p_const (pc := 4) (i := .iconst 0) (v := gm_vi 0) (by decide +kernel) (by decide +kernel)) ?_
  refine gm_sz (gm_p_const (pc := 5) (i := .iconst (-1)) (v := gm_vi (-1)) (by decide +kernel) (by decide +kernel)) ?_
  refine gm_c_virt (k := 226) (ci := 11) (mj := 306) (ix := 377) (pc := 6) (as := [gm_vi lane, gm_vi row, gm_vi y, gm_vi 0, gm_vi (-1)]) (st := []) (d' := d - 1) (bc' := 0) (bs' := 0) (by decide +kernel) (by decide +kernel) (by decide +kernel) (by decide +kernel) (e0k hE (k := 226) (c := 11) (by decide +kernel)).1 (e0k hE (k := 226) (c := 11) (by decide +kernel)).2 (by decide) (by decide +kernel) (show 5 = gm_na 306 by decide +kernel) (fw_c5 fw_si fw_si fw_si fw_si fw_si) (show 6 ≤ gm_ml 306 by decide +kernel) (Nat.le_of_ble_eq_true rfl) (by omega) (Nat.zero_le _) (Nat.zero_le _) ?_
  refine re_c306 (lane := lane) (r0 := row) (y0 := y) (rk := 0) (wo := (-1)) (by omega) hE hT hN hfw ⟨by omega, by omega⟩ rk9 hwo9 ⟨by omega, by omega⟩ ⟨by omega, by omega⟩ hI (fun M6 hf6 hI6 hr6 => ?_)
  show gm_Wp X LX d _ _ 325 9 _ [] n K _ _ Q
  have hr6 : rrun N h φ lane 0 (-1) y row M6 := hr6
  refine gm_sz (gm_p_load (pc := 9) (i := .aload_n 0) (sr := 2) (j := 0) (by decide +kernel) rfl rfl rfl) ?_
  refine gm_sz (fw_gi (pc := 10) (ix := 368) (ci := 11) (j := 29) (x := M6 226 29) (by decide +kernel) (e0k hE (k := 226) (c := 11) (by decide +kernel)) (by decide +kernel) (by decide +kernel) rfl) ?_
  rw [rrun_f hr6]
  exact gm_r_int (pc := 13) (by decide +kernel) (Or.inl (by decide +kernel)) (hq _ (fr_t fr_0 hf6 (by decide)) hI6)
theorem cl_range (hd : 20 ≤ d) (hbc : 4 ≤ bc) (hbs : 24 ≤ bs) (hE : E0 n K R) (hT : TI N h sp M) (hN : NR N) (hfw : FLW X LX n K R N h sp FI φ) (hI : FI M) (hi : gm_ir lane) (hi2 : gm_ir y) (kn : 0 ≤ lane ∧ lane < N 0 → 0 ≤ y ∧ y ≤ 299 → fro N h φ lane 0 y = -1 → ∀ M2, Q (.inl (some (gm_vi (-1)))) n K R M2) (kv : 0 ≤ lane ∧ lane < N 0 → 0 ≤ y ∧ y ≤ 299 → ¬ fro N h φ lane 0 y = -1 → ∀ M2, Q (.inl (some (gm_vi (fro N h φ lane 0 y - y)))) n K R M2) (k3 : ¬ (0 ≤ lane ∧ lane < N 0) → Q (.inr 3) n K R M) (k0 : 0 ≤ lane ∧ lane < N 0 → ¬ (0 ≤ y ∧ y ≤ 299) → Q (.inr 0) n K R M) : gm_Wp X LX d bc bs 227 0 (gm_ent 227 [gm_vr 1, gm_vi lane, gm_vi y]) [] n K R M Q := by
  obtain ⟨⟨⟨a0, b0⟩, ⟨a1, b1⟩, ⟨a10, b10⟩, ⟨a11, b11⟩, ⟨a12, b12⟩, a9, b9⟩, ⟨⟨a2, b2⟩, ⟨a5, b5⟩, ⟨a3, b3⟩, ⟨a4, b4⟩, ⟨a6, b6⟩, ⟨a14, b14⟩, ⟨a7, b7⟩, a13, b13⟩, rF, rP, rL⟩ := id hN
  refine gm_sz (gm_p_load (pc := 0) (i := .aload_n 0) (sr := 2) (j := 0) (by decide +kernel) rfl rfl rfl) ?_
  refine gm_sz (gm_p_load (pc := 1) (i := .iload_n 1) (sr := 0) (j := 1) (by decide +kernel) rfl rfl rfl) ?_
  refine gm_c_virt (k := 1) (ci := 0) (mj := 132) (ix := 166) (pc := 2) (as := [gm_vi lane]) (st := []) (d' := d - 1) (bc' := 1) (bs' := 6) (by decide +kernel) (by decide +kernel) (by decide +kernel) (by decide +kernel) (e0k hE (k := 1) (c := 0) (by decide +kernel)).1 (e0k hE (k := 1) (c := 0) (by decide +kernel)).2 (by decide) (by decide +kernel) (show 1 = gm_na 132 by decide +kernel) (fw_c1 fw_si) (show 2 ≤ gm_ml 132 by decide +kernel) (Nat.le_of_ble_eq_true rfl) (by omega) (by omega) (by omega) ?_
  refine nd_132 (i := lane) (by omega) (by omega) (by omega) hE hT hN hi (fun c2 => ?_) (fun c2 => ?_)
  · show gm_Wp X LX d _ _ 227 5 _ [] n K _ _ Q
    have c2 : 0 ≤ lane ∧ lane < N 0 := c2
    refine gm_sz (gm_p_load (pc := 5) (i := .aload_n 0) (sr := 2) (j := 0) (by decide +kernel) rfl rfl rfl) ?_
    refine gm_sz (gm_p_load (pc := 6) (i := .iload_n 2) (sr := 0) (j := 2) (by decide +kernel) rfl rfl rfl) ?_
    refine gm_c_virt (k := 1) (ci := 0) (mj := 129) (ix := 160) (pc := 7) (as := [gm_vi y]) (st := []) (d' := d - 1) (bc' := 1) (bs' := 6) (by decide +kernel) (by decide +kernel) (by decide +kernel) (by decide +kernel) (e0k hE (k := 1) (c := 0) (by decide +kernel)).1 (e0k hE (k := 1) (c := 0) (by decide +kernel)).2 (by decide) (by decide +kernel) (show 1 = gm_na 129 by decide +kernel) (fw_c1 fw_si) (show 2 ≤ gm_ml 129 by decide +kernel) (Nat.le_of_ble_eq_true rfl) (by omega) (by omega) (by omega) ?_
    refine nd_129 (i := y) (by omega) (by omega) (by omega) hi2 (fun c7 => ?_) (fun c7 => ?_)
    · show gm_Wp X LX d _ _ 227 10 _ [] n K _ _ Q
      have c7 : 0 ≤ y ∧ y ≤ 299 := c7
      refine gm_sz (gm_p_load (pc := 10) (i := .aload_n 0) (sr := 2) (j := 0) (by decide +kernel) rfl rfl rfl) ?_
      refine gm_sz (fw_gr (pc := 11) (ix := 58) (ci := 0) (j := 9) (r := 206) (by decide +kernel) (e0k hE (k := 1) (c := 0) (by decide +kernel)) (by decide +kernel) (by decide +kernel) (e0r hE (k := 1) (j := 9) (r := 206) (by decide +kernel))) ?_
      refine gm_sz (gm_p_load (pc := 14) (i := .iload_n 1) (sr := 0) (j := 1) (by decide +kernel) rfl rfl rfl) ?_
      refine gm_sz (gm_p_const (pc := 15) (i := .iconst 0) (v := gm_vi 0) (by decide +kernel) (by decide +kernel)) ?_
      refine gm_sz (gm_p_load (pc := 16) (i := .iload_n 2) (sr := 0) (j := 2) (by decide +kernel) rfl rfl rfl) ?_
      refine gm_sz (gm_p_const (pc := 17) (i := .iconst 0) (v := gm_vi 0) (by decide +kernel) (by decide +kernel)) ?_
      refine gm_c_virt (k := 206) (ci := 5) (mj := 29) (ix := 291) (pc := 18) (as := [gm_vi lane, gm_vi 0, gm_vi y, gm_vi 0]) (st := []) (d' := d - 1) (bc' := 0) (bs' := 0) (by decide +kernel) (by decide +kernel) (by decide +kernel) (by decide +kernel) (e0k hE (k := 206) (c := 5) (by decide +kernel)).1 (e0k hE (k := 206) (c := 5) (by decide +kernel)).2 (by decide) (by decide +kernel) (show 4 = gm_na 29 by decide +kernel) (fw_c4 fw_si fw_si fw_si fw_si) (show 5 ≤ gm_ml 29 by decide +kernel) (Nat.le_of_ble_eq_true rfl) (by omega) (Nat.zero_le _) (Nat.zero_le _) ?_
      refine wy_st206 hE hT hN (by first | omega | (split <;> decide)) ?_
      show gm_Wp X LX d _ _ 227 21 _ [] n K _ _ Q
      refine gm_sz (gm_p_load (pc := 21) (i := .aload_n 0) (sr := 2) (j := 0) (by decide +kernel) rfl rfl rfl) ?_
      refine gm_sz (fw_gr (pc := 22) (ix := 58) (ci := 0) (j := 9) (r := 206) (by decide +kernel) (e0k hE (k := 1) (c := 0) (by decide +kernel)) (by decide +kernel) (by decide +kernel) (e0r hE (k := 1) (j := 9) (r := 206) (by decide +kernel))) ?_
      refine gm_sz (gm_p_const (pc := 25) (i := .sipush 299) (v := gm_vi 299) (by decide +kernel) (by decide +kernel)) ?_
      refine gm_c_virt (k := 206) (ci := 5) (mj := 30) (ix := 295) (pc := 28) (as := [gm_vi 299]) (st := []) (d' := d - 1) (bc' := 0) (bs' := 0) (by decide +kernel) (by decide +kernel) (by decide +kernel) (by decide +kernel) (e0k hE (k := 206) (c := 5) (by decide +kernel)).1 (e0k hE (k := 206) (c := 5) (by decide +kernel)).2 (by decide) (by decide +kernel) (show 1 = gm_na 30 by decide +kernel) (fw_c1 fw_si) (show 2 ≤ gm_ml 30 by decide +kernel) (Nat.le_of_ble_eq_true rfl) (by omega) (Nat.zero_le _) (Nat.zero_le _) ?_
      refine fo_30 (lane := lane) (row := 0) (y := y) (by omega) hE (ti_fr (W := [(206, some 2), (206, some 5), (206, some 7), (206, some 3), (206, some 4), (206, some 6), (206, some 8)]) hT (fr_p (fr_p (fr_p (fr_p (fr_p (fr_p (fr_p fr_0 (Or.inr (by decide))) (Or.inr (by decide))) (Or.inr (by decide))) (Or.inr (by decide))) (Or.inr (by decide))) (Or.inr (by decide))) (Or.inr (by decide))) (by decide) (by decide +kernel)) hN hfw (hfw.2.1 [(206, some 2), (206, some 5), (206, some 7), (206, some 3), (206, some 4), (206, some 6), (206, some 8)] _ _ (by decide) (fr_p (fr_p (fr_p (fr_p (fr_p (fr_p (fr_p fr_0 (Or.inr (by decide))) (Or.inr (by decide))) (Or.inr (by decide))) (Or.inr (by decide))) (Or.inr (by decide))) (Or.inr (by decide))) (Or.inr (by decide))) hI) ((uM_ne (by omega)).trans ((uM_ne (by omega)).trans ((uM_ne (by omega)).trans ((uM_ne (by omega)).trans ((uM_ne (by omega)).trans ((uM_ne (by omega)).trans uM_at)))))) ((uM_ne (by omega)).trans ((uM_ne (by omega)).trans ((uM_ne (by omega)).trans uM_at))) ((uM_ne (by omega)).trans ((uM_ne (by omega)).trans uM_at)) ((uM_ne (by omega)).trans ((uM_ne (by omega)).trans ((uM_ne (by omega)).trans ((uM_ne (by omega)).trans ((uM_ne (by omega)).trans uM_at))))) ((uM_ne (by omega)).trans uM_at) ((uM_ne (by omega)).trans ((uM_ne (by omega)).trans ((uM_ne (by omega)).trans ((uM_ne (by omega)).trans uM_at)))) ⟨by omega, by omega⟩ ⟨by omega, by omega⟩ ⟨by omega, by omega⟩ (fun M30 hf30 hI30 => ?_)
      show gm_Wp X LX d _ _ 227 31 _ [gm_vi (fro N h φ lane 0 y)] n K _ _ Q
      have fb := fro_b (N := N) (h := h) (φ := φ) (lane := lane) (row := 0) (y := y) (by omega)
      refine gm_sz (gm_p_stor (pc := 31) (i := .istore_n 3) (sr := 0) (j := 3) (by decide +kernel) rfl (show 4 ≤ _ from Nat.le_of_ble_eq_true rfl) rfl) ?_
      refine gm_sz (gm_p_load (pc := 32) (i := .iload_n 3) (sr := 0) (j := 3) (by decide +kernel) rfl rfl rfl) ?_
      refine gm_sz (gm_p_const (pc := 33) (i := .iconst (-1)) (v := gm_vi (-1)) (by decide +kernel) (by decide +kernel)) ?_
      refine fw_ic (cc := .ne) (pc := 34) (off := 7) (by decide +kernel) (by decide) ⟨by omega, by omega⟩ ⟨by decide, by decide⟩ (fun h34 => ?_) (fun h34 => ?_)
      · have h34 : ¬ (fro N h φ lane 0 y) = (-1) := h34
        refine gm_sz (gm_p_load (pc := 41) (i := .iload_n 3) (sr := 0) (j := 3) (by decide +kernel) rfl rfl rfl) ?_
        refine gm_sz (gm_p_load (pc := 42) (i := .iload_n 2) (sr := 0) (j := 2) (by decide +kernel) rfl rfl rfl) ?_
        refine gm_sz (gm_p_bin (pc := 43) (i := .isub) (f := fun x y => x - y) (by decide +kernel) rfl) ?_
        exact gm_r_int (pc := 44) (by decide +kernel) (Or.inl (by decide +kernel)) (kv ⟨by omega, by omega⟩ ⟨by omega, by omega⟩ (by omega) _)
      · have h34 : (fro N h φ lane 0 y) = (-1) := Classical.not_not.mp h34
        refine gm_sz (gm_p_const (pc := 37) (i := .iconst (-1)) (v := gm_vi (-1)) (by decide +kernel) (by decide +kernel)) ?_
        refine gm_sz (gm_p_goto (pc := 38) (off := 6) (by decide +kernel) (by decide)) ?_
        exact gm_r_int (pc := 44) (by decide +kernel) (Or.inl (by decide +kernel)) (kn ⟨by omega, by omega⟩ ⟨by omega, by omega⟩ (by omega) _)
    · show Q (.inr 0) n K _ _
      have c7 : ¬ (0 ≤ y ∧ y ≤ 299) := c7
      exact (k0 ⟨by omega, by omega⟩ (by omega))
  · show Q (.inr 3) n K _ _
    have c2 : ¬ (0 ≤ lane ∧ lane < N 0) := c2
    exact (k3 (by omega))
theorem re_range (hd : 20 ≤ d) (hE : E0 n K R) (hT : TR N h M) (hN : NR N) (hfw : FLR X LX n K R N h FI φ) (hI : FI M) (hi : gm_ir lane) (hi2 : gm_ir y) (kn : 0 ≤ lane ∧ lane < N 0 → 0 ≤ y ∧ y ≤ 299 → fro N h φ lane 0 y = -1 → ∀ M2, M2 226 0 = 0 → Q (.inl (some (gm_vi (-1)))) n K R M2) (kv : 0 ≤ lane ∧ lane < N 0 → 0 ≤ y ∧ y ≤ 299 → ¬ fro N h φ lane 0 y = -1 → ∀ M2, M2 226 0 = 0 → Q (.inl (some (gm_vi (fro N h φ lane 0 y - y)))) n K R M2) (k1 : ¬ (0 ≤ lane ∧ lane < N 0) → ∀ M2, M2 226 0 = 1 → Q (.inl (some (gm_vi 0))) n K R M2) (k2 : 0 ≤ lane ∧ lane < N 0 → ¬ (0 ≤ y ∧ y ≤ 299) → ∀ M2, M2 226 0 = 2 → Q (.inl (some (gm_vi 0))) n K R M2) : gm_Wp X LX d bc bs 364 0 (gm_ent 364 [gm_vr 226, gm_vi lane, gm_vi y]) [] n K R M Q := by
  obtain ⟨⟨⟨a0, b0⟩, ⟨a1, b1⟩, ⟨a10, b10⟩, ⟨a11, b11⟩, ⟨a12, b12⟩, a9, b9⟩, ⟨⟨a2, b2⟩, ⟨a5, b5⟩, ⟨a3, b3⟩, ⟨a4, b4⟩, ⟨a6, b6⟩, ⟨a14, b14⟩, ⟨a7, b7⟩, a13, b13⟩, rF, rP, rL⟩ := id hN
  refine gm_sz (gm_p_load (pc := 0) (i := .aload_n 0) (sr := 2) (j := 0) (by decide +kernel) rfl rfl rfl) ?_
  refine gm_sz (gm_p_const (pc := 1) (i := .iconst 0) (v := gm_vi 0) (by decide +kernel) (by decide +kernel)) ?_
  refine gm_sz (fw_pi (pc := 2) (ix := 3) (ci := 11) (j := 0) (M' := gm_uM M 226 0 0) (by decide +kernel) (e0k hE (k := 226) (c := 11) (by decide +kernel)) (by decide +kernel) (by decide +kernel) (by decide +kernel) rfl) ?_
  refine gm_sz (gm_p_load (pc := 5) (i := .aload_n 0) (sr := 2) (j := 0) (by decide +kernel) rfl rfl rfl) ?_
  refine gm_sz (gm_p_load (pc := 6) (i := .aload_n 0) (sr := 2) (j := 0) (by decide +kernel) rfl rfl rfl) ?_
  refine gm_sz (gm_p_load (pc := 7) (i := .iload_n 1) (sr := 0) (j := 1) (by decide +kernel) rfl rfl rfl) ?_
  refine gm_c_virt (k := 226) (ci := 11) (mj := 288) (ix := 356) (pc := 8) (as := [gm_vi lane]) (st := [gm_vr 226]) (d' := d - 1) (bc' := 0) (bs' := 0) (by decide +kernel) (by decide +kernel) (by decide +kernel) (by decide +kernel) (e0k hE (k := 226) (c := 11) (by decide +kernel)).1 (e0k hE (k := 226) (c := 11) (by decide +kernel)).2 (by decide) (by decide +kernel) (show 1 = gm_na 288 by decide +kernel) (fw_c1 fw_si) (show 2 ≤ gm_ml 288 by decide +kernel) (Nat.le_of_ble_eq_true rfl) (by omega) (Nat.zero_le _) (Nat.zero_le _) ?_
  refine no_288 (i := lane) (by omega) hE (tr_fr (W := [(226, some 0)]) hT (fr_p fr_0 (Or.inr (by decide))) (by decide)) hN hi (fun n8 => ?_) (fun n8 => ?_)
  · show gm_Wp X LX d _ _ 364 11 _ [gm_vi 1, gm_vr 226] n K _ _ Q
    have n8 : ¬ (0 ≤ lane ∧ lane < N 0) := n8
    refine gm_sz (gm_p_const (pc := 11) (i := .iconst 1) (v := gm_vi 1) (by decide +kernel) (by decide +kernel)) ?_
    refine gm_c_virt (k := 226) (ci := 11) (mj := 282) (ix := 300) (pc := 12) (as := [gm_vi 1, gm_vi 1]) (st := []) (d' := d - 1) (bc' := 0) (bs' := 0) (by decide +kernel) (by decide +kernel) (by decide +kernel) (by decide +kernel) (e0k hE (k := 226) (c := 11) (by decide +kernel)).1 (e0k hE (k := 226) (c := 11) (by decide +kernel)).2 (by decide) (by decide +kernel) (show 2 = gm_na 282 by decide +kernel) (fw_c2 fw_si fw_si) (show 3 ≤ gm_ml 282 by decide +kernel) (Nat.le_of_ble_eq_true rfl) (by omega) (Nat.zero_le _) (Nat.zero_le _) ?_
    refine tf_1 hE ?_
    show gm_Wp X LX d _ _ 364 15 _ [gm_vi 1] n K _ _ Q
    refine fw_iftd (cc := .ne) (pc := 15) (off := 15) (by decide +kernel) (by decide) ⟨by decide, by decide⟩ (by decide) ?_
    refine gm_sz (gm_p_const (pc := 30) (i := .iconst 0) (v := gm_vi 0) (by decide +kernel) (by decide +kernel)) ?_
    exact gm_r_int (pc := 31) (by decide +kernel) (Or.inl (by decide +kernel)) (k1 (by omega) _ uM_at)
  · show gm_Wp X LX d _ _ 364 11 _ [gm_vi 0, gm_vr 226] n K _ _ Q
    have n8 : 0 ≤ lane ∧ lane < N 0 := n8
    refine gm_sz (gm_p_const (pc := 11) (i := .iconst 1) (v := gm_vi 1) (by decide +kernel) (by decide +kernel)) ?_
    refine gm_c_virt (k := 226) (ci := 11) (mj := 282) (ix := 300) (pc := 12) (as := [gm_vi 0, gm_vi 1]) (st := []) (d' := d - 1) (bc' := 0) (bs' := 0) (by decide +kernel) (by decide +kernel) (by decide +kernel) (by decide +kernel) (e0k hE (k := 226) (c := 11) (by decide +kernel)).1 (e0k hE (k := 226) (c := 11) (by decide +kernel)).2 (by decide) (by decide +kernel) (show 2 = gm_na 282 by decide +kernel) (fw_c2 fw_si fw_si) (show 3 ≤ gm_ml 282 by decide +kernel) (Nat.le_of_ble_eq_true rfl) (by omega) (Nat.zero_le _) (Nat.zero_le _) ?_
    refine tf_0 hE ?_
    show gm_Wp X LX d _ _ 364 15 _ [gm_vi 0] n K _ _ Q
    refine fw_iffd (cc := .ne) (pc := 15) (off := 15) (by decide +kernel) (by decide) ⟨by decide, by decide⟩ (by decide) ?_
    refine gm_sz (gm_p_load (pc := 18) (i := .aload_n 0) (sr := 2) (j := 0) (by decide +kernel) rfl rfl rfl) ?_
    refine gm_sz (gm_p_load (pc := 19) (i := .iload_n 2) (sr := 0) (j := 2) (by decide +kernel) rfl rfl rfl) ?_
    refine gm_c_stat (mj := 285) (ix := 353) (pc := 20) (as := [gm_vi y]) (st := [gm_vr 226]) (d' := d - 1) (bc' := 0) (bs' := 0) (by decide +kernel) (by decide +kernel) (by decide +kernel) (by decide +kernel) (show 1 = gm_na 285 by decide +kernel) (fw_c1 fw_si) (show 1 ≤ gm_ml 285 by decide +kernel) (Nat.le_of_ble_eq_true rfl) (by omega) (Nat.zero_le _) (Nat.zero_le _) ?_
    refine no_285 (i := y) (by omega) hi2 (fun n20 => ?_) (fun n20 => ?_)
    · show gm_Wp X LX d _ _ 364 23 _ [gm_vi 1, gm_vr 226] n K _ _ Q
      have n20 : ¬ (0 ≤ y ∧ y ≤ 299) := n20
      refine gm_sz (gm_p_const (pc := 23) (i := .iconst 2) (v := gm_vi 2) (by decide +kernel) (by decide +kernel)) ?_
      refine gm_c_virt (k := 226) (ci := 11) (mj := 282) (ix := 300) (pc := 24) (as := [gm_vi 1, gm_vi 2]) (st := []) (d' := d - 1) (bc' := 0) (bs' := 0) (by decide +kernel) (by decide +kernel) (by decide +kernel) (by decide +kernel) (e0k hE (k := 226) (c := 11) (by decide +kernel)).1 (e0k hE (k := 226) (c := 11) (by decide +kernel)).2 (by decide) (by decide +kernel) (show 2 = gm_na 282 by decide +kernel) (fw_c2 fw_si fw_si) (show 3 ≤ gm_ml 282 by decide +kernel) (Nat.le_of_ble_eq_true rfl) (by omega) (Nat.zero_le _) (Nat.zero_le _) ?_
      refine tf_1 hE ?_
      show gm_Wp X LX d _ _ 364 27 _ [gm_vi 1] n K _ _ Q
      refine fw_iffd (cc := .eq) (pc := 27) (off := 5) (by decide +kernel) (by decide) ⟨by decide, by decide⟩ (by decide) ?_
      refine gm_sz (gm_p_const (pc := 30) (i := .iconst 0) (v := gm_vi 0) (by decide +kernel) (by decide +kernel)) ?_
      exact gm_r_int (pc := 31) (by decide +kernel) (Or.inl (by decide +kernel)) (k2 ⟨by omega, by omega⟩ (by omega) _ uM_at)
    · show gm_Wp X LX d _ _ 364 23 _ [gm_vi 0, gm_vr 226] n K _ _ Q
      have n20 : 0 ≤ y ∧ y ≤ 299 := n20
      refine gm_sz (gm_p_const (pc := 23) (i := .iconst 2) (v := gm_vi 2) (by decide +kernel) (by decide +kernel)) ?_
      refine gm_c_virt (k := 226) (ci := 11) (mj := 282) (ix := 300) (pc := 24) (as := [gm_vi 0, gm_vi 2]) (st := []) (d' := d - 1) (bc' := 0) (bs' := 0) (by decide +kernel) (by decide +kernel) (by decide +kernel) (by decide +kernel) (e0k hE (k := 226) (c := 11) (by decide +kernel)).1 (e0k hE (k := 226) (c := 11) (by decide +kernel)).2 (by decide) (by decide +kernel) (show 2 = gm_na 282 by decide +kernel) (fw_c2 fw_si fw_si) (show 3 ≤ gm_ml 282 by decide +kernel) (Nat.le_of_ble_eq_true rfl) (by omega) (Nat.zero_le _) (Nat.zero_le _) ?_
      refine tf_0 hE ?_
      show gm_Wp X LX d _ _ 364 27 _ [gm_vi 0] n K _ _ Q
      refine fw_iftd (cc := .eq) (pc := 27) (off := 5) (by decide +kernel) (by decide) ⟨by decide, by decide⟩ (by decide) ?_
      refine gm_sz (gm_p_load (pc := 32) (i := .aload_n 0) (sr := 2) (j := 0) (by decide +kernel) rfl rfl rfl) ?_
      refine gm_sz (gm_p_load (pc := 33) (i := .iload_n 1) (sr := 0) (j := 1) (by decide +kernel) rfl rfl rfl) ?_
      refine gm_sz (gm_p_const (pc := 34) (i := .iconst 0) (v := gm_vi 0) (by decide +kernel) (by decide +kernel)) ?_
      refine gm_sz (gm_p_load (pc := 35) (i := .iload_n 2) (sr := 0) (j := 2) (by decide +kernel) rfl rfl rfl) ?_
      refine gm_c_virt (k := 226) (ci := 11) (mj := 325) (ix := 425) (pc := 36) (as := [gm_vi lane, gm_vi 0, gm_vi y]) (st := []) (d' := d - 1) (bc' := 0) (bs' := 0) (by decide +kernel) (by decide +kernel) (by decide +kernel) (by decide +kernel) (e0k hE (k := 226) (c := 11) (by decide +kernel)).1 (e0k hE (k := 226) (c := 11) (by decide +kernel)).2 (by decide) (by decide +kernel) (show 3 = gm_na 325 by decide +kernel) (fw_c3 fw_si fw_si fw_si) (show 4 ≤ gm_ml 325 by decide +kernel) (Nat.le_of_ble_eq_true rfl) (by omega) (Nat.zero_le _) (Nat.zero_le _) ?_
      refine ou_325 (lane := lane) (row := 0) (y := y) (by omega) hE (tr_fr (W := [(226, some 0)]) hT (fr_p fr_0 (Or.inr (by decide))) (by decide)) hN hfw (hfw.2.1 [(226, some 0)] _ _ (by decide) (fr_p fr_0 (Or.inr (by decide))) hI) ⟨by omega, by omega⟩ ⟨by omega, by omega⟩ ⟨by omega, by omega⟩ (fun M25 hf25 hI25 => ?_)
      show gm_Wp X LX d _ _ 364 39 _ [gm_vi (fro N h φ lane 0 y)] n K _ _ Q
      have fb := fro_b (N := N) (h := h) (φ := φ) (lane := lane) (row := 0) (y := y) (by omega)
      refine gm_sz (gm_p_stor (pc := 39) (i := .istore_n 3) (sr := 0) (j := 3) (by decide +kernel) rfl (show 4 ≤ _ from Nat.le_of_ble_eq_true rfl) rfl) ?_
      refine gm_sz (gm_p_load (pc := 40) (i := .iload_n 3) (sr := 0) (j := 3) (by decide +kernel) rfl rfl rfl) ?_
      refine fw_if (cc := .ge) (pc := 41) (off := 7) (by decide +kernel) (by decide) ⟨by omega, by omega⟩ (fun h41 => ?_) (fun h41 => ?_)
      · have h41 : 0 ≤ (fro N h φ lane 0 y) := h41
        refine gm_sz (gm_p_load (pc := 48) (i := .iload_n 3) (sr := 0) (j := 3) (by decide +kernel) rfl rfl rfl) ?_
        refine gm_sz (gm_p_load (pc := 49) (i := .iload_n 2) (sr := 0) (j := 2) (by decide +kernel) rfl rfl rfl) ?_
        refine gm_sz (gm_p_bin (pc := 50) (i := .isub) (f := fun x y => x - y) (by decide +kernel) rfl) ?_
        exact gm_r_int (pc := 51) (by decide +kernel) (Or.inl (by decide +kernel)) (kv ⟨by omega, by omega⟩ ⟨by omega, by omega⟩ (by omega) _ ((fr_j hf25 (by decide)).trans uM_at))
      · have h41 : ¬ 0 ≤ (fro N h φ lane 0 y) := h41
        refine gm_sz (gm_p_const (pc := 44) (i := .iconst (-1)) (v := gm_vi (-1)) (by decide +kernel) (by decide +kernel)) ?_
        refine gm_sz (gm_p_goto (pc := 45) (off := 6) (by decide +kernel) (by decide)) ?_
        exact gm_r_int (pc := 51) (by decide +kernel) (Or.inl (by decide +kernel)) (kn ⟨by omega, by omega⟩ ⟨by omega, by omega⟩ (by omega) _ ((fr_j hf25 (by decide)).trans uM_at))
theorem sw_c (hd : 20 ≤ d) (hbc : 2 ≤ bc) (hbs : 12 ≤ bs) (hE : E0 n K R) (hT : TI N h sp M) (hN : NR N) (hfw : FLW X LX n K R N h sp FI φ) (hI : FI M) (hw : 0 ≤ row ∧ row < N 1) (hy : 0 ≤ y ∧ y ≤ 299) (hq : ∀ M2, Q (.inl (some (gm_vi ((swf N h φ row y (N 0).toNat).1)))) n K R M2) : ∀ (u k : Nat) (z : Option gm_V) (b : Int) (M1 : gm_M), (k : Int) + (u : Int) = N 0 → (b = (swf N h φ row y k).2 ∨ ((swf N h φ row y k).2 = 300 ∧ b = 1000)) → fr [(206, some 2), (206, some 3), (206, some 4), (206, some 5), (206, some 6), (206, some 7), (206, some 8), (200, some 6), (204, none), (205, none)] M M1 → FI M1 → gm_Wp X LX d bc bs 229 20 [some (gm_vr 1), some (gm_vi row), some (gm_vi y), some (gm_vi ((swf N h φ row y k).1)), some (gm_vi b), some (gm_vi (k : Int)), z] [] n K R M1 Q := by
  obtain ⟨⟨⟨a0, b0⟩, ⟨a1, b1⟩, ⟨a10, b10⟩, ⟨a11, b11⟩, ⟨a12, b12⟩, a9, b9⟩, ⟨⟨a2, b2⟩, ⟨a5, b5⟩, ⟨a3, b3⟩, ⟨a4, b4⟩, ⟨a6, b6⟩, ⟨a14, b14⟩, ⟨a7, b7⟩, a13, b13⟩, rF, rP, rL⟩ := id hN
  intro u
  induction u with
  | zero =>
    intro k z b M1 hk hb hf hI1
    have ek : k = (N 0).toNat := by omega
    have sb := swf_b (N := N) (h := h) (φ := φ) (row := row) hy.1 k
    refine gm_sz (gm_p_load (pc := 20) (i := .iload 5) (sr := 0) (j := 5) (by decide +kernel) rfl rfl rfl) ?_
    refine gm_sz (gm_p_load (pc := 22) (i := .aload_n 0) (sr := 2) (j := 0) (by decide +kernel) rfl rfl rfl) ?_
    refine gm_sz (fw_gr (pc := 23) (ix := 23) (ci := 0) (j := 3) (r := 3) (by decide +kernel) (e0k hE (k := 1) (c := 0) (by decide +kernel)) (by decide +kernel) (by decide +kernel) (e0r hE (k := 1) (j := 3) (r := 3) (by decide +kernel))) ?_
    refine gm_sz (fw_gi (pc := 26) (ix := 351) (ci := 1) (j := 0) (x := N 0) (by decide +kernel) (e0k hE (k := 3) (c := 1) (by decide +kernel)) (by decide +kernel) (by decide +kernel) ((fr_c hf (by decide)).trans (ti_lan hT))) ?_
    refine fw_ict (cc := .ge) (pc := 29) (off := 53) (by decide +kernel) (by decide) ⟨by omega, by omega⟩ ⟨by omega, by omega⟩ (show (N 0) ≤ (k : Int) by omega) ?_
    refine gm_sz (gm_p_load (pc := 82) (i := .iload_n 3) (sr := 0) (j := 3) (by decide +kernel) rfl rfl rfl) ?_
    have h9 : Q (.inl (some (gm_vi (swf N h φ row y k).1))) n K R M1 := by rw [ek]; exact hq _
    exact gm_r_int (pc := 83) (by decide +kernel) (Or.inl (by decide +kernel)) h9
  | succ u ih =>
    intro k z b M1 hk hb hf hI1
    have sb := swf_b (N := N) (h := h) (φ := φ) (row := row) hy.1 k
    have hbi : gm_ir b := ⟨by omega, by omega⟩
    refine gm_sz (gm_p_load (pc := 20) (i := .iload 5) (sr := 0) (j := 5) (by decide +kernel) rfl rfl rfl) ?_
    refine gm_sz (gm_p_load (pc := 22) (i := .aload_n 0) (sr := 2) (j := 0) (by decide +kernel) rfl rfl rfl) ?_
    refine gm_sz (fw_gr (pc := 23) (ix := 23) (ci := 0) (j := 3) (r := 3) (by decide +kernel) (e0k hE (k := 1) (c := 0) (by decide +kernel)) (by decide +kernel) (by decide +kernel) (e0r hE (k := 1) (j := 3) (r := 3) (by decide +kernel))) ?_
    refine gm_sz (fw_gi (pc := 26) (ix := 351) (ci := 1) (j := 0) (x := N 0) (by decide +kernel) (e0k hE (k := 3) (c := 1) (by decide +kernel)) (by decide +kernel) (by decide +kernel) ((fr_c hf (by decide)).trans (ti_lan hT))) ?_
    refine fw_icf (cc := .ge) (pc := 29) (off := 53) (by decide +kernel) (by decide) ⟨by omega, by omega⟩ ⟨by omega, by omega⟩ (show ¬ (N 0) ≤ (k : Int) by omega) ?_
    refine gm_sz (gm_p_load (pc := 32) (i := .aload_n 0) (sr := 2) (j := 0) (by decide +kernel) rfl rfl rfl) ?_
    refine gm_sz (fw_gr (pc := 33) (ix := 58) (ci := 0) (j := 9) (r := 206) (by decide +kernel) (e0k hE (k := 1) (c := 0) (by decide +kernel)) (by decide +kernel) (by decide +kernel) (e0r hE (k := 1) (j := 9) (r := 206) (by decide +kernel))) ?_
    refine gm_sz (gm_p_load (pc := 36) (i := .iload 5) (sr := 0) (j := 5) (by decide +kernel) rfl rfl rfl) ?_
    refine gm_sz (gm_p_load (pc := 38) (i := .iload_n 1) (sr := 0) (j := 1) (by decide +kernel) rfl rfl rfl) ?_
    refine gm_sz (gm_p_load (pc := 39) (i := .iload_n 2) (sr := 0) (j := 2) (by decide +kernel) rfl rfl rfl) ?_
    refine gm_sz (gm_p_const (pc := 40) (i := .iconst 0) (v := gm_vi 0) (by decide +kernel) (by decide +kernel)) ?_
    refine gm_c_virt (k := 206) (ci := 5) (mj := 29) (ix := 291) (pc := 41) (as := [gm_vi (k : Int), gm_vi row, gm_vi y, gm_vi 0]) (st := []) (d' := d - 1) (bc' := 0) (bs' := 0) (by decide +kernel) (by decide +kernel) (by decide +kernel) (by decide +kernel) (e0k hE (k := 206) (c := 5) (by decide +kernel)).1 (e0k hE (k := 206) (c := 5) (by decide +kernel)).2 (by decide) (by decide +kernel) (show 4 = gm_na 29 by decide +kernel) (fw_c4 fw_si fw_si fw_si fw_si) (show 5 ≤ gm_ml 29 by decide +kernel) (Nat.le_of_ble_eq_true rfl) (by omega) (Nat.zero_le _) (Nat.zero_le _) ?_
    refine wy_st206 hE (ti_fr (W := [(206, some 2), (206, some 3), (206, some 4), (206, some 5), (206, some 6), (206, some 7), (206, some 8), (200, some 6), (204, none), (205, none)]) hT (fr_t fr_0 hf (by decide)) (by decide) (by decide +kernel)) hN (by first | omega | (split <;> decide)) ?_
    show gm_Wp X LX d _ _ 229 44 _ [] n K _ _ Q
    refine gm_sz (gm_p_load (pc := 44) (i := .aload_n 0) (sr := 2) (j := 0) (by decide +kernel) rfl rfl rfl) ?_
    refine gm_sz (fw_gr (pc := 45) (ix := 58) (ci := 0) (j := 9) (r := 206) (by decide +kernel) (e0k hE (k := 1) (c := 0) (by decide +kernel)) (by decide +kernel) (by decide +kernel) (e0r hE (k := 1) (j := 9) (r := 206) (by decide +kernel))) ?_
    refine gm_sz (gm_p_const (pc := 48) (i := .sipush 299) (v := gm_vi 299) (by decide +kernel) (by decide +kernel)) ?_
    refine gm_c_virt (k := 206) (ci := 5) (mj := 30) (ix := 295) (pc := 51) (as := [gm_vi 299]) (st := []) (d' := d - 1) (bc' := 0) (bs' := 0) (by decide +kernel) (by decide +kernel) (by decide +kernel) (by decide +kernel) (e0k hE (k := 206) (c := 5) (by decide +kernel)).1 (e0k hE (k := 206) (c := 5) (by decide +kernel)).2 (by decide) (by decide +kernel) (show 1 = gm_na 30 by decide +kernel) (fw_c1 fw_si) (show 2 ≤ gm_ml 30 by decide +kernel) (Nat.le_of_ble_eq_true rfl) (by omega) (Nat.zero_le _) (Nat.zero_le _) ?_
    refine fo_30 (lane := (k : Int)) (row := row) (y := y) (by omega) hE (ti_fr (W := [(206, some 2), (206, some 3), (206, some 4), (206, some 5), (206, some 6), (206, some 7), (206, some 8), (200, some 6), (204, none), (205, none)]) hT (fr_p (fr_p (fr_p (fr_p (fr_p (fr_p (fr_p (fr_t fr_0 hf (by decide)) (Or.inr (by decide))) (Or.inr (by decide))) (Or.inr (by decide))) (Or.inr (by decide))) (Or.inr (by decide))) (Or.inr (by decide))) (Or.inr (by decide))) (by decide) (by decide +kernel)) hN hfw (hfw.2.1 [(206, some 2), (206, some 5), (206, some 7), (206, some 3), (206, some 4), (206, some 6), (206, some 8)] _ _ (by decide) (fr_p (fr_p (fr_p (fr_p (fr_p (fr_p (fr_p fr_0 (Or.inr (by decide))) (Or.inr (by decide))) (Or.inr (by decide))) (Or.inr (by decide))) (Or.inr (by decide))) (Or.inr (by decide))) (Or.inr (by decide))) hI1) ((uM_ne (by omega)).trans ((uM_ne (by omega)).trans ((uM_ne (by omega)).trans ((uM_ne (by omega)).trans ((uM_ne (by omega)).trans ((uM_ne (by omega)).trans uM_at)))))) ((uM_ne (by omega)).trans ((uM_ne (by omega)).trans ((uM_ne (by omega)).trans uM_at))) ((uM_ne (by omega)).trans ((uM_ne (by omega)).trans uM_at)) ((uM_ne (by omega)).trans ((uM_ne (by omega)).trans ((uM_ne (by omega)).trans ((uM_ne (by omega)).trans ((uM_ne (by omega)).trans uM_at))))) ((uM_ne (by omega)).trans uM_at) ((uM_ne (by omega)).trans ((uM_ne (by omega)).trans ((uM_ne (by omega)).trans ((uM_ne (by omega)).trans uM_at)))) ⟨by omega, by omega⟩ ⟨by omega, by omega⟩ ⟨by omega, by omega⟩ (fun M30 hf30 hI30 => ?_)
    show gm_Wp X LX d _ _ 229 54 _ [gm_vi (fro N h φ (k : Int) row y)] n K _ _ Q
    have fb := fro_b (N := N) (h := h) (φ := φ) (lane := (k : Int)) (row := row) (y := y) (by omega)
    refine gm_sz (gm_p_stor (pc := 54) (i := .istore 6) (sr := 0) (j := 6) (by decide +kernel) rfl (show 7 ≤ _ from Nat.le_of_ble_eq_true rfl) rfl) ?_
    refine gm_sz (gm_p_load (pc := 56) (i := .iload 6) (sr := 0) (j := 6) (by decide +kernel) rfl rfl rfl) ?_
    refine gm_sz (gm_p_const (pc := 58) (i := .iconst (-1)) (v := gm_vi (-1)) (by decide +kernel) (by decide +kernel)) ?_
    refine fw_ic (cc := .eq) (pc := 59) (off := 17) (by decide +kernel) (by decide) ⟨by omega, by omega⟩ ⟨by decide, by decide⟩ (fun h59 => ?_) (fun h59 => ?_)
    · have h59 : (fro N h φ (k : Int) row y) = (-1) := h59
      refine gm_sz (gm_p_iinc (pc := 76) (j := 5) (z := 1) (by decide +kernel) rfl) ?_
      refine gm_sz (gm_p_goto (pc := 79) (off := (-59)) (by decide +kernel) (by decide)) ?_
      have e9 : swf N h φ row y (k + 1) = swf N h φ row y k := if_pos (by omega)
      have e8 : ((k + 1 : Nat) : Int) = (k : Int) + 1 := by omega
      have hb9 : b = (swf N h φ row y (k + 1)).2 ∨ ((swf N h φ row y (k + 1)).2 = 300 ∧ b = 1000) := by rw [e9]; exact hb
      have h9 := ih (k + 1) (some (gm_vi (fro N h φ (k : Int) row y))) b M30 (by omega) hb9 (fr_t (fr_p (fr_p (fr_p (fr_p (fr_p (fr_p (fr_p (fr_t fr_0 hf (by decide)) (Or.inr (by decide))) (Or.inr (by decide))) (Or.inr (by decide))) (Or.inr (by decide))) (Or.inr (by decide))) (Or.inr (by decide))) (Or.inr (by decide))) hf30 (by decide)) hI30
      rw [e9, e8] at h9
      exact h9
    · have h59 : ¬ (fro N h φ (k : Int) row y) = (-1) := h59
      refine gm_sz (gm_p_load (pc := 62) (i := .iload 6) (sr := 0) (j := 6) (by decide +kernel) rfl rfl rfl) ?_
      refine gm_sz (gm_p_load (pc := 64) (i := .iload 4) (sr := 0) (j := 4) (by decide +kernel) rfl rfl rfl) ?_
      refine fw_ic (cc := .ge) (pc := 66) (off := 10) (by decide +kernel) (by decide) ⟨by omega, by omega⟩ hbi (fun h66 => ?_) (fun h66 => ?_)
      · have h66 : b ≤ (fro N h φ (k : Int) row y) := h66
        refine gm_sz (gm_p_iinc (pc := 76) (j := 5) (z := 1) (by decide +kernel) rfl) ?_
        refine gm_sz (gm_p_goto (pc := 79) (off := (-59)) (by decide +kernel) (by decide)) ?_
        have e9 : swf N h φ row y (k + 1) = swf N h φ row y k := if_pos (by omega)
        have e8 : ((k + 1 : Nat) : Int) = (k : Int) + 1 := by omega
        have hb9 : b = (swf N h φ row y (k + 1)).2 ∨ ((swf N h φ row y (k + 1)).2 = 300 ∧ b = 1000) := by rw [e9]; exact hb
        have h9 := ih (k + 1) (some (gm_vi (fro N h φ (k : Int) row y))) b M30 (by omega) hb9 (fr_t (fr_p (fr_p (fr_p (fr_p (fr_p (fr_p (fr_p (fr_t fr_0 hf (by decide)) (Or.inr (by decide))) (Or.inr (by decide))) (Or.inr (by decide))) (Or.inr (by decide))) (Or.inr (by decide))) (Or.inr (by decide))) (Or.inr (by decide))) hf30 (by decide)) hI30
        rw [e9, e8] at h9
        exact h9
      · have h66 : ¬ b ≤ (fro N h φ (k : Int) row y) := h66
        refine gm_sz (gm_p_load (pc := 69) (i := .iload 6) (sr := 0) (j := 6) (by decide +kernel) rfl rfl rfl) ?_
        refine gm_sz (gm_p_stor (pc := 71) (i := .istore 4) (sr := 0) (j := 4) (by decide +kernel) rfl (show 5 ≤ _ from Nat.le_of_ble_eq_true rfl) rfl) ?_
        refine gm_sz (gm_p_load (pc := 73) (i := .iload 5) (sr := 0) (j := 5) (by decide +kernel) rfl rfl rfl) ?_
        refine gm_sz (gm_p_stor (pc := 75) (i := .istore_n 3) (sr := 0) (j := 3) (by decide +kernel) rfl (show 4 ≤ _ from Nat.le_of_ble_eq_true rfl) rfl) ?_
        refine gm_sz (gm_p_iinc (pc := 76) (j := 5) (z := 1) (by decide +kernel) rfl) ?_
        refine gm_sz (gm_p_goto (pc := 79) (off := (-59)) (by decide +kernel) (by decide)) ?_
        have e9 : swf N h φ row y (k + 1) = ((k : Int), fro N h φ (k : Int) row y) := if_neg (by omega)
        have e8 : ((k + 1 : Nat) : Int) = (k : Int) + 1 := by omega
        have hb9 : fro N h φ (k : Int) row y = (swf N h φ row y (k + 1)).2 ∨ ((swf N h φ row y (k + 1)).2 = 300 ∧ fro N h φ (k : Int) row y = 1000) := by rw [e9]; exact Or.inl rfl
        have h9 := ih (k + 1) (some (gm_vi (fro N h φ (k : Int) row y))) (fro N h φ (k : Int) row y) M30 (by omega) hb9 (fr_t (fr_p (fr_p (fr_p (fr_p (fr_p (fr_p (fr_p (fr_t fr_0 hf (by decide)) (Or.inr (by decide))) (Or.inr (by decide))) (Or.inr (by decide))) (Or.inr (by decide))) (Or.inr (by decide))) (Or.inr (by decide))) (Or.inr (by decide))) hf30 (by decide)) hI30
        rw [e9, e8] at h9
        exact h9
theorem sw_r (hd : 20 ≤ d) (hE : E0 n K R) (hT : TR N h M) (hN : NR N) (hfw : FLR X LX n K R N h FI φ) (hI : FI M) (hw : 0 ≤ row ∧ row < N 1) (hy : 0 ≤ y ∧ y ≤ 299) (hq : ∀ M2, M2 226 0 = 0 → Q (.inl (some (gm_vi ((swf N h φ row y (N 0).toNat).1)))) n K R M2) : ∀ (u k : Nat) (z : Option gm_V) (b : Int) (M1 : gm_M), (k : Int) + (u : Int) = N 0 → (b = (swf N h φ row y k).2 ∨ ((swf N h φ row y k).2 = 300 ∧ b = 1000)) → fr [(226, some 0), (226, some 29), (226, some 30), (226, some 26), (226, some 17), (226, some 18), (226, some 19), (226, some 20), (226, some 21), (226, some 22), (226, some 23), (235, none), (233, none), (236, none), (237, none)] M M1 → FI M1 → M1 226 0 = 0 → gm_Wp X LX d bc bs 365 42 [some (gm_vr 226), some (gm_vi row), some (gm_vi y), some (gm_vi ((swf N h φ row y k).1)), some (gm_vi b), some (gm_vi (k : Int)), z] [] n K R M1 Q := by
  obtain ⟨⟨⟨a0, b0⟩, ⟨a1, b1⟩, ⟨a10, b10⟩, ⟨a11, b11⟩, ⟨a12, b12⟩, a9, b9⟩, ⟨⟨a2, b2⟩, ⟨a5, b5⟩, ⟨a3, b3⟩, ⟨a4, b4⟩, ⟨a6, b6⟩, ⟨a14, b14⟩, ⟨a7, b7⟩, a13, b13⟩, rF, rP, rL⟩ := id hN
  intro u
  induction u with
  | zero =>
    intro k z b M1 hk hb hf hI1 h0
    have ek : k = (N 0).toNat := by omega
    have sb := swf_b (N := N) (h := h) (φ := φ) (row := row) hy.1 k
    refine gm_sz (gm_p_load (pc := 42) (i := .iload 5) (sr := 0) (j := 5) (by decide +kernel) rfl rfl rfl) ?_
    refine gm_sz (gm_p_load (pc := 44) (i := .aload_n 0) (sr := 2) (j := 0) (by decide +kernel) rfl rfl rfl) ?_
    refine gm_c_virt (k := 226) (ci := 11) (mj := 261) (ix := 86) (pc := 45) (as := []) (st := [gm_vi (k : Int)]) (d' := d - 1) (bc' := 0) (bs' := 0) (by decide +kernel) (by decide +kernel) (by decide +kernel) (by decide +kernel) (e0k hE (k := 226) (c := 11) (by decide +kernel)).1 (e0k hE (k := 226) (c := 11) (by decide +kernel)).2 (by decide) (by decide +kernel) (show 0 = gm_na 261 by decide +kernel) fw_c0 (show 1 ≤ gm_ml 261 by decide +kernel) (Nat.le_of_ble_eq_true rfl) (by omega) (Nat.zero_le _) (Nat.zero_le _) ?_
    refine re_lan hE (tr_fr (W := [(226, some 0), (226, some 29), (226, some 30), (226, some 26), (226, some 17), (226, some 18), (226, some 19), (226, some 20), (226, some 21), (226, some 22), (226, some 23), (235, none), (233, none), (236, none), (237, none)]) hT (fr_t fr_0 hf (by decide)) (by decide)) hN ?_
    show gm_Wp X LX d _ _ 365 48 _ [gm_vi (N 0), gm_vi (k : Int)] n K _ _ Q
    refine fw_ict (cc := .ge) (pc := 48) (off := 41) (by decide +kernel) (by decide) ⟨by omega, by omega⟩ ⟨by omega, by omega⟩ (show (N 0) ≤ (k : Int) by omega) ?_
    refine gm_sz (gm_p_load (pc := 89) (i := .iload_n 3) (sr := 0) (j := 3) (by decide +kernel) rfl rfl rfl) ?_
    have h9 : Q (.inl (some (gm_vi (swf N h φ row y k).1))) n K R M1 := by rw [ek]; exact hq _ h0
    exact gm_r_int (pc := 90) (by decide +kernel) (Or.inl (by decide +kernel)) h9
  | succ u ih =>
    intro k z b M1 hk hb hf hI1 h0
    have sb := swf_b (N := N) (h := h) (φ := φ) (row := row) hy.1 k
    have hbi : gm_ir b := ⟨by omega, by omega⟩
    refine gm_sz (gm_p_load (pc := 42) (i := .iload 5) (sr := 0) (j := 5) (by decide +kernel) rfl rfl rfl) ?_
    refine gm_sz (gm_p_load (pc := 44) (i := .aload_n 0) (sr := 2) (j := 0) (by decide +kernel) rfl rfl rfl) ?_
    refine gm_c_virt (k := 226) (ci := 11) (mj := 261) (ix := 86) (pc := 45) (as := []) (st := [gm_vi (k : Int)]) (d' := d - 1) (bc' := 0) (bs' := 0) (by decide +kernel) (by decide +kernel) (by decide +kernel) (by decide +kernel) (e0k hE (k := 226) (c := 11) (by decide +kernel)).1 (e0k hE (k := 226) (c := 11) (by decide +kernel)).2 (by decide) (by decide +kernel) (show 0 = gm_na 261 by decide +kernel) fw_c0 (show 1 ≤ gm_ml 261 by decide +kernel) (Nat.le_of_ble_eq_true rfl) (by omega) (Nat.zero_le _) (Nat.zero_le _) ?_
    refine re_lan hE (tr_fr (W := [(226, some 0), (226, some 29), (226, some 30), (226, some 26), (226, some 17), (226, some 18), (226, some 19), (226, some 20), (226, some 21), (226, some 22), (226, some 23), (235, none), (233, none), (236, none), (237, none)]) hT (fr_t fr_0 hf (by decide)) (by decide)) hN ?_
    show gm_Wp X LX d _ _ 365 48 _ [gm_vi (N 0), gm_vi (k : Int)] n K _ _ Q
    refine fw_icf (cc := .ge) (pc := 48) (off := 41) (by decide +kernel) (by decide) ⟨by omega, by omega⟩ ⟨by omega, by omega⟩ (show ¬ (N 0) ≤ (k : Int) by omega) ?_
    refine gm_sz (gm_p_load (pc := 51) (i := .aload_n 0) (sr := 2) (j := 0) (by decide +kernel) rfl rfl rfl) ?_
    refine gm_sz (gm_p_load (pc := 52) (i := .iload 5) (sr := 0) (j := 5) (by decide +kernel) rfl rfl rfl) ?_
    refine gm_sz (gm_p_load (pc := 54) (i := .iload_n 1) (sr := 0) (j := 1) (by decide +kernel) rfl rfl rfl) ?_
    refine gm_sz (gm_p_load (pc := 55) (i := .iload_n 2) (sr := 0) (j := 2) (by decide +kernel) rfl rfl rfl) ?_
    refine gm_c_virt (k := 226) (ci := 11) (mj := 325) (ix := 425) (pc := 56) (as := [gm_vi (k : Int), gm_vi row, gm_vi y]) (st := []) (d' := d - 1) (bc' := 0) (bs' := 0) (by decide +kernel) (by decide +kernel) (by decide +kernel) (by decide +kernel) (e0k hE (k := 226) (c := 11) (by decide +kernel)).1 (e0k hE (k := 226) (c := 11) (by decide +kernel)).2 (by decide) (by decide +kernel) (show 3 = gm_na 325 by decide +kernel) (fw_c3 fw_si fw_si fw_si) (show 4 ≤ gm_ml 325 by decide +kernel) (Nat.le_of_ble_eq_true rfl) (by omega) (Nat.zero_le _) (Nat.zero_le _) ?_
    refine ou_325 (lane := (k : Int)) (row := row) (y := y) (by omega) hE (tr_fr (W := [(226, some 0), (226, some 29), (226, some 30), (226, some 26), (226, some 17), (226, some 18), (226, some 19), (226, some 20), (226, some 21), (226, some 22), (226, some 23), (235, none), (233, none), (236, none), (237, none)]) hT (fr_t fr_0 hf (by decide)) (by decide)) hN hfw hI1 ⟨by omega, by omega⟩ ⟨by omega, by omega⟩ ⟨by omega, by omega⟩ (fun M25 hf25 hI25 => ?_)
    show gm_Wp X LX d _ _ 365 59 _ [gm_vi (fro N h φ (k : Int) row y)] n K _ _ Q
    have fb := fro_b (N := N) (h := h) (φ := φ) (lane := (k : Int)) (row := row) (y := y) (by omega)
    refine gm_sz (gm_p_stor (pc := 59) (i := .istore 6) (sr := 0) (j := 6) (by decide +kernel) rfl (show 7 ≤ _ from Nat.le_of_ble_eq_true rfl) rfl) ?_
    refine gm_sz (gm_p_load (pc := 61) (i := .iload 6) (sr := 0) (j := 6) (by decide +kernel) rfl rfl rfl) ?_
    refine fw_if (cc := .lt) (pc := 63) (off := 20) (by decide +kernel) (by decide) ⟨by omega, by omega⟩ (fun h63 => ?_) (fun h63 => ?_)
    · have h63 : (fro N h φ (k : Int) row y) < 0 := h63
      refine gm_sz (gm_p_iinc (pc := 83) (j := 5) (z := 1) (by decide +kernel) rfl) ?_
      refine gm_sz (gm_p_goto (pc := 86) (off := (-44)) (by decide +kernel) (by decide)) ?_
      have e9 : swf N h φ row y (k + 1) = swf N h φ row y k := if_pos (by omega)
      have e8 : ((k + 1 : Nat) : Int) = (k : Int) + 1 := by omega
      have hb9 : b = (swf N h φ row y (k + 1)).2 ∨ ((swf N h φ row y (k + 1)).2 = 300 ∧ b = 1000) := by rw [e9]; exact hb
      have h9 := ih (k + 1) (some (gm_vi (fro N h φ (k : Int) row y))) b M25 (by omega) hb9 (fr_t (fr_t fr_0 hf (by decide)) hf25 (by decide)) hI25 ((fr_j hf25 (by decide)).trans h0)
      rw [e9, e8] at h9
      exact h9
    · have h63 : ¬ (fro N h φ (k : Int) row y) < 0 := h63
      refine gm_sz (gm_p_load (pc := 66) (i := .iload 6) (sr := 0) (j := 6) (by decide +kernel) rfl rfl rfl) ?_
      refine gm_sz (gm_p_load (pc := 68) (i := .iload 4) (sr := 0) (j := 4) (by decide +kernel) rfl rfl rfl) ?_
      refine fw_ic (cc := .lt) (pc := 70) (off := 6) (by decide +kernel) (by decide) ⟨by omega, by omega⟩ hbi (fun h70 => ?_) (fun h70 => ?_)
      · have h70 : (fro N h φ (k : Int) row y) < b := h70
        refine gm_sz (gm_p_load (pc := 76) (i := .iload 5) (sr := 0) (j := 5) (by decide +kernel) rfl rfl rfl) ?_
        refine gm_sz (gm_p_stor (pc := 78) (i := .istore_n 3) (sr := 0) (j := 3) (by decide +kernel) rfl (show 4 ≤ _ from Nat.le_of_ble_eq_true rfl) rfl) ?_
        refine gm_sz (gm_p_load (pc := 79) (i := .iload 6) (sr := 0) (j := 6) (by decide +kernel) rfl rfl rfl) ?_
        refine gm_sz (gm_p_stor (pc := 81) (i := .istore 4) (sr := 0) (j := 4) (by decide +kernel) rfl (show 5 ≤ _ from Nat.le_of_ble_eq_true rfl) rfl) ?_
        refine gm_sz (gm_p_iinc (pc := 83) (j := 5) (z := 1) (by decide +kernel) rfl) ?_
        refine gm_sz (gm_p_goto (pc := 86) (off := (-44)) (by decide +kernel) (by decide)) ?_
        have e9 : swf N h φ row y (k + 1) = ((k : Int), fro N h φ (k : Int) row y) := if_neg (by omega)
        have e8 : ((k + 1 : Nat) : Int) = (k : Int) + 1 := by omega
        have hb9 : fro N h φ (k : Int) row y = (swf N h φ row y (k + 1)).2 ∨ ((swf N h φ row y (k + 1)).2 = 300 ∧ fro N h φ (k : Int) row y = 1000) := by rw [e9]; exact Or.inl rfl
        have h9 := ih (k + 1) (some (gm_vi (fro N h φ (k : Int) row y))) (fro N h φ (k : Int) row y) M25 (by omega) hb9 (fr_t (fr_t fr_0 hf (by decide)) hf25 (by decide)) hI25 ((fr_j hf25 (by decide)).trans h0)
        rw [e9, e8] at h9
        exact h9
      · have h70 : ¬ (fro N h φ (k : Int) row y) < b := h70
        refine gm_sz (gm_p_goto (pc := 73) (off := 10) (by decide +kernel) (by decide)) ?_
        refine gm_sz (gm_p_iinc (pc := 83) (j := 5) (z := 1) (by decide +kernel) rfl) ?_
        refine gm_sz (gm_p_goto (pc := 86) (off := (-44)) (by decide +kernel) (by decide)) ?_
        have e9 : swf N h φ row y (k + 1) = swf N h φ row y k := if_pos (by omega)
        have e8 : ((k + 1 : Nat) : Int) = (k : Int) + 1 := by omega
        have hb9 : b = (swf N h φ row y (k + 1)).2 ∨ ((swf N h φ row y (k + 1)).2 = 300 ∧ b = 1000) := by rw [e9]; exact hb
        have h9 := ih (k + 1) (some (gm_vi (fro N h φ (k : Int) row y))) b M25 (by omega) hb9 (fr_t (fr_t fr_0 hf (by decide)) hf25 (by decide)) hI25 ((fr_j hf25 (by decide)).trans h0)
        rw [e9, e8] at h9
        exact h9
theorem cl_swift (hd : 20 ≤ d) (hbc : 4 ≤ bc) (hbs : 24 ≤ bs) (hE : E0 n K R) (hT : TI N h sp M) (hN : NR N) (hfw : FLW X LX n K R N h sp FI φ) (hI : FI M) (hi : gm_ir row) (hi2 : gm_ir y) (kv : 0 ≤ row ∧ row < N 1 → 0 ≤ y ∧ y ≤ 299 → ∀ M2, Q (.inl (some (gm_vi ((swf N h φ row y (N 0).toNat).1)))) n K R M2) (k3 : ¬ (0 ≤ row ∧ row < N 1) → Q (.inr 3) n K R M) (k0 : 0 ≤ row ∧ row < N 1 → ¬ (0 ≤ y ∧ y ≤ 299) → Q (.inr 0) n K R M) : gm_Wp X LX d bc bs 229 0 (gm_ent 229 [gm_vr 1, gm_vi row, gm_vi y]) [] n K R M Q := by
  obtain ⟨⟨⟨a0, b0⟩, ⟨a1, b1⟩, ⟨a10, b10⟩, ⟨a11, b11⟩, ⟨a12, b12⟩, a9, b9⟩, ⟨⟨a2, b2⟩, ⟨a5, b5⟩, ⟨a3, b3⟩, ⟨a4, b4⟩, ⟨a6, b6⟩, ⟨a14, b14⟩, ⟨a7, b7⟩, a13, b13⟩, rF, rP, rL⟩ := id hN
  refine gm_sz (gm_p_load (pc := 0) (i := .aload_n 0) (sr := 2) (j := 0) (by decide +kernel) rfl rfl rfl) ?_
  refine gm_sz (gm_p_load (pc := 1) (i := .iload_n 1) (sr := 0) (j := 1) (by decide +kernel) rfl rfl rfl) ?_
  refine gm_c_virt (k := 1) (ci := 0) (mj := 134) (ix := 169) (pc := 2) (as := [gm_vi row]) (st := []) (d' := d - 1) (bc' := 1) (bs' := 6) (by decide +kernel) (by decide +kernel) (by decide +kernel) (by decide +kernel) (e0k hE (k := 1) (c := 0) (by decide +kernel)).1 (e0k hE (k := 1) (c := 0) (by decide +kernel)).2 (by decide) (by decide +kernel) (show 1 = gm_na 134 by decide +kernel) (fw_c1 fw_si) (show 2 ≤ gm_ml 134 by decide +kernel) (Nat.le_of_ble_eq_true rfl) (by omega) (by omega) (by omega) ?_
  refine nd_134 (i := row) (by omega) (by omega) (by omega) hE hT hN hi (fun c2 => ?_) (fun c2 => ?_)
  · show gm_Wp X LX d _ _ 229 5 _ [] n K _ _ Q
    have c2 : 0 ≤ row ∧ row < N 1 := c2
    refine gm_sz (gm_p_load (pc := 5) (i := .aload_n 0) (sr := 2) (j := 0) (by decide +kernel) rfl rfl rfl) ?_
    refine gm_sz (gm_p_load (pc := 6) (i := .iload_n 2) (sr := 0) (j := 2) (by decide +kernel) rfl rfl rfl) ?_
    refine gm_c_virt (k := 1) (ci := 0) (mj := 129) (ix := 160) (pc := 7) (as := [gm_vi y]) (st := []) (d' := d - 1) (bc' := 1) (bs' := 6) (by decide +kernel) (by decide +kernel) (by decide +kernel) (by decide +kernel) (e0k hE (k := 1) (c := 0) (by decide +kernel)).1 (e0k hE (k := 1) (c := 0) (by decide +kernel)).2 (by decide) (by decide +kernel) (show 1 = gm_na 129 by decide +kernel) (fw_c1 fw_si) (show 2 ≤ gm_ml 129 by decide +kernel) (Nat.le_of_ble_eq_true rfl) (by omega) (by omega) (by omega) ?_
    refine nd_129 (i := y) (by omega) (by omega) (by omega) hi2 (fun c7 => ?_) (fun c7 => ?_)
    · show gm_Wp X LX d _ _ 229 10 _ [] n K _ _ Q
      have c7 : 0 ≤ y ∧ y ≤ 299 := c7
      refine gm_sz (gm_p_const (pc := 10) (i := .iconst (-1)) (v := gm_vi (-1)) (by decide +kernel) (by decide +kernel)) ?_
      refine gm_sz (gm_p_stor (pc := 11) (i := .istore_n 3) (sr := 0) (j := 3) (by decide +kernel) rfl (show 4 ≤ _ from Nat.le_of_ble_eq_true rfl) rfl) ?_
      refine gm_sz (gm_p_const (pc := 12) (i := .sipush 300) (v := gm_vi 300) (by decide +kernel) (by decide +kernel)) ?_
      refine gm_sz (gm_p_stor (pc := 15) (i := .istore 4) (sr := 0) (j := 4) (by decide +kernel) rfl (show 5 ≤ _ from Nat.le_of_ble_eq_true rfl) rfl) ?_
      refine gm_sz (gm_p_const (pc := 17) (i := .iconst 0) (v := gm_vi 0) (by decide +kernel) (by decide +kernel)) ?_
      refine gm_sz (gm_p_stor (pc := 18) (i := .istore 5) (sr := 0) (j := 5) (by decide +kernel) rfl (show 6 ≤ _ from Nat.le_of_ble_eq_true rfl) rfl) ?_
      exact sw_c (bc := bc - 1 - 1) (bs := bs - 6 - 6) hd (by omega) (by omega) hE hT hN hfw hI ⟨by omega, by omega⟩ ⟨by omega, by omega⟩ (kv ⟨by omega, by omega⟩ ⟨by omega, by omega⟩) (N 0).toNat 0 none _ _ (by omega) (Or.inl rfl) fr_0 hI
    · show Q (.inr 0) n K _ _
      have c7 : ¬ (0 ≤ y ∧ y ≤ 299) := c7
      exact (k0 ⟨by omega, by omega⟩ (by omega))
  · show Q (.inr 3) n K _ _
    have c2 : ¬ (0 ≤ row ∧ row < N 1) := c2
    exact (k3 (by omega))
theorem re_swift (hd : 20 ≤ d) (hE : E0 n K R) (hT : TR N h M) (hN : NR N) (hfw : FLR X LX n K R N h FI φ) (hI : FI M) (hi : gm_ir row) (hi2 : gm_ir y) (kv : 0 ≤ row ∧ row < N 1 → 0 ≤ y ∧ y ≤ 299 → ∀ M2, M2 226 0 = 0 → Q (.inl (some (gm_vi ((swf N h φ row y (N 0).toNat).1)))) n K R M2) (k1 : ¬ (0 ≤ row ∧ row < N 1) → ∀ M2, M2 226 0 = 1 → Q (.inl (some (gm_vi 0))) n K R M2) (k2 : 0 ≤ row ∧ row < N 1 → ¬ (0 ≤ y ∧ y ≤ 299) → ∀ M2, M2 226 0 = 2 → Q (.inl (some (gm_vi 0))) n K R M2) : gm_Wp X LX d bc bs 365 0 (gm_ent 365 [gm_vr 226, gm_vi row, gm_vi y]) [] n K R M Q := by
  obtain ⟨⟨⟨a0, b0⟩, ⟨a1, b1⟩, ⟨a10, b10⟩, ⟨a11, b11⟩, ⟨a12, b12⟩, a9, b9⟩, ⟨⟨a2, b2⟩, ⟨a5, b5⟩, ⟨a3, b3⟩, ⟨a4, b4⟩, ⟨a6, b6⟩, ⟨a14, b14⟩, ⟨a7, b7⟩, a13, b13⟩, rF, rP, rL⟩ := id hN
  refine gm_sz (gm_p_load (pc := 0) (i := .aload_n 0) (sr := 2) (j := 0) (by decide +kernel) rfl rfl rfl) ?_
  refine gm_sz (gm_p_const (pc := 1) (i := .iconst 0) (v := gm_vi 0) (by decide +kernel) (by decide +kernel)) ?_
  refine gm_sz (fw_pi (pc := 2) (ix := 3) (ci := 11) (j := 0) (M' := gm_uM M 226 0 0) (by decide +kernel) (e0k hE (k := 226) (c := 11) (by decide +kernel)) (by decide +kernel) (by decide +kernel) (by decide +kernel) rfl) ?_
  refine gm_sz (gm_p_load (pc := 5) (i := .aload_n 0) (sr := 2) (j := 0) (by decide +kernel) rfl rfl rfl) ?_
  refine gm_sz (gm_p_load (pc := 6) (i := .aload_n 0) (sr := 2) (j := 0) (by decide +kernel) rfl rfl rfl) ?_
  refine gm_sz (gm_p_load (pc := 7) (i := .iload_n 1) (sr := 0) (j := 1) (by decide +kernel) rfl rfl rfl) ?_
  refine gm_c_virt (k := 226) (ci := 11) (mj := 289) (ix := 359) (pc := 8) (as := [gm_vi row]) (st := [gm_vr 226]) (d' := d - 1) (bc' := 0) (bs' := 0) (by decide +kernel) (by decide +kernel) (by decide +kernel) (by decide +kernel) (e0k hE (k := 226) (c := 11) (by decide +kernel)).1 (e0k hE (k := 226) (c := 11) (by decide +kernel)).2 (by decide) (by decide +kernel) (show 1 = gm_na 289 by decide +kernel) (fw_c1 fw_si) (show 2 ≤ gm_ml 289 by decide +kernel) (Nat.le_of_ble_eq_true rfl) (by omega) (Nat.zero_le _) (Nat.zero_le _) ?_
  refine no_289 (i := row) (by omega) hE (tr_fr (W := [(226, some 0)]) hT (fr_p fr_0 (Or.inr (by decide))) (by decide)) hN hi (fun n8 => ?_) (fun n8 => ?_)
  · show gm_Wp X LX d _ _ 365 11 _ [gm_vi 1, gm_vr 226] n K _ _ Q
    have n8 : ¬ (0 ≤ row ∧ row < N 1) := n8
    refine gm_sz (gm_p_const (pc := 11) (i := .iconst 1) (v := gm_vi 1) (by decide +kernel) (by decide +kernel)) ?_
    refine gm_c_virt (k := 226) (ci := 11) (mj := 282) (ix := 300) (pc := 12) (as := [gm_vi 1, gm_vi 1]) (st := []) (d' := d - 1) (bc' := 0) (bs' := 0) (by decide +kernel) (by decide +kernel) (by decide +kernel) (by decide +kernel) (e0k hE (k := 226) (c := 11) (by decide +kernel)).1 (e0k hE (k := 226) (c := 11) (by decide +kernel)).2 (by decide) (by decide +kernel) (show 2 = gm_na 282 by decide +kernel) (fw_c2 fw_si fw_si) (show 3 ≤ gm_ml 282 by decide +kernel) (Nat.le_of_ble_eq_true rfl) (by omega) (Nat.zero_le _) (Nat.zero_le _) ?_
    refine tf_1 hE ?_
    show gm_Wp X LX d _ _ 365 15 _ [gm_vi 1] n K _ _ Q
    refine fw_iftd (cc := .ne) (pc := 15) (off := 15) (by decide +kernel) (by decide) ⟨by decide, by decide⟩ (by decide) ?_
    refine gm_sz (gm_p_const (pc := 30) (i := .iconst 0) (v := gm_vi 0) (by decide +kernel) (by decide +kernel)) ?_
    exact gm_r_int (pc := 31) (by decide +kernel) (Or.inl (by decide +kernel)) (k1 (by omega) _ uM_at)
  · show gm_Wp X LX d _ _ 365 11 _ [gm_vi 0, gm_vr 226] n K _ _ Q
    have n8 : 0 ≤ row ∧ row < N 1 := n8
    refine gm_sz (gm_p_const (pc := 11) (i := .iconst 1) (v := gm_vi 1) (by decide +kernel) (by decide +kernel)) ?_
    refine gm_c_virt (k := 226) (ci := 11) (mj := 282) (ix := 300) (pc := 12) (as := [gm_vi 0, gm_vi 1]) (st := []) (d' := d - 1) (bc' := 0) (bs' := 0) (by decide +kernel) (by decide +kernel) (by decide +kernel) (by decide +kernel) (e0k hE (k := 226) (c := 11) (by decide +kernel)).1 (e0k hE (k := 226) (c := 11) (by decide +kernel)).2 (by decide) (by decide +kernel) (show 2 = gm_na 282 by decide +kernel) (fw_c2 fw_si fw_si) (show 3 ≤ gm_ml 282 by decide +kernel) (Nat.le_of_ble_eq_true rfl) (by omega) (Nat.zero_le _) (Nat.zero_le _) ?_
    refine tf_0 hE ?_
    show gm_Wp X LX d _ _ 365 15 _ [gm_vi 0] n K _ _ Q
    refine fw_iffd (cc := .ne) (pc := 15) (off := 15) (by decide +kernel) (by decide) ⟨by decide, by decide⟩ (by decide) ?_
    refine gm_sz (gm_p_load (pc := 18) (i := .aload_n 0) (sr := 2) (j := 0) (by decide +kernel) rfl rfl rfl) ?_
    refine gm_sz (gm_p_load (pc := 19) (i := .iload_n 2) (sr := 0) (j := 2) (by decide +kernel) rfl rfl rfl) ?_
    refine gm_c_stat (mj := 285) (ix := 353) (pc := 20) (as := [gm_vi y]) (st := [gm_vr 226]) (d' := d - 1) (bc' := 0) (bs' := 0) (by decide +kernel) (by decide +kernel) (by decide +kernel) (by decide +kernel) (show 1 = gm_na 285 by decide +kernel) (fw_c1 fw_si) (show 1 ≤ gm_ml 285 by decide +kernel) (Nat.le_of_ble_eq_true rfl) (by omega) (Nat.zero_le _) (Nat.zero_le _) ?_
    refine no_285 (i := y) (by omega) hi2 (fun n20 => ?_) (fun n20 => ?_)
    · show gm_Wp X LX d _ _ 365 23 _ [gm_vi 1, gm_vr 226] n K _ _ Q
      have n20 : ¬ (0 ≤ y ∧ y ≤ 299) := n20
      refine gm_sz (gm_p_const (pc := 23) (i := .iconst 2) (v := gm_vi 2) (by decide +kernel) (by decide +kernel)) ?_
      refine gm_c_virt (k := 226) (ci := 11) (mj := 282) (ix := 300) (pc := 24) (as := [gm_vi 1, gm_vi 2]) (st := []) (d' := d - 1) (bc' := 0) (bs' := 0) (by decide +kernel) (by decide +kernel) (by decide +kernel) (by decide +kernel) (e0k hE (k := 226) (c := 11) (by decide +kernel)).1 (e0k hE (k := 226) (c := 11) (by decide +kernel)).2 (by decide) (by decide +kernel) (show 2 = gm_na 282 by decide +kernel) (fw_c2 fw_si fw_si) (show 3 ≤ gm_ml 282 by decide +kernel) (Nat.le_of_ble_eq_true rfl) (by omega) (Nat.zero_le _) (Nat.zero_le _) ?_
      refine tf_1 hE ?_
      show gm_Wp X LX d _ _ 365 27 _ [gm_vi 1] n K _ _ Q
      refine fw_iffd (cc := .eq) (pc := 27) (off := 5) (by decide +kernel) (by decide) ⟨by decide, by decide⟩ (by decide) ?_
      refine gm_sz (gm_p_const (pc := 30) (i := .iconst 0) (v := gm_vi 0) (by decide +kernel) (by decide +kernel)) ?_
      exact gm_r_int (pc := 31) (by decide +kernel) (Or.inl (by decide +kernel)) (k2 ⟨by omega, by omega⟩ (by omega) _ uM_at)
    · show gm_Wp X LX d _ _ 365 23 _ [gm_vi 0, gm_vr 226] n K _ _ Q
      have n20 : 0 ≤ y ∧ y ≤ 299 := n20
      refine gm_sz (gm_p_const (pc := 23) (i := .iconst 2) (v := gm_vi 2) (by decide +kernel) (by decide +kernel)) ?_
      refine gm_c_virt (k := 226) (ci := 11) (mj := 282) (ix := 300) (pc := 24) (as := [gm_vi 0, gm_vi 2]) (st := []) (d' := d - 1) (bc' := 0) (bs' := 0) (by decide +kernel) (by decide +kernel) (by decide +kernel) (by decide +kernel) (e0k hE (k := 226) (c := 11) (by decide +kernel)).1 (e0k hE (k := 226) (c := 11) (by decide +kernel)).2 (by decide) (by decide +kernel) (show 2 = gm_na 282 by decide +kernel) (fw_c2 fw_si fw_si) (show 3 ≤ gm_ml 282 by decide +kernel) (Nat.le_of_ble_eq_true rfl) (by omega) (Nat.zero_le _) (Nat.zero_le _) ?_
      refine tf_0 hE ?_
      show gm_Wp X LX d _ _ 365 27 _ [gm_vi 0] n K _ _ Q
      refine fw_iftd (cc := .eq) (pc := 27) (off := 5) (by decide +kernel) (by decide) ⟨by decide, by decide⟩ (by decide) ?_
      refine gm_sz (gm_p_const (pc := 32) (i := .iconst (-1)) (v := gm_vi (-1)) (by decide +kernel) (by decide +kernel)) ?_
      refine gm_sz (gm_p_stor (pc := 33) (i := .istore_n 3) (sr := 0) (j := 3) (by decide +kernel) rfl (show 4 ≤ _ from Nat.le_of_ble_eq_true rfl) rfl) ?_
      refine gm_sz (gm_p_const (pc := 34) (i := .sipush 1000) (v := gm_vi 1000) (by decide +kernel) (by decide +kernel)) ?_
      refine gm_sz (gm_p_stor (pc := 37) (i := .istore 4) (sr := 0) (j := 4) (by decide +kernel) rfl (show 5 ≤ _ from Nat.le_of_ble_eq_true rfl) rfl) ?_
      refine gm_sz (gm_p_const (pc := 39) (i := .iconst 0) (v := gm_vi 0) (by decide +kernel) (by decide +kernel)) ?_
      refine gm_sz (gm_p_stor (pc := 40) (i := .istore 5) (sr := 0) (j := 5) (by decide +kernel) rfl (show 6 ≤ _ from Nat.le_of_ble_eq_true rfl) rfl) ?_
      exact sw_r hd hE (tr_fr (W := [(226, some 0)]) hT (fr_p fr_0 (Or.inr (by decide))) (by decide)) hN hfw (hfw.2.1 [(226, some 0)] _ _ (by decide) (fr_p fr_0 (Or.inr (by decide))) hI) ⟨by omega, by omega⟩ ⟨by omega, by omega⟩ (kv ⟨by omega, by omega⟩ ⟨by omega, by omega⟩) (N 0).toNat 0 _ _ _ (by omega) (Or.inr ⟨rfl, rfl⟩) fr_0 (hfw.2.1 [(226, some 0)] _ _ (by decide) (fr_p fr_0 (Or.inr (by decide))) hI) uM_at
end RG57
section RG57B
variable {X : Int → Int} {LX d bc bs n g z g1 : Nat} {la : Nat → Nat} {K : gm_K} {R : gm_R} {M : gm_M} {N : Int → Int} {lw : Option (List lln)} {A : List (Int → Int)} {im : Option ((Int → Int) × Option (List lln))} {t w : Int} {f : Int → Int} {a b c e : Int} {NC : Nat} {C Ln G : Int → Int}
noncomputable def afro (lw : Option (List lln)) (N : Int → Int) (lane row y : Int) : Int := fro N (hts (N 13)) (aphi lw N (hts (N 13))) lane row y
noncomputable def q_range (lw : Option (List lln)) (N : Int → Int) (a : Int) (b : Int) : Int × Int := tif (¬ (0 ≤ a ∧ a < N 0)) (1, 0) (tif (¬ (0 ≤ b ∧ b ≤ 299)) (2, 0) (tif (afro lw N a 0 b = -1) (0, (-1)) (0, afro lw N a 0 b - b)))
theorem iq_range : gm_ir (q_range lw N a b).1 := by
  unfold q_range
  exact tif_ir (show (-2147483648 : Int) ≤ 1 ∧ (1 : Int) < 2147483648 from by decide) (tif_ir (show (-2147483648 : Int) ≤ 2 ∧ (2 : Int) < 2147483648 from by decide) (tif_ir (show (-2147483648 : Int) ≤ 0 ∧ (0 : Int) < 2147483648 from by decide) ((show (-2147483648 : Int) ≤ 0 ∧ (0 : Int) < 2147483648 from by decide))))
theorem cq_range (hd : 24 ≤ d) (hbc : 4 ≤ bc) (hbs : 24 ≤ bs) (hE : E0 n K R) (hn : 245 ≤ n) (hK : K 245 = (2, 1)) (hc : CC n K R NC C Ln G lw) (hL : LBX NC C Ln lw M) (hG : GJ N) (hV : CLV N lw A im t w f M) (ia : gm_ir a) (ib : gm_ir b) : gm_Wp X LX d bc bs 227 0 (gm_ent 227 [gm_vr 1, gm_vi a, gm_vi b]) [] n K R M (hQ [(3, 1), (0, 2)] (CF (q_range lw N a b).1 (oV (q_range lw N a b).1 (q_range lw N a b).2))) := by
  exact cl_range (Nat.le_trans (by decide) hd) hbc hbs hE hV.1.1 hG.1.1 (flw_a hE hc hG.1.1 hG.1.2.1) (fic_of hL hV) ia ib (fun h h2 h3 M2 => hQ_v hn hK (cf_v hK ((tif_f (fun hh => hh h)).trans ((tif_f (fun hh => hh h2)).trans (tif_t h3))) rfl)) (fun h h2 h3 M2 => hQ_v hn hK (cf_v hK ((tif_f (fun hh => hh h)).trans ((tif_f (fun hh => hh h2)).trans (tif_f h3))) rfl)) (fun h => hQ_x hn hK (c := 1) (by decide) (cf_x hK (tif_t h) (by decide))) (fun h h2 => hQ_x hn hK (c := 2) (by decide) (cf_x hK ((tif_f (fun hh => hh h)).trans (tif_t h2)) (by decide)))
theorem rq_range (hd : 24 ≤ d) (hE : E0 n K R) (hT : jT fun j => M 227 (395 + j)) (hS6 : NSb 6 N) (hG : GJ N) (hV : RFV N lw A im t w f M) (ia : gm_ir a) (ib : gm_ir b) : gm_Wp X LX d bc bs 364 0 (gm_ent 364 [gm_vr 226, gm_vi a, gm_vi b]) [] n K R M (RF (q_range lw N a b).1 (q_range lw N a b).2) := by
  have k226 := k226 hE
  exact re_range (Nat.le_trans (by decide) hd) hE hV.1.1 hG.1.1 (flr_a hE (lawg_of hV.1.2.1 hT) hgeo_r hG.1.1 hG.1.1 hS6) ⟨hV.2.1, fun _ _ => rfl⟩ ia ib (fun h h2 h3 M2 h0 => rf_e k226 ((tif_f (fun hh => hh h)).trans ((tif_f (fun hh => hh h2)).trans (tif_t h3))) (fun _ => rfl) h0) (fun h h2 h3 M2 h0 => rf_e k226 ((tif_f (fun hh => hh h)).trans ((tif_f (fun hh => hh h2)).trans (tif_f h3))) (fun _ => rfl) h0) (fun h M2 h0 => rf_e k226 (tif_t h) (fun e => absurd e (by decide)) h0) (fun h h2 M2 h0 => rf_e k226 ((tif_f (fun hh => hh h)).trans (tif_t h2)) (fun e => absurd e (by decide)) h0)
theorem fw_range (hb : bg g la K R M) (hR : REL la K M N lw A im t w f) (ia : gm_ir a) (ib : gm_ir b) : ∀ z g1, bs_ok la z g1 → ¬ z = 100003 → gm_Wp X LX 279 6 600 226 0 (gm_ent 226 (gm_vr 1 :: bc_as [a, b] true)) [] (245 + 4 * g1) (bs_K la K) (bs_R z g1) (bs_M la M) (CF (q_range lw N a b).1 (oV (q_range lw N a b).1 (q_range lw N a b).2)) := by
  intro z g1 hz hz3
  have hE := e0_w hb hz
  obtain ⟨NC, C, Ln, hcc, hlb⟩ := cc_w hb hz hz3 hR.2.1.1 hR.2.2.2.1.2.1
  exact hl_226 (d := 278) (k1_e hE) (cq_range (by decide) (by decide) (by decide) hE (k245 hE).1 (k245 hE).2 hcc hlb hR.1.1 (clv_w hb hR.2.2.1) ia ib)
theorem fm_range (hb : bg g la K R M) (hR : REL la K M N lw A im t w f) (ia : gm_ir a) (ib : gm_ir b) : gm_Wp X LX 279 6 600 364 0 (gm_ent 364 (gm_vr 226 :: [a, b].map gm_vi)) [] 245 (bs_K la K) (bs_R 100003 0) (bs_M la M) (RF (q_range lw N a b).1 (q_range lw N a b).2) := rq_range (by decide) (e0_w hb (Or.inr (Or.inl ⟨rfl, rfl⟩))) (gJ_w hb) (ns6 (bs_F0 (z := 100003) hb) (rfv_w (la := la) hR.2.2.2).1.1.1 hR.1.1.1.1) hR.1.1 (rfv_w hR.2.2.2) ia ib
noncomputable def q_swiftest (lw : Option (List lln)) (N : Int → Int) (a : Int) (b : Int) : Int × Int := tif (¬ (0 ≤ a ∧ a < N 1)) (1, 0) (tif (¬ (0 ≤ b ∧ b ≤ 299)) (2, 0) (0, (swf N (hts (N 13)) (aphi lw N (hts (N 13))) a b (N 0).toNat).1))
theorem iq_swiftest : gm_ir (q_swiftest lw N a b).1 := by
  unfold q_swiftest
  exact tif_ir (show (-2147483648 : Int) ≤ 1 ∧ (1 : Int) < 2147483648 from by decide) (tif_ir (show (-2147483648 : Int) ≤ 2 ∧ (2 : Int) < 2147483648 from by decide) ((show (-2147483648 : Int) ≤ 0 ∧ (0 : Int) < 2147483648 from by decide)))
theorem cq_swiftest (hd : 24 ≤ d) (hbc : 4 ≤ bc) (hbs : 24 ≤ bs) (hE : E0 n K R) (hn : 245 ≤ n) (hK : K 245 = (2, 1)) (hc : CC n K R NC C Ln G lw) (hL : LBX NC C Ln lw M) (hG : GJ N) (hV : CLV N lw A im t w f M) (ia : gm_ir a) (ib : gm_ir b) : gm_Wp X LX d bc bs 229 0 (gm_ent 229 [gm_vr 1, gm_vi a, gm_vi b]) [] n K R M (hQ [(3, 1), (0, 2)] (CF (q_swiftest lw N a b).1 (oV (q_swiftest lw N a b).1 (q_swiftest lw N a b).2))) := by
  exact cl_swift (Nat.le_trans (by decide) hd) hbc hbs hE hV.1.1 hG.1.1 (flw_a hE hc hG.1.1 hG.1.2.1) (fic_of hL hV) ia ib (fun h h2 M2 => hQ_v hn hK (cf_v hK ((tif_f (fun hh => hh h)).trans (tif_f (fun hh => hh h2))) rfl)) (fun h => hQ_x hn hK (c := 1) (by decide) (cf_x hK (tif_t h) (by decide))) (fun h h2 => hQ_x hn hK (c := 2) (by decide) (cf_x hK ((tif_f (fun hh => hh h)).trans (tif_t h2)) (by decide)))
theorem rq_swiftest (hd : 24 ≤ d) (hE : E0 n K R) (hT : jT fun j => M 227 (395 + j)) (hS6 : NSb 6 N) (hG : GJ N) (hV : RFV N lw A im t w f M) (ia : gm_ir a) (ib : gm_ir b) : gm_Wp X LX d bc bs 365 0 (gm_ent 365 [gm_vr 226, gm_vi a, gm_vi b]) [] n K R M (RF (q_swiftest lw N a b).1 (q_swiftest lw N a b).2) := by
  have k226 := k226 hE
  exact re_swift (Nat.le_trans (by decide) hd) hE hV.1.1 hG.1.1 (flr_a hE (lawg_of hV.1.2.1 hT) hgeo_r hG.1.1 hG.1.1 hS6) ⟨hV.2.1, fun _ _ => rfl⟩ ia ib (fun h h2 M2 h0 => rf_e k226 ((tif_f (fun hh => hh h)).trans (tif_f (fun hh => hh h2))) (fun _ => rfl) h0) (fun h M2 h0 => rf_e k226 (tif_t h) (fun e => absurd e (by decide)) h0) (fun h h2 M2 h0 => rf_e k226 ((tif_f (fun hh => hh h)).trans (tif_t h2)) (fun e => absurd e (by decide)) h0)
theorem fw_swiftest (hb : bg g la K R M) (hR : REL la K M N lw A im t w f) (ia : gm_ir a) (ib : gm_ir b) : ∀ z g1, bs_ok la z g1 → ¬ z = 100003 → gm_Wp X LX 279 6 600 228 0 (gm_ent 228 (gm_vr 1 :: bc_as [a, b] true)) [] (245 + 4 * g1) (bs_K la K) (bs_R z g1) (bs_M la M) (CF (q_swiftest lw N a b).1 (oV (q_swiftest lw N a b).1 (q_swiftest lw N a b).2)) := by
  intro z g1 hz hz3
  have hE := e0_w hb hz
  obtain ⟨NC, C, Ln, hcc, hlb⟩ := cc_w hb hz hz3 hR.2.1.1 hR.2.2.2.1.2.1
  exact hl_228 (d := 278) (k1_e hE) (cq_swiftest (by decide) (by decide) (by decide) hE (k245 hE).1 (k245 hE).2 hcc hlb hR.1.1 (clv_w hb hR.2.2.1) ia ib)
theorem fm_swiftest (hb : bg g la K R M) (hR : REL la K M N lw A im t w f) (ia : gm_ir a) (ib : gm_ir b) : gm_Wp X LX 279 6 600 365 0 (gm_ent 365 (gm_vr 226 :: [a, b].map gm_vi)) [] 245 (bs_K la K) (bs_R 100003 0) (bs_M la M) (RF (q_swiftest lw N a b).1 (q_swiftest lw N a b).2) := rq_swiftest (by decide) (e0_w hb (Or.inr (Or.inl ⟨rfl, rfl⟩))) (gJ_w hb) (ns6 (bs_F0 (z := 100003) hb) (rfv_w (la := la) hR.2.2.2).1.1.1 hR.1.1.1.1) hR.1.1 (rfv_w hR.2.2.2) ia ib
end RG57B
end
/-! 7c58.ba -/
section
/-! BARE: which letters are bare in a year. -/
section BA58
variable {X : Int → Int} {LX d bc bs n : Nat} {K : gm_K} {R : gm_R} {M : gm_M} {Q : gm_Q} {N h : Int → Int} {sp : Int → Int → Int} {FI : gm_M → Prop} {φ : Int → Int → Int → Int} {l lane row year y p w x k c v a b t : Int}
theorem ba_c (hd : 20 ≤ d) (hE : E0 n K R) (hT : TI N h sp M) (hN : NR N) (hfw : FLW X LX n K R N h sp FI φ) (hI : FI M) (hy : 0 ≤ y ∧ y ≤ 299) (hq : ∀ M2, Q (.inl (some (gm_vi (bts (fun l => (N (119 + (l * 7 + 3))) < y ∧ (nwy N h φ ((N (119 + (l * 7 + 2)))) (if (N (119 + (l * 7 + 0))) = -1 then 1 else 0) (-1) ((N (119 + (l * 7 + 3)))) ((N (119 + (l * 7 + 4)))) (y - (N (119 + (l * 7 + 3)))).toNat).1 < N 1 ∧ (nwy N h φ ((N (119 + (l * 7 + 2)))) (if (N (119 + (l * 7 + 0))) = -1 then 1 else 0) (-1) ((N (119 + (l * 7 + 3)))) ((N (119 + (l * 7 + 4)))) (y - (N (119 + (l * 7 + 3)))).toNat).2 = 0) (N 4).toNat)))) n K R M2) : ∀ (u k : Nat) (M1 : gm_M), (k : Int) + (u : Int) = N 4 → fr [(206, some 2), (206, some 3), (206, some 4), (206, some 5), (206, some 6), (206, some 7), (206, some 8), (200, some 6), (204, none), (205, none)] M M1 → FI M1 → gm_Wp X LX d bc bs 231 9 [some (gm_vr 1), some (gm_vi y), some (gm_vi (bts (fun l => (N (119 + (l * 7 + 3))) < y ∧ (nwy N h φ ((N (119 + (l * 7 + 2)))) (if (N (119 + (l * 7 + 0))) = -1 then 1 else 0) (-1) ((N (119 + (l * 7 + 3)))) ((N (119 + (l * 7 + 4)))) (y - (N (119 + (l * 7 + 3)))).toNat).1 < N 1 ∧ (nwy N h φ ((N (119 + (l * 7 + 2)))) (if (N (119 + (l * 7 + 0))) = -1 then 1 else 0) (-1) ((N (119 + (l * 7 + 3)))) ((N (119 + (l * 7 + 4)))) (y - (N (119 + (l * 7 + 3)))).toNat).2 = 0) k)), some (gm_vi (k : Int))] [] n K R M1 Q := by
  obtain ⟨⟨⟨a0, b0⟩, ⟨a1, b1⟩, ⟨a10, b10⟩, ⟨a11, b11⟩, ⟨a12, b12⟩, a9, b9⟩, ⟨⟨a2, b2⟩, ⟨a5, b5⟩, ⟨a3, b3⟩, ⟨a4, b4⟩, ⟨a6, b6⟩, ⟨a14, b14⟩, ⟨a7, b7⟩, a13, b13⟩, rF, rP, rL⟩ := id hN
  intro u
  induction u with
  | zero =>
    intro k M1 hk hf hI1
    have ek : k = (N 4).toNat := by omega
    have hb9 := bts_ir (p := (fun l => (N (119 + (l * 7 + 3))) < y ∧ (nwy N h φ ((N (119 + (l * 7 + 2)))) (if (N (119 + (l * 7 + 0))) = -1 then 1 else 0) (-1) ((N (119 + (l * 7 + 3)))) ((N (119 + (l * 7 + 4)))) (y - (N (119 + (l * 7 + 3)))).toNat).1 < N 1 ∧ (nwy N h φ ((N (119 + (l * 7 + 2)))) (if (N (119 + (l * 7 + 0))) = -1 then 1 else 0) (-1) ((N (119 + (l * 7 + 3)))) ((N (119 + (l * 7 + 4)))) (y - (N (119 + (l * 7 + 3)))).toNat).2 = 0)) k
    refine gm_sz (gm_p_load (pc := 9) (i := .iload_n 3) (sr := 0) (j := 3) (by decide +kernel) rfl rfl rfl) ?_
    refine gm_sz (gm_p_load (pc := 10) (i := .aload_n 0) (sr := 2) (j := 0) (by decide +kernel) rfl rfl rfl) ?_
    refine gm_sz (fw_gr (pc := 11) (ix := 23) (ci := 0) (j := 3) (r := 3) (by decide +kernel) (e0k hE (k := 1) (c := 0) (by decide +kernel)) (by decide +kernel) (by decide +kernel) (e0r hE (k := 1) (j := 3) (r := 3) (by decide +kernel))) ?_
    refine gm_sz (fw_gr (pc := 14) (ix := 203) (ci := 1) (j := 12) (r := 10) (by decide +kernel) (e0k hE (k := 3) (c := 1) (by decide +kernel)) (by decide +kernel) (by decide +kernel) (e0r hE (k := 3) (j := 12) (r := 10) (by decide +kernel))) ?_
    refine gm_c_virt (k := 10) (ci := 2) (mj := 9) (ix := 277) (pc := 17) (as := []) (st := [gm_vi (k : Int)]) (d' := d - 1) (bc' := 0) (bs' := 0) (by decide +kernel) (by decide +kernel) (by decide +kernel) (by decide +kernel) (e0k hE (k := 10) (c := 2) (by decide +kernel)).1 (e0k hE (k := 10) (c := 2) (by decide +kernel)).2 (by decide) (by decide +kernel) (show 0 = gm_na 9 by decide +kernel) fw_c0 (show 1 ≤ gm_ml 9 by decide +kernel) (Nat.le_of_ble_eq_true rfl) (by omega) (Nat.zero_le _) (Nat.zero_le _) ?_
    refine rw_size (s := N 4) (e0k hE (k := 10) (c := 2) (by decide +kernel)) ((fr_c hf (by decide)).trans (ti_let hT)) ?_
    show gm_Wp X LX d _ _ 231 20 _ [gm_vi (N 4), gm_vi (k : Int)] n K _ _ Q
    refine fw_ict (cc := .ge) (pc := 20) (off := 67) (by decide +kernel) (by decide) ⟨by omega, by omega⟩ ⟨by omega, by omega⟩ (show (N 4) ≤ (k : Int) by omega) ?_
    refine gm_sz (gm_p_load (pc := 87) (i := .iload_n 2) (sr := 0) (j := 2) (by decide +kernel) rfl rfl rfl) ?_
    have h9 : Q (.inl (some (gm_vi (bts (fun l => (N (119 + (l * 7 + 3))) < y ∧ (nwy N h φ ((N (119 + (l * 7 + 2)))) (if (N (119 + (l * 7 + 0))) = -1 then 1 else 0) (-1) ((N (119 + (l * 7 + 3)))) ((N (119 + (l * 7 + 4)))) (y - (N (119 + (l * 7 + 3)))).toNat).1 < N 1 ∧ (nwy N h φ ((N (119 + (l * 7 + 2)))) (if (N (119 + (l * 7 + 0))) = -1 then 1 else 0) (-1) ((N (119 + (l * 7 + 3)))) ((N (119 + (l * 7 + 4)))) (y - (N (119 + (l * 7 + 3)))).toNat).2 = 0) k)))) n K R M1 := by rw [ek]; exact hq _
    exact gm_r_int (pc := 88) (by decide +kernel) (Or.inl (by decide +kernel)) h9
  | succ u ih =>
    intro k M1 hk hf hI1
    have hb9 := bts_ir (p := (fun l => (N (119 + (l * 7 + 3))) < y ∧ (nwy N h φ ((N (119 + (l * 7 + 2)))) (if (N (119 + (l * 7 + 0))) = -1 then 1 else 0) (-1) ((N (119 + (l * 7 + 3)))) ((N (119 + (l * 7 + 4)))) (y - (N (119 + (l * 7 + 3)))).toNat).1 < N 1 ∧ (nwy N h φ ((N (119 + (l * 7 + 2)))) (if (N (119 + (l * 7 + 0))) = -1 then 1 else 0) (-1) ((N (119 + (l * 7 + 3)))) ((N (119 + (l * 7 + 4)))) (y - (N (119 + (l * 7 + 3)))).toNat).2 = 0)) k
    obtain ⟨r0, -, l2, l3, l4, -⟩ := rL (k : Int) (by omega) (by omega)
    have l5 : 0 ≤ (N (119 + ((k : Int) * 7 + 4))) ∧ (N (119 + ((k : Int) * 7 + 4))) ≤ 300 := ⟨l4.1, by have := l4.2; omega⟩
    have l49 : (N (119 + ((k : Int) * 7 + 4))) < N 1 := l4.2
    have l4 := l5
    have l32 : 0 ≤ (N (119 + ((k : Int) * 7 + 3))) ∧ (N (119 + ((k : Int) * 7 + 3))) ≤ N 9 := l3
    have rk9 : 0 ≤ (if (N (119 + ((k : Int) * 7 + 0))) = -1 then (1 : Int) else 0) ∧ (if (N (119 + ((k : Int) * 7 + 0))) = -1 then (1 : Int) else 0) ≤ 1 := by split <;> exact ⟨by decide, by decide⟩
    have hw9 : (N (119 + ((k : Int) * 7 + 3))) < y → _ := fun hy3 => nwy_b (lane := (N (119 + ((k : Int) * 7 + 2)))) (rock := (if (N (119 + ((k : Int) * 7 + 0))) = -1 then 1 else 0)) (wo := -1) hN hfw.1 (fun y a b => (hT.2.2.1 y a b).2.1) l3.1 l4 (y - (N (119 + ((k : Int) * 7 + 3)))).toNat (by omega)
    refine gm_sz (gm_p_load (pc := 9) (i := .iload_n 3) (sr := 0) (j := 3) (by decide +kernel) rfl rfl rfl) ?_
    refine gm_sz (gm_p_load (pc := 10) (i := .aload_n 0) (sr := 2) (j := 0) (by decide +kernel) rfl rfl rfl) ?_
    refine gm_sz (fw_gr (pc := 11) (ix := 23) (ci := 0) (j := 3) (r := 3) (by decide +kernel) (e0k hE (k := 1) (c := 0) (by decide +kernel)) (by decide +kernel) (by decide +kernel) (e0r hE (k := 1) (j := 3) (r := 3) (by decide +kernel))) ?_
    refine gm_sz (fw_gr (pc := 14) (ix := 203) (ci := 1) (j := 12) (r := 10) (by decide +kernel) (e0k hE (k := 3) (c := 1) (by decide +kernel)) (by decide +kernel) (by decide +kernel) (e0r hE (k := 3) (j := 12) (r := 10) (by decide +kernel))) ?_
    refine gm_c_virt (k := 10) (ci := 2) (mj := 9) (ix := 277) (pc := 17) (as := []) (st := [gm_vi (k : Int)]) (d' := d - 1) (bc' := 0) (bs' := 0) (by decide +kernel) (by decide +kernel) (by decide +kernel) (by decide +kernel) (e0k hE (k := 10) (c := 2) (by decide +kernel)).1 (e0k hE (k := 10) (c := 2) (by decide +kernel)).2 (by decide) (by decide +kernel) (show 0 = gm_na 9 by decide +kernel) fw_c0 (show 1 ≤ gm_ml 9 by decide +kernel) (Nat.le_of_ble_eq_true rfl) (by omega) (Nat.zero_le _) (Nat.zero_le _) ?_
    refine rw_size (s := N 4) (e0k hE (k := 10) (c := 2) (by decide +kernel)) ((fr_c hf (by decide)).trans (ti_let hT)) ?_
    show gm_Wp X LX d _ _ 231 20 _ [gm_vi (N 4), gm_vi (k : Int)] n K _ _ Q
    refine fw_icf (cc := .ge) (pc := 20) (off := 67) (by decide +kernel) (by decide) ⟨by omega, by omega⟩ ⟨by omega, by omega⟩ (show ¬ (N 4) ≤ (k : Int) by omega) ?_
    refine gm_sz (gm_p_load (pc := 23) (i := .aload_n 0) (sr := 2) (j := 0) (by decide +kernel) rfl rfl rfl) ?_
    refine gm_sz (fw_gr (pc := 24) (ix := 23) (ci := 0) (j := 3) (r := 3) (by decide +kernel) (e0k hE (k := 1) (c := 0) (by decide +kernel)) (by decide +kernel) (by decide +kernel) (e0r hE (k := 1) (j := 3) (r := 3) (by decide +kernel))) ?_
    refine gm_sz (fw_gr (pc := 27) (ix := 203) (ci := 1) (j := 12) (r := 10) (by decide +kernel) (e0k hE (k := 3) (c := 1) (by decide +kernel)) (by decide +kernel) (by decide +kernel) (e0r hE (k := 3) (j := 12) (r := 10) (by decide +kernel))) ?_
    refine gm_sz (gm_p_load (pc := 30) (i := .iload_n 3) (sr := 0) (j := 3) (by decide +kernel) rfl rfl rfl) ?_
    refine gm_sz (gm_p_const (pc := 31) (i := .iconst 3) (v := gm_vi 3) (by decide +kernel) (by decide +kernel)) ?_
    refine gm_c_virt (k := 10) (ci := 2) (mj := 10) (ix := 186) (pc := 32) (as := [gm_vi (k : Int), gm_vi 3]) (st := []) (d' := d - 1) (bc' := 0) (bs' := 0) (by decide +kernel) (by decide +kernel) (by decide +kernel) (by decide +kernel) (e0k hE (k := 10) (c := 2) (by decide +kernel)).1 (e0k hE (k := 10) (c := 2) (by decide +kernel)).2 (by decide) (by decide +kernel) (show 2 = gm_na 10 by decide +kernel) (fw_c2 fw_si fw_si) (show 3 ≤ gm_ml 10 by decide +kernel) (Nat.le_of_ble_eq_true rfl) (by omega) (Nat.zero_le _) (Nat.zero_le _) ?_
    refine rw_get (s := N 4) (w := 7) (x := N (119 + ((k : Int) * 7 + 3))) (e0k hE (k := 10) (c := 2) (by decide +kernel)) (e0a hE (k := 11) (q := (0, 168)) (by decide +kernel)) (e0r hE (k := 10) (j := 2) (r := 11) (by decide +kernel)) (by decide) ((fr_c hf (by decide)).trans (ti_let hT)) ((fr_c hf (by decide)).trans (hT.1 (10, 1, 7) (by decide))) ⟨by omega, by omega⟩ ⟨by omega, by omega⟩ ⟨by omega, by omega⟩ ⟨by omega, by omega⟩ ((fr_c hf (by decide)).trans (ti_aL hT (by omega) (by omega))) ?_
    show gm_Wp X LX d _ _ 231 35 _ [gm_vi (N (119 + ((k : Int) * 7 + 3)))] n K _ _ Q
    refine gm_sz (gm_p_load (pc := 35) (i := .iload_n 1) (sr := 0) (j := 1) (by decide +kernel) rfl rfl rfl) ?_
    refine fw_ic (cc := .ge) (pc := 36) (off := 45) (by decide +kernel) (by decide) ⟨by omega, by omega⟩ ⟨by omega, by omega⟩ (fun h36 => ?_) (fun h36 => ?_)
    · have h36 : y ≤ (N (119 + ((k : Int) * 7 + 3))) := h36
      refine gm_sz (gm_p_iinc (pc := 81) (j := 3) (z := 1) (by decide +kernel) rfl) ?_
      refine gm_sz (gm_p_goto (pc := 84) (off := (-75)) (by decide +kernel) (by decide)) ?_
      have e8 : ((k + 1 : Nat) : Int) = (k : Int) + 1 := by omega
      have e9 : bts (fun l => (N (119 + (l * 7 + 3))) < y ∧ (nwy N h φ ((N (119 + (l * 7 + 2)))) (if (N (119 + (l * 7 + 0))) = -1 then 1 else 0) (-1) ((N (119 + (l * 7 + 3)))) ((N (119 + (l * 7 + 4)))) (y - (N (119 + (l * 7 + 3)))).toNat).1 < N 1 ∧ (nwy N h φ ((N (119 + (l * 7 + 2)))) (if (N (119 + (l * 7 + 0))) = -1 then 1 else 0) (-1) ((N (119 + (l * 7 + 3)))) ((N (119 + (l * 7 + 4)))) (y - (N (119 + (l * 7 + 3)))).toNat).2 = 0) (k + 1) = bts (fun l => (N (119 + (l * 7 + 3))) < y ∧ (nwy N h φ ((N (119 + (l * 7 + 2)))) (if (N (119 + (l * 7 + 0))) = -1 then 1 else 0) (-1) ((N (119 + (l * 7 + 3)))) ((N (119 + (l * 7 + 4)))) (y - (N (119 + (l * 7 + 3)))).toNat).1 < N 1 ∧ (nwy N h φ ((N (119 + (l * 7 + 2)))) (if (N (119 + (l * 7 + 0))) = -1 then 1 else 0) (-1) ((N (119 + (l * 7 + 3)))) ((N (119 + (l * 7 + 4)))) (y - (N (119 + (l * 7 + 3)))).toNat).2 = 0) k := bts_f (p := (fun l => (N (119 + (l * 7 + 3))) < y ∧ (nwy N h φ ((N (119 + (l * 7 + 2)))) (if (N (119 + (l * 7 + 0))) = -1 then 1 else 0) (-1) ((N (119 + (l * 7 + 3)))) ((N (119 + (l * 7 + 4)))) (y - (N (119 + (l * 7 + 3)))).toNat).1 < N 1 ∧ (nwy N h φ ((N (119 + (l * 7 + 2)))) (if (N (119 + (l * 7 + 0))) = -1 then 1 else 0) (-1) ((N (119 + (l * 7 + 3)))) ((N (119 + (l * 7 + 4)))) (y - (N (119 + (l * 7 + 3)))).toNat).2 = 0)) (show ¬ ((N (119 + ((k : Int) * 7 + 3))) < y ∧ (nwy N h φ ((N (119 + ((k : Int) * 7 + 2)))) (if (N (119 + ((k : Int) * 7 + 0))) = -1 then 1 else 0) (-1) ((N (119 + ((k : Int) * 7 + 3)))) ((N (119 + ((k : Int) * 7 + 4)))) (y - (N (119 + ((k : Int) * 7 + 3)))).toNat).1 < N 1 ∧ (nwy N h φ ((N (119 + ((k : Int) * 7 + 2)))) (if (N (119 + ((k : Int) * 7 + 0))) = -1 then 1 else 0) (-1) ((N (119 + ((k : Int) * 7 + 3)))) ((N (119 + ((k : Int) * 7 + 4)))) (y - (N (119 + ((k : Int) * 7 + 3)))).toNat).2 = 0) from by omega)
      have h9 := ih (k + 1) _ (by omega) (fr_t fr_0 hf (by decide)) hI1
      rw [e9, e8] at h9
      exact h9
    · have h36 : ¬ y ≤ (N (119 + ((k : Int) * 7 + 3))) := h36
      refine gm_sz (gm_p_load (pc := 39) (i := .aload_n 0) (sr := 2) (j := 0) (by decide +kernel) rfl rfl rfl) ?_
      refine gm_sz (fw_gr (pc := 40) (ix := 58) (ci := 0) (j := 9) (r := 206) (by decide +kernel) (e0k hE (k := 1) (c := 0) (by decide +kernel)) (by decide +kernel) (by decide +kernel) (e0r hE (k := 1) (j := 9) (r := 206) (by decide +kernel))) ?_
      refine gm_sz (gm_p_load (pc := 43) (i := .iload_n 3) (sr := 0) (j := 3) (by decide +kernel) rfl rfl rfl) ?_
      refine gm_c_virt (k := 206) (ci := 5) (mj := 27) (ix := 217) (pc := 44) (as := [gm_vi (k : Int)]) (st := []) (d' := d - 1) (bc' := 0) (bs' := 0) (by decide +kernel) (by decide +kernel) (by decide +kernel) (by decide +kernel) (e0k hE (k := 206) (c := 5) (by decide +kernel)).1 (e0k hE (k := 206) (c := 5) (by decide +kernel)).2 (by decide) (by decide +kernel) (show 1 = gm_na 27 by decide +kernel) (fw_c1 fw_si) (show 2 ≤ gm_ml 27 by decide +kernel) (Nat.le_of_ble_eq_true rfl) (by omega) (Nat.zero_le _) (Nat.zero_le _) ?_
      refine wy_let206 (by omega) hE (ti_fr (W := [(206, some 2), (206, some 3), (206, some 4), (206, some 5), (206, some 6), (206, some 7), (206, some 8), (200, some 6), (204, none), (205, none)]) hT (fr_t fr_0 hf (by decide)) (by decide) (by decide +kernel)) hN ⟨by omega, by omega⟩ ?_
      show gm_Wp X LX d _ _ 231 47 _ [] n K _ _ Q
      refine gm_sz (gm_p_load (pc := 47) (i := .aload_n 0) (sr := 2) (j := 0) (by decide +kernel) rfl rfl rfl) ?_
      refine gm_sz (fw_gr (pc := 48) (ix := 58) (ci := 0) (j := 9) (r := 206) (by decide +kernel) (e0k hE (k := 1) (c := 0) (by decide +kernel)) (by decide +kernel) (by decide +kernel) (e0r hE (k := 1) (j := 9) (r := 206) (by decide +kernel))) ?_
      refine gm_sz (gm_p_load (pc := 51) (i := .iload_n 1) (sr := 0) (j := 1) (by decide +kernel) rfl rfl rfl) ?_
      refine gm_c_virt (k := 206) (ci := 5) (mj := 148) (ix := 220) (pc := 52) (as := [gm_vi y]) (st := []) (d' := d - 1) (bc' := 0) (bs' := 0) (by decide +kernel) (by decide +kernel) (by decide +kernel) (by decide +kernel) (e0k hE (k := 206) (c := 5) (by decide +kernel)).1 (e0k hE (k := 206) (c := 5) (by decide +kernel)).2 (by decide) (by decide +kernel) (show 1 = gm_na 148 by decide +kernel) (fw_c1 fw_si) (show 2 ≤ gm_ml 148 by decide +kernel) (Nat.le_of_ble_eq_true rfl) (by omega) (Nat.zero_le _) (Nat.zero_le _) ?_
      refine wy_c148_206 (lane := (N (119 + ((k : Int) * 7 + 2)))) (rock := (if (N (119 + ((k : Int) * 7 + 0))) = -1 then 1 else 0)) (wo := -1) (r0 := (N (119 + ((k : Int) * 7 + 4)))) (y0 := (N (119 + ((k : Int) * 7 + 3)))) (lim := y) (by omega) hE (ti_fr (W := [(206, some 2), (206, some 3), (206, some 4), (206, some 5), (206, some 6), (206, some 7), (206, some 8), (200, some 6), (204, none), (205, none)]) hT (fr_p (fr_p (fr_p (fr_p (fr_p (fr_p (fr_p (fr_t fr_0 hf (by decide)) (Or.inr (by decide))) (Or.inr (by decide))) (Or.inr (by decide))) (Or.inr (by decide))) (Or.inr (by decide))) (Or.inr (by decide))) (Or.inr (by decide))) (by decide) (by decide +kernel)) hN hfw (hfw.2.1 [(206, some 2), (206, some 5), (206, some 7), (206, some 3), (206, some 4), (206, some 6), (206, some 8)] _ _ (by decide) (fr_p (fr_p (fr_p (fr_p (fr_p (fr_p (fr_p fr_0 (Or.inr (by decide))) (Or.inr (by decide))) (Or.inr (by decide))) (Or.inr (by decide))) (Or.inr (by decide))) (Or.inr (by decide))) (Or.inr (by decide))) hI1) ((uM_ne (by omega)).trans ((uM_ne (by omega)).trans ((uM_ne (by omega)).trans ((uM_ne (by omega)).trans ((uM_ne (by omega)).trans ((uM_ne (by omega)).trans uM_at)))))) ((uM_ne (by omega)).trans ((uM_ne (by omega)).trans ((uM_ne (by omega)).trans uM_at))) ((uM_ne (by omega)).trans ((uM_ne (by omega)).trans uM_at)) ((uM_ne (by omega)).trans ((uM_ne (by omega)).trans ((uM_ne (by omega)).trans ((uM_ne (by omega)).trans ((uM_ne (by omega)).trans uM_at))))) ((uM_ne (by omega)).trans uM_at) ((uM_ne (by omega)).trans ((uM_ne (by omega)).trans ((uM_ne (by omega)).trans ((uM_ne (by omega)).trans uM_at)))) l3.1 l2 rk9 ⟨by decide, by decide⟩ l4 (by omega) (by omega) (fun M52 hf52 hI52 g5 g6 g7 => ?_)
      show gm_Wp X LX d _ _ 231 55 _ [] n K _ _ Q
      have hw9 := hw9 (by omega)
      refine gm_sz (gm_p_load (pc := 55) (i := .aload_n 0) (sr := 2) (j := 0) (by decide +kernel) rfl rfl rfl) ?_
      refine gm_sz (fw_gr (pc := 56) (ix := 58) (ci := 0) (j := 9) (r := 206) (by decide +kernel) (e0k hE (k := 1) (c := 0) (by decide +kernel)) (by decide +kernel) (by decide +kernel) (e0r hE (k := 1) (j := 9) (r := 206) (by decide +kernel))) ?_
      refine gm_c_virt (k := 206) (ci := 5) (mj := 31) (ix := 411) (pc := 59) (as := []) (st := []) (d' := d - 1) (bc' := 0) (bs' := 0) (by decide +kernel) (by decide +kernel) (by decide +kernel) (by decide +kernel) (e0k hE (k := 206) (c := 5) (by decide +kernel)).1 (e0k hE (k := 206) (c := 5) (by decide +kernel)).2 (by decide) (by decide +kernel) (show 0 = gm_na 31 by decide +kernel) fw_c0 (show 1 ≤ gm_ml 31 by decide +kernel) (Nat.le_of_ble_eq_true rfl) (by omega) (Nat.zero_le _) (Nat.zero_le _) ?_
      refine wy_out206 hE (ti_fr (W := [(206, some 2), (206, some 3), (206, some 4), (206, some 5), (206, some 6), (206, some 7), (206, some 8), (200, some 6), (204, none), (205, none)]) hT (fr_t (fr_p (fr_p (fr_p (fr_p (fr_p (fr_p (fr_p (fr_t fr_0 hf (by decide)) (Or.inr (by decide))) (Or.inr (by decide))) (Or.inr (by decide))) (Or.inr (by decide))) (Or.inr (by decide))) (Or.inr (by decide))) (Or.inr (by decide))) hf52 (by decide)) (by decide) (by decide +kernel)) hN (by rw [show M52 206 5 = (nwy N h φ ((N (119 + ((k : Int) * 7 + 2)))) (if (N (119 + ((k : Int) * 7 + 0))) = -1 then 1 else 0) (-1) ((N (119 + ((k : Int) * 7 + 3)))) ((N (119 + ((k : Int) * 7 + 4)))) (y - (N (119 + ((k : Int) * 7 + 3)))).toNat).1 from g5]; exact ⟨by omega, by omega⟩) (fun o31 => ?_) (fun o31 => ?_)
      · show gm_Wp X LX d _ _ 231 62 _ [gm_vi 0] n K _ _ Q
        rw [show M52 206 5 = (nwy N h φ ((N (119 + ((k : Int) * 7 + 2)))) (if (N (119 + ((k : Int) * 7 + 0))) = -1 then 1 else 0) (-1) ((N (119 + ((k : Int) * 7 + 3)))) ((N (119 + ((k : Int) * 7 + 4)))) (y - (N (119 + ((k : Int) * 7 + 3)))).toNat).1 from g5] at o31
        have o31 : ¬ N 1 ≤ (nwy N h φ ((N (119 + ((k : Int) * 7 + 2)))) (if (N (119 + ((k : Int) * 7 + 0))) = -1 then 1 else 0) (-1) ((N (119 + ((k : Int) * 7 + 3)))) ((N (119 + ((k : Int) * 7 + 4)))) (y - (N (119 + ((k : Int) * 7 + 3)))).toNat).1 := by omega
        refine fw_iffd (cc := .ne) (pc := 62) (off := 19) (by decide +kernel) (by decide) ⟨by decide, by decide⟩ (by decide) ?_
        refine gm_sz (gm_p_load (pc := 65) (i := .aload_n 0) (sr := 2) (j := 0) (by decide +kernel) rfl rfl rfl) ?_
        refine gm_sz (fw_gr (pc := 66) (ix := 58) (ci := 0) (j := 9) (r := 206) (by decide +kernel) (e0k hE (k := 1) (c := 0) (by decide +kernel)) (by decide +kernel) (by decide +kernel) (e0r hE (k := 1) (j := 9) (r := 206) (by decide +kernel))) ?_
        refine gm_sz (fw_gi (pc := 69) (ix := 209) (ci := 5) (j := 6) (x := (nwy N h φ ((N (119 + ((k : Int) * 7 + 2)))) (if (N (119 + ((k : Int) * 7 + 0))) = -1 then 1 else 0) (-1) ((N (119 + ((k : Int) * 7 + 3)))) ((N (119 + ((k : Int) * 7 + 4)))) (y - (N (119 + ((k : Int) * 7 + 3)))).toNat).2) (by decide +kernel) (e0k hE (k := 206) (c := 5) (by decide +kernel)) (by decide +kernel) (by decide +kernel) g6) ?_
        refine fw_if (cc := .ne) (pc := 72) (off := 9) (by decide +kernel) (by decide) ⟨by omega, by omega⟩ (fun h72 => ?_) (fun h72 => ?_)
        · have h72 : ¬ ((nwy N h φ ((N (119 + ((k : Int) * 7 + 2)))) (if (N (119 + ((k : Int) * 7 + 0))) = -1 then 1 else 0) (-1) ((N (119 + ((k : Int) * 7 + 3)))) ((N (119 + ((k : Int) * 7 + 4)))) (y - (N (119 + ((k : Int) * 7 + 3)))).toNat).2) = 0 := h72
          refine gm_sz (gm_p_iinc (pc := 81) (j := 3) (z := 1) (by decide +kernel) rfl) ?_
          refine gm_sz (gm_p_goto (pc := 84) (off := (-75)) (by decide +kernel) (by decide)) ?_
          have e8 : ((k + 1 : Nat) : Int) = (k : Int) + 1 := by omega
          have e9 : bts (fun l => (N (119 + (l * 7 + 3))) < y ∧ (nwy N h φ ((N (119 + (l * 7 + 2)))) (if (N (119 + (l * 7 + 0))) = -1 then 1 else 0) (-1) ((N (119 + (l * 7 + 3)))) ((N (119 + (l * 7 + 4)))) (y - (N (119 + (l * 7 + 3)))).toNat).1 < N 1 ∧ (nwy N h φ ((N (119 + (l * 7 + 2)))) (if (N (119 + (l * 7 + 0))) = -1 then 1 else 0) (-1) ((N (119 + (l * 7 + 3)))) ((N (119 + (l * 7 + 4)))) (y - (N (119 + (l * 7 + 3)))).toNat).2 = 0) (k + 1) = bts (fun l => (N (119 + (l * 7 + 3))) < y ∧ (nwy N h φ ((N (119 + (l * 7 + 2)))) (if (N (119 + (l * 7 + 0))) = -1 then 1 else 0) (-1) ((N (119 + (l * 7 + 3)))) ((N (119 + (l * 7 + 4)))) (y - (N (119 + (l * 7 + 3)))).toNat).1 < N 1 ∧ (nwy N h φ ((N (119 + (l * 7 + 2)))) (if (N (119 + (l * 7 + 0))) = -1 then 1 else 0) (-1) ((N (119 + (l * 7 + 3)))) ((N (119 + (l * 7 + 4)))) (y - (N (119 + (l * 7 + 3)))).toNat).2 = 0) k := bts_f (p := (fun l => (N (119 + (l * 7 + 3))) < y ∧ (nwy N h φ ((N (119 + (l * 7 + 2)))) (if (N (119 + (l * 7 + 0))) = -1 then 1 else 0) (-1) ((N (119 + (l * 7 + 3)))) ((N (119 + (l * 7 + 4)))) (y - (N (119 + (l * 7 + 3)))).toNat).1 < N 1 ∧ (nwy N h φ ((N (119 + (l * 7 + 2)))) (if (N (119 + (l * 7 + 0))) = -1 then 1 else 0) (-1) ((N (119 + (l * 7 + 3)))) ((N (119 + (l * 7 + 4)))) (y - (N (119 + (l * 7 + 3)))).toNat).2 = 0)) (show ¬ ((N (119 + ((k : Int) * 7 + 3))) < y ∧ (nwy N h φ ((N (119 + ((k : Int) * 7 + 2)))) (if (N (119 + ((k : Int) * 7 + 0))) = -1 then 1 else 0) (-1) ((N (119 + ((k : Int) * 7 + 3)))) ((N (119 + ((k : Int) * 7 + 4)))) (y - (N (119 + ((k : Int) * 7 + 3)))).toNat).1 < N 1 ∧ (nwy N h φ ((N (119 + ((k : Int) * 7 + 2)))) (if (N (119 + ((k : Int) * 7 + 0))) = -1 then 1 else 0) (-1) ((N (119 + ((k : Int) * 7 + 3)))) ((N (119 + ((k : Int) * 7 + 4)))) (y - (N (119 + ((k : Int) * 7 + 3)))).toNat).2 = 0) from by omega)
          have h9 := ih (k + 1) _ (by omega) (fr_t (fr_p (fr_p (fr_p (fr_p (fr_p (fr_p (fr_p (fr_t fr_0 hf (by decide)) (Or.inr (by decide))) (Or.inr (by decide))) (Or.inr (by decide))) (Or.inr (by decide))) (Or.inr (by decide))) (Or.inr (by decide))) (Or.inr (by decide))) hf52 (by decide)) hI52
          rw [e9, e8] at h9
          exact h9
        · have h72 : ((nwy N h φ ((N (119 + ((k : Int) * 7 + 2)))) (if (N (119 + ((k : Int) * 7 + 0))) = -1 then 1 else 0) (-1) ((N (119 + ((k : Int) * 7 + 3)))) ((N (119 + ((k : Int) * 7 + 4)))) (y - (N (119 + ((k : Int) * 7 + 3)))).toNat).2) = 0 := Classical.not_not.mp h72
          refine gm_sz (gm_p_load (pc := 75) (i := .iload_n 2) (sr := 0) (j := 2) (by decide +kernel) rfl rfl rfl) ?_
          refine gm_sz (gm_p_const (pc := 76) (i := .iconst 1) (v := gm_vi 1) (by decide +kernel) (by decide +kernel)) ?_
          refine gm_sz (gm_p_load (pc := 77) (i := .iload_n 3) (sr := 0) (j := 3) (by decide +kernel) rfl rfl rfl) ?_
          refine gm_sz (gm_p_bin (pc := 78) (i := .ishl) (f := gm_shl) (by decide +kernel) rfl) ?_
          refine gm_sz (gm_p_bin (pc := 79) (i := .ior) (f := gm_or) (by decide +kernel) rfl) ?_
          refine gm_sz (gm_p_stor (pc := 80) (i := .istore_n 2) (sr := 0) (j := 2) (by decide +kernel) rfl (show 3 ≤ _ from Nat.le_of_ble_eq_true rfl) rfl) ?_
          refine gm_sz (gm_p_iinc (pc := 81) (j := 3) (z := 1) (by decide +kernel) rfl) ?_
          refine gm_sz (gm_p_goto (pc := 84) (off := (-75)) (by decide +kernel) (by decide)) ?_
          have e8 : ((k + 1 : Nat) : Int) = (k : Int) + 1 := by omega
          have e9 : bts (fun l => (N (119 + (l * 7 + 3))) < y ∧ (nwy N h φ ((N (119 + (l * 7 + 2)))) (if (N (119 + (l * 7 + 0))) = -1 then 1 else 0) (-1) ((N (119 + (l * 7 + 3)))) ((N (119 + (l * 7 + 4)))) (y - (N (119 + (l * 7 + 3)))).toNat).1 < N 1 ∧ (nwy N h φ ((N (119 + (l * 7 + 2)))) (if (N (119 + (l * 7 + 0))) = -1 then 1 else 0) (-1) ((N (119 + (l * 7 + 3)))) ((N (119 + (l * 7 + 4)))) (y - (N (119 + (l * 7 + 3)))).toNat).2 = 0) (k + 1) = gm_or (bts (fun l => (N (119 + (l * 7 + 3))) < y ∧ (nwy N h φ ((N (119 + (l * 7 + 2)))) (if (N (119 + (l * 7 + 0))) = -1 then 1 else 0) (-1) ((N (119 + (l * 7 + 3)))) ((N (119 + (l * 7 + 4)))) (y - (N (119 + (l * 7 + 3)))).toNat).1 < N 1 ∧ (nwy N h φ ((N (119 + (l * 7 + 2)))) (if (N (119 + (l * 7 + 0))) = -1 then 1 else 0) (-1) ((N (119 + (l * 7 + 3)))) ((N (119 + (l * 7 + 4)))) (y - (N (119 + (l * 7 + 3)))).toNat).2 = 0) k) (gm_shl 1 (k : Int)) := bts_t (p := (fun l => (N (119 + (l * 7 + 3))) < y ∧ (nwy N h φ ((N (119 + (l * 7 + 2)))) (if (N (119 + (l * 7 + 0))) = -1 then 1 else 0) (-1) ((N (119 + (l * 7 + 3)))) ((N (119 + (l * 7 + 4)))) (y - (N (119 + (l * 7 + 3)))).toNat).1 < N 1 ∧ (nwy N h φ ((N (119 + (l * 7 + 2)))) (if (N (119 + (l * 7 + 0))) = -1 then 1 else 0) (-1) ((N (119 + (l * 7 + 3)))) ((N (119 + (l * 7 + 4)))) (y - (N (119 + (l * 7 + 3)))).toNat).2 = 0)) (show (N (119 + ((k : Int) * 7 + 3))) < y ∧ (nwy N h φ ((N (119 + ((k : Int) * 7 + 2)))) (if (N (119 + ((k : Int) * 7 + 0))) = -1 then 1 else 0) (-1) ((N (119 + ((k : Int) * 7 + 3)))) ((N (119 + ((k : Int) * 7 + 4)))) (y - (N (119 + ((k : Int) * 7 + 3)))).toNat).1 < N 1 ∧ (nwy N h φ ((N (119 + ((k : Int) * 7 + 2)))) (if (N (119 + ((k : Int) * 7 + 0))) = -1 then 1 else 0) (-1) ((N (119 + ((k : Int) * 7 + 3)))) ((N (119 + ((k : Int) * 7 + 4)))) (y - (N (119 + ((k : Int) * 7 + 3)))).toNat).2 = 0 from by omega)
          have h9 := ih (k + 1) _ (by omega) (fr_t (fr_p (fr_p (fr_p (fr_p (fr_p (fr_p (fr_p (fr_t fr_0 hf (by decide)) (Or.inr (by decide))) (Or.inr (by decide))) (Or.inr (by decide))) (Or.inr (by decide))) (Or.inr (by decide))) (Or.inr (by decide))) (Or.inr (by decide))) hf52 (by decide)) hI52
          rw [e9, e8] at h9
          exact h9
      · show gm_Wp X LX d _ _ 231 62 _ [gm_vi 1] n K _ _ Q
        rw [show M52 206 5 = (nwy N h φ ((N (119 + ((k : Int) * 7 + 2)))) (if (N (119 + ((k : Int) * 7 + 0))) = -1 then 1 else 0) (-1) ((N (119 + ((k : Int) * 7 + 3)))) ((N (119 + ((k : Int) * 7 + 4)))) (y - (N (119 + ((k : Int) * 7 + 3)))).toNat).1 from g5] at o31
        have o31 : N 1 ≤ (nwy N h φ ((N (119 + ((k : Int) * 7 + 2)))) (if (N (119 + ((k : Int) * 7 + 0))) = -1 then 1 else 0) (-1) ((N (119 + ((k : Int) * 7 + 3)))) ((N (119 + ((k : Int) * 7 + 4)))) (y - (N (119 + ((k : Int) * 7 + 3)))).toNat).1 := by omega
        refine fw_iftd (cc := .ne) (pc := 62) (off := 19) (by decide +kernel) (by decide) ⟨by decide, by decide⟩ (by decide) ?_
        refine gm_sz (gm_p_iinc (pc := 81) (j := 3) (z := 1) (by decide +kernel) rfl) ?_
        refine gm_sz (gm_p_goto (pc := 84) (off := (-75)) (by decide +kernel) (by decide)) ?_
        have e8 : ((k + 1 : Nat) : Int) = (k : Int) + 1 := by omega
        have e9 : bts (fun l => (N (119 + (l * 7 + 3))) < y ∧ (nwy N h φ ((N (119 + (l * 7 + 2)))) (if (N (119 + (l * 7 + 0))) = -1 then 1 else 0) (-1) ((N (119 + (l * 7 + 3)))) ((N (119 + (l * 7 + 4)))) (y - (N (119 + (l * 7 + 3)))).toNat).1 < N 1 ∧ (nwy N h φ ((N (119 + (l * 7 + 2)))) (if (N (119 + (l * 7 + 0))) = -1 then 1 else 0) (-1) ((N (119 + (l * 7 + 3)))) ((N (119 + (l * 7 + 4)))) (y - (N (119 + (l * 7 + 3)))).toNat).2 = 0) (k + 1) = bts (fun l => (N (119 + (l * 7 + 3))) < y ∧ (nwy N h φ ((N (119 + (l * 7 + 2)))) (if (N (119 + (l * 7 + 0))) = -1 then 1 else 0) (-1) ((N (119 + (l * 7 + 3)))) ((N (119 + (l * 7 + 4)))) (y - (N (119 + (l * 7 + 3)))).toNat).1 < N 1 ∧ (nwy N h φ ((N (119 + (l * 7 + 2)))) (if (N (119 + (l * 7 + 0))) = -1 then 1 else 0) (-1) ((N (119 + (l * 7 + 3)))) ((N (119 + (l * 7 + 4)))) (y - (N (119 + (l * 7 + 3)))).toNat).2 = 0) k := bts_f (p := (fun l => (N (119 + (l * 7 + 3))) < y ∧ (nwy N h φ ((N (119 + (l * 7 + 2)))) (if (N (119 + (l * 7 + 0))) = -1 then 1 else 0) (-1) ((N (119 + (l * 7 + 3)))) ((N (119 + (l * 7 + 4)))) (y - (N (119 + (l * 7 + 3)))).toNat).1 < N 1 ∧ (nwy N h φ ((N (119 + (l * 7 + 2)))) (if (N (119 + (l * 7 + 0))) = -1 then 1 else 0) (-1) ((N (119 + (l * 7 + 3)))) ((N (119 + (l * 7 + 4)))) (y - (N (119 + (l * 7 + 3)))).toNat).2 = 0)) (show ¬ ((N (119 + ((k : Int) * 7 + 3))) < y ∧ (nwy N h φ ((N (119 + ((k : Int) * 7 + 2)))) (if (N (119 + ((k : Int) * 7 + 0))) = -1 then 1 else 0) (-1) ((N (119 + ((k : Int) * 7 + 3)))) ((N (119 + ((k : Int) * 7 + 4)))) (y - (N (119 + ((k : Int) * 7 + 3)))).toNat).1 < N 1 ∧ (nwy N h φ ((N (119 + ((k : Int) * 7 + 2)))) (if (N (119 + ((k : Int) * 7 + 0))) = -1 then 1 else 0) (-1) ((N (119 + ((k : Int) * 7 + 3)))) ((N (119 + ((k : Int) * 7 + 4)))) (y - (N (119 + ((k : Int) * 7 + 3)))).toNat).2 = 0) from by omega)
        have h9 := ih (k + 1) _ (by omega) (fr_t (fr_p (fr_p (fr_p (fr_p (fr_p (fr_p (fr_p (fr_t fr_0 hf (by decide)) (Or.inr (by decide))) (Or.inr (by decide))) (Or.inr (by decide))) (Or.inr (by decide))) (Or.inr (by decide))) (Or.inr (by decide))) (Or.inr (by decide))) hf52 (by decide)) hI52
        rw [e9, e8] at h9
        exact h9
theorem ba_r (hd : 20 ≤ d) (hE : E0 n K R) (hT : TR N h M) (hN : NR N) (hfw : FLR X LX n K R N h FI φ) (hI : FI M) (hy : 0 ≤ y ∧ y ≤ 299) (h0 : M 226 0 = 0) (hq : ∀ M2, M2 226 0 = 0 → Q (.inl (some (gm_vi (bts (fun l => (N (119 + (l * 7 + 3))) < y ∧ (nwy N h φ ((N (119 + (l * 7 + 2)))) (if (N (119 + (l * 7 + 0))) = -1 then 1 else 0) (-1) ((N (119 + (l * 7 + 3)))) ((N (119 + (l * 7 + 4)))) (y - (N (119 + (l * 7 + 3)))).toNat).1 < N 1 ∧ (nwy N h φ ((N (119 + (l * 7 + 2)))) (if (N (119 + (l * 7 + 0))) = -1 then 1 else 0) (-1) ((N (119 + (l * 7 + 3)))) ((N (119 + (l * 7 + 4)))) (y - (N (119 + (l * 7 + 3)))).toNat).2 = 0) (N 4).toNat)))) n K R M2) : ∀ (u k : Nat) (M1 : gm_M), (k : Int) + (u : Int) = N 4 → fr [(226, some 29), (226, some 30), (226, some 26), (226, some 17), (226, some 18), (226, some 19), (226, some 20), (226, some 21), (226, some 22), (226, some 23), (235, none), (233, none), (236, none), (237, none)] M M1 → FI M1 → gm_Wp X LX d bc bs 366 23 [some (gm_vr 226), some (gm_vi y), some (gm_vi (bts (fun l => (N (119 + (l * 7 + 3))) < y ∧ (nwy N h φ ((N (119 + (l * 7 + 2)))) (if (N (119 + (l * 7 + 0))) = -1 then 1 else 0) (-1) ((N (119 + (l * 7 + 3)))) ((N (119 + (l * 7 + 4)))) (y - (N (119 + (l * 7 + 3)))).toNat).1 < N 1 ∧ (nwy N h φ ((N (119 + (l * 7 + 2)))) (if (N (119 + (l * 7 + 0))) = -1 then 1 else 0) (-1) ((N (119 + (l * 7 + 3)))) ((N (119 + (l * 7 + 4)))) (y - (N (119 + (l * 7 + 3)))).toNat).2 = 0) k)), some (gm_vi (k : Int))] [] n K R M1 Q := by
  obtain ⟨⟨⟨a0, b0⟩, ⟨a1, b1⟩, ⟨a10, b10⟩, ⟨a11, b11⟩, ⟨a12, b12⟩, a9, b9⟩, ⟨⟨a2, b2⟩, ⟨a5, b5⟩, ⟨a3, b3⟩, ⟨a4, b4⟩, ⟨a6, b6⟩, ⟨a14, b14⟩, ⟨a7, b7⟩, a13, b13⟩, rF, rP, rL⟩ := id hN
  intro u
  induction u with
  | zero =>
    intro k M1 hk hf hI1
    have ek : k = (N 4).toNat := by omega
    have hb9 := bts_ir (p := (fun l => (N (119 + (l * 7 + 3))) < y ∧ (nwy N h φ ((N (119 + (l * 7 + 2)))) (if (N (119 + (l * 7 + 0))) = -1 then 1 else 0) (-1) ((N (119 + (l * 7 + 3)))) ((N (119 + (l * 7 + 4)))) (y - (N (119 + (l * 7 + 3)))).toNat).1 < N 1 ∧ (nwy N h φ ((N (119 + (l * 7 + 2)))) (if (N (119 + (l * 7 + 0))) = -1 then 1 else 0) (-1) ((N (119 + (l * 7 + 3)))) ((N (119 + (l * 7 + 4)))) (y - (N (119 + (l * 7 + 3)))).toNat).2 = 0)) k
    refine gm_sz (gm_p_load (pc := 23) (i := .iload_n 3) (sr := 0) (j := 3) (by decide +kernel) rfl rfl rfl) ?_
    refine gm_sz (gm_p_load (pc := 24) (i := .aload_n 0) (sr := 2) (j := 0) (by decide +kernel) rfl rfl rfl) ?_
    refine gm_c_virt (k := 226) (ci := 11) (mj := 254) (ix := 100) (pc := 25) (as := []) (st := [gm_vi (k : Int)]) (d' := d - 1) (bc' := 0) (bs' := 0) (by decide +kernel) (by decide +kernel) (by decide +kernel) (by decide +kernel) (e0k hE (k := 226) (c := 11) (by decide +kernel)).1 (e0k hE (k := 226) (c := 11) (by decide +kernel)).2 (by decide) (by decide +kernel) (show 0 = gm_na 254 by decide +kernel) fw_c0 (show 1 ≤ gm_ml 254 by decide +kernel) (Nat.le_of_ble_eq_true rfl) (by omega) (Nat.zero_le _) (Nat.zero_le _) ?_
    refine re_let hE (tr_fr (W := [(226, some 29), (226, some 30), (226, some 26), (226, some 17), (226, some 18), (226, some 19), (226, some 20), (226, some 21), (226, some 22), (226, some 23), (235, none), (233, none), (236, none), (237, none)]) hT (fr_t fr_0 hf (by decide)) (by decide)) hN ?_
    show gm_Wp X LX d _ _ 366 28 _ [gm_vi (N 4), gm_vi (k : Int)] n K _ _ Q
    refine fw_ict (cc := .ge) (pc := 28) (off := 34) (by decide +kernel) (by decide) ⟨by omega, by omega⟩ ⟨by omega, by omega⟩ (show (N 4) ≤ (k : Int) by omega) ?_
    refine gm_sz (gm_p_load (pc := 62) (i := .iload_n 2) (sr := 0) (j := 2) (by decide +kernel) rfl rfl rfl) ?_
    have h9 : Q (.inl (some (gm_vi (bts (fun l => (N (119 + (l * 7 + 3))) < y ∧ (nwy N h φ ((N (119 + (l * 7 + 2)))) (if (N (119 + (l * 7 + 0))) = -1 then 1 else 0) (-1) ((N (119 + (l * 7 + 3)))) ((N (119 + (l * 7 + 4)))) (y - (N (119 + (l * 7 + 3)))).toNat).1 < N 1 ∧ (nwy N h φ ((N (119 + (l * 7 + 2)))) (if (N (119 + (l * 7 + 0))) = -1 then 1 else 0) (-1) ((N (119 + (l * 7 + 3)))) ((N (119 + (l * 7 + 4)))) (y - (N (119 + (l * 7 + 3)))).toNat).2 = 0) k)))) n K R M1 := by rw [ek]; exact hq _ ((fr_j hf (by decide)).trans h0)
    exact gm_r_int (pc := 63) (by decide +kernel) (Or.inl (by decide +kernel)) h9
  | succ u ih =>
    intro k M1 hk hf hI1
    have hb9 := bts_ir (p := (fun l => (N (119 + (l * 7 + 3))) < y ∧ (nwy N h φ ((N (119 + (l * 7 + 2)))) (if (N (119 + (l * 7 + 0))) = -1 then 1 else 0) (-1) ((N (119 + (l * 7 + 3)))) ((N (119 + (l * 7 + 4)))) (y - (N (119 + (l * 7 + 3)))).toNat).1 < N 1 ∧ (nwy N h φ ((N (119 + (l * 7 + 2)))) (if (N (119 + (l * 7 + 0))) = -1 then 1 else 0) (-1) ((N (119 + (l * 7 + 3)))) ((N (119 + (l * 7 + 4)))) (y - (N (119 + (l * 7 + 3)))).toNat).2 = 0)) k
    obtain ⟨r0, -, l2, l3, l4, -⟩ := rL (k : Int) (by omega) (by omega)
    have l5 : 0 ≤ (N (119 + ((k : Int) * 7 + 4))) ∧ (N (119 + ((k : Int) * 7 + 4))) ≤ 300 := ⟨l4.1, by have := l4.2; omega⟩
    have l49 : (N (119 + ((k : Int) * 7 + 4))) < N 1 := l4.2
    have l4 := l5
    have l32 : 0 ≤ (N (119 + ((k : Int) * 7 + 3))) ∧ (N (119 + ((k : Int) * 7 + 3))) ≤ N 9 := l3
    have rk9 : 0 ≤ (if (N (119 + ((k : Int) * 7 + 0))) = -1 then (1 : Int) else 0) ∧ (if (N (119 + ((k : Int) * 7 + 0))) = -1 then (1 : Int) else 0) ≤ 1 := by split <;> exact ⟨by decide, by decide⟩
    have hw9 : (N (119 + ((k : Int) * 7 + 3))) < y → _ := fun hy3 => nwy_b (lane := (N (119 + ((k : Int) * 7 + 2)))) (rock := (if (N (119 + ((k : Int) * 7 + 0))) = -1 then 1 else 0)) (wo := -1) hN hfw.1 (fun y a b => (hT.2 y a b).2) l3.1 l4 (y - (N (119 + ((k : Int) * 7 + 3)))).toNat (by omega)
    refine gm_sz (gm_p_load (pc := 23) (i := .iload_n 3) (sr := 0) (j := 3) (by decide +kernel) rfl rfl rfl) ?_
    refine gm_sz (gm_p_load (pc := 24) (i := .aload_n 0) (sr := 2) (j := 0) (by decide +kernel) rfl rfl rfl) ?_
    refine gm_c_virt (k := 226) (ci := 11) (mj := 254) (ix := 100) (pc := 25) (as := []) (st := [gm_vi (k : Int)]) (d' := d - 1) (bc' := 0) (bs' := 0) (by decide +kernel) (by decide +kernel) (by decide +kernel) (by decide +kernel) (e0k hE (k := 226) (c := 11) (by decide +kernel)).1 (e0k hE (k := 226) (c := 11) (by decide +kernel)).2 (by decide) (by decide +kernel) (show 0 = gm_na 254 by decide +kernel) fw_c0 (show 1 ≤ gm_ml 254 by decide +kernel) (Nat.le_of_ble_eq_true rfl) (by omega) (Nat.zero_le _) (Nat.zero_le _) ?_
    refine re_let hE (tr_fr (W := [(226, some 29), (226, some 30), (226, some 26), (226, some 17), (226, some 18), (226, some 19), (226, some 20), (226, some 21), (226, some 22), (226, some 23), (235, none), (233, none), (236, none), (237, none)]) hT (fr_t fr_0 hf (by decide)) (by decide)) hN ?_
    show gm_Wp X LX d _ _ 366 28 _ [gm_vi (N 4), gm_vi (k : Int)] n K _ _ Q
    refine fw_icf (cc := .ge) (pc := 28) (off := 34) (by decide +kernel) (by decide) ⟨by omega, by omega⟩ ⟨by omega, by omega⟩ (show ¬ (N 4) ≤ (k : Int) by omega) ?_
    refine gm_sz (gm_p_load (pc := 31) (i := .aload_n 0) (sr := 2) (j := 0) (by decide +kernel) rfl rfl rfl) ?_
    refine gm_sz (gm_p_load (pc := 32) (i := .iload_n 3) (sr := 0) (j := 3) (by decide +kernel) rfl rfl rfl) ?_
    refine gm_sz (gm_p_const (pc := 33) (i := .iconst (-1)) (v := gm_vi (-1)) (by decide +kernel) (by decide +kernel)) ?_
    refine gm_c_virt (k := 226) (ci := 11) (mj := 305) (ix := 381) (pc := 34) (as := [gm_vi (k : Int), gm_vi (-1)]) (st := []) (d' := d - 1) (bc' := 0) (bs' := 0) (by decide +kernel) (by decide +kernel) (by decide +kernel) (by decide +kernel) (e0k hE (k := 226) (c := 11) (by decide +kernel)).1 (e0k hE (k := 226) (c := 11) (by decide +kernel)).2 (by decide) (by decide +kernel) (show 2 = gm_na 305 by decide +kernel) (fw_c2 fw_si fw_si) (show 3 ≤ gm_ml 305 by decide +kernel) (Nat.le_of_ble_eq_true rfl) (by omega) (Nat.zero_le _) (Nat.zero_le _) ?_
    refine re_c305 (l := (k : Int)) (wo := (-1)) (by omega) hE (tr_fr (W := [(226, some 29), (226, some 30), (226, some 26), (226, some 17), (226, some 18), (226, some 19), (226, some 20), (226, some 21), (226, some 22), (226, some 23), (235, none), (233, none), (236, none), (237, none)]) hT (fr_t fr_0 hf (by decide)) (by decide)) hN hfw hI1 ⟨by omega, by omega⟩ ⟨by decide, by decide⟩ (fun M34 hf34 hI34 hr34 => ?_)
    show gm_Wp X LX d _ _ 366 37 _ [] n K _ _ Q
    have hr34 : rrun N h φ ((N (119 + ((k : Int) * 7 + 2)))) (if (N (119 + ((k : Int) * 7 + 0))) = -1 then 1 else 0) (-1) ((N (119 + ((k : Int) * 7 + 3)))) ((N (119 + ((k : Int) * 7 + 4)))) M34 := hr34
    refine gm_sz (gm_p_load (pc := 37) (i := .iload_n 2) (sr := 0) (j := 2) (by decide +kernel) rfl rfl rfl) ?_
    refine gm_sz (gm_p_load (pc := 38) (i := .aload_n 0) (sr := 2) (j := 0) (by decide +kernel) rfl rfl rfl) ?_
    refine gm_sz (gm_p_load (pc := 39) (i := .iload_n 3) (sr := 0) (j := 3) (by decide +kernel) rfl rfl rfl) ?_
    refine gm_sz (gm_p_load (pc := 40) (i := .iload_n 1) (sr := 0) (j := 1) (by decide +kernel) rfl rfl rfl) ?_
    refine gm_c_virt (k := 226) (ci := 11) (mj := 311) (ix := 402) (pc := 41) (as := [gm_vi (k : Int), gm_vi y]) (st := [gm_vi (bts (fun l => (N (119 + (l * 7 + 3))) < y ∧ (nwy N h φ ((N (119 + (l * 7 + 2)))) (if (N (119 + (l * 7 + 0))) = -1 then 1 else 0) (-1) ((N (119 + (l * 7 + 3)))) ((N (119 + (l * 7 + 4)))) (y - (N (119 + (l * 7 + 3)))).toNat).1 < N 1 ∧ (nwy N h φ ((N (119 + (l * 7 + 2)))) (if (N (119 + (l * 7 + 0))) = -1 then 1 else 0) (-1) ((N (119 + (l * 7 + 3)))) ((N (119 + (l * 7 + 4)))) (y - (N (119 + (l * 7 + 3)))).toNat).2 = 0) k)]) (d' := d - 1) (bc' := 0) (bs' := 0) (by decide +kernel) (by decide +kernel) (by decide +kernel) (by decide +kernel) (e0k hE (k := 226) (c := 11) (by decide +kernel)).1 (e0k hE (k := 226) (c := 11) (by decide +kernel)).2 (by decide) (by decide +kernel) (show 2 = gm_na 311 by decide +kernel) (fw_c2 fw_si fw_si) (show 3 ≤ gm_ml 311 by decide +kernel) (Nat.le_of_ble_eq_true rfl) (by omega) (Nat.zero_le _) (Nat.zero_le _) ?_
    refine ib_311 (l := (k : Int)) (y := y) (by omega) hE (tr_fr (W := [(226, some 29), (226, some 30), (226, some 26), (226, some 17), (226, some 18), (226, some 19), (226, some 20), (226, some 21), (226, some 22), (226, some 23), (235, none), (233, none), (236, none), (237, none)]) hT (fr_t (fr_t fr_0 hf (by decide)) hf34 (by decide)) (by decide)) hN hfw hr34 ⟨by omega, by omega⟩ ⟨by omega, by omega⟩ (fun j1 j2 j3 j4 => ?_) (fun w1 => ?_)
    · show gm_Wp X LX d _ _ 366 44 _ [gm_vi 1, gm_vi (bts (fun l => (N (119 + (l * 7 + 3))) < y ∧ (nwy N h φ ((N (119 + (l * 7 + 2)))) (if (N (119 + (l * 7 + 0))) = -1 then 1 else 0) (-1) ((N (119 + (l * 7 + 3)))) ((N (119 + (l * 7 + 4)))) (y - (N (119 + (l * 7 + 3)))).toNat).1 < N 1 ∧ (nwy N h φ ((N (119 + (l * 7 + 2)))) (if (N (119 + (l * 7 + 0))) = -1 then 1 else 0) (-1) ((N (119 + (l * 7 + 3)))) ((N (119 + (l * 7 + 4)))) (y - (N (119 + (l * 7 + 3)))).toNat).2 = 0) k)] n K _ _ Q
      have e31 : (y - (N (119 + ((k : Int) * 7 + 3)))).toNat = j1 := by omega
      have jj : (N (119 + ((k : Int) * 7 + 3))) < y ∧ (nwy N h φ ((N (119 + ((k : Int) * 7 + 2)))) (if (N (119 + ((k : Int) * 7 + 0))) = -1 then 1 else 0) (-1) ((N (119 + ((k : Int) * 7 + 3)))) ((N (119 + ((k : Int) * 7 + 4)))) (y - (N (119 + ((k : Int) * 7 + 3)))).toNat).1 < N 1 ∧ (nwy N h φ ((N (119 + ((k : Int) * 7 + 2)))) (if (N (119 + ((k : Int) * 7 + 0))) = -1 then 1 else 0) (-1) ((N (119 + ((k : Int) * 7 + 3)))) ((N (119 + ((k : Int) * 7 + 4)))) (y - (N (119 + ((k : Int) * 7 + 3)))).toNat).2 = 0 := by rw [e31]; exact ⟨by omega, j4.1, j4.2⟩
      refine fw_iffd (cc := .eq) (pc := 44) (off := 9) (by decide +kernel) (by decide) ⟨by decide, by decide⟩ (by decide) ?_
      refine gm_sz (gm_p_const (pc := 47) (i := .iconst 1) (v := gm_vi 1) (by decide +kernel) (by decide +kernel)) ?_
      refine gm_sz (gm_p_load (pc := 48) (i := .iload_n 3) (sr := 0) (j := 3) (by decide +kernel) rfl rfl rfl) ?_
      refine gm_sz (gm_p_bin (pc := 49) (i := .ishl) (f := gm_shl) (by decide +kernel) rfl) ?_
      refine gm_sz (gm_p_goto (pc := 50) (off := 4) (by decide +kernel) (by decide)) ?_
      refine gm_sz (gm_p_bin (pc := 54) (i := .ior) (f := gm_or) (by decide +kernel) rfl) ?_
      refine gm_sz (gm_p_stor (pc := 55) (i := .istore_n 2) (sr := 0) (j := 2) (by decide +kernel) rfl (show 3 ≤ _ from Nat.le_of_ble_eq_true rfl) rfl) ?_
      refine gm_sz (gm_p_iinc (pc := 56) (j := 3) (z := 1) (by decide +kernel) rfl) ?_
      refine gm_sz (gm_p_goto (pc := 59) (off := (-36)) (by decide +kernel) (by decide)) ?_
      have e8 : ((k + 1 : Nat) : Int) = (k : Int) + 1 := by omega
      have e9 : bts (fun l => (N (119 + (l * 7 + 3))) < y ∧ (nwy N h φ ((N (119 + (l * 7 + 2)))) (if (N (119 + (l * 7 + 0))) = -1 then 1 else 0) (-1) ((N (119 + (l * 7 + 3)))) ((N (119 + (l * 7 + 4)))) (y - (N (119 + (l * 7 + 3)))).toNat).1 < N 1 ∧ (nwy N h φ ((N (119 + (l * 7 + 2)))) (if (N (119 + (l * 7 + 0))) = -1 then 1 else 0) (-1) ((N (119 + (l * 7 + 3)))) ((N (119 + (l * 7 + 4)))) (y - (N (119 + (l * 7 + 3)))).toNat).2 = 0) (k + 1) = gm_or (bts (fun l => (N (119 + (l * 7 + 3))) < y ∧ (nwy N h φ ((N (119 + (l * 7 + 2)))) (if (N (119 + (l * 7 + 0))) = -1 then 1 else 0) (-1) ((N (119 + (l * 7 + 3)))) ((N (119 + (l * 7 + 4)))) (y - (N (119 + (l * 7 + 3)))).toNat).1 < N 1 ∧ (nwy N h φ ((N (119 + (l * 7 + 2)))) (if (N (119 + (l * 7 + 0))) = -1 then 1 else 0) (-1) ((N (119 + (l * 7 + 3)))) ((N (119 + (l * 7 + 4)))) (y - (N (119 + (l * 7 + 3)))).toNat).2 = 0) k) (gm_shl 1 (k : Int)) := bts_t (p := (fun l => (N (119 + (l * 7 + 3))) < y ∧ (nwy N h φ ((N (119 + (l * 7 + 2)))) (if (N (119 + (l * 7 + 0))) = -1 then 1 else 0) (-1) ((N (119 + (l * 7 + 3)))) ((N (119 + (l * 7 + 4)))) (y - (N (119 + (l * 7 + 3)))).toNat).1 < N 1 ∧ (nwy N h φ ((N (119 + (l * 7 + 2)))) (if (N (119 + (l * 7 + 0))) = -1 then 1 else 0) (-1) ((N (119 + (l * 7 + 3)))) ((N (119 + (l * 7 + 4)))) (y - (N (119 + (l * 7 + 3)))).toNat).2 = 0)) (show (N (119 + ((k : Int) * 7 + 3))) < y ∧ (nwy N h φ ((N (119 + ((k : Int) * 7 + 2)))) (if (N (119 + ((k : Int) * 7 + 0))) = -1 then 1 else 0) (-1) ((N (119 + ((k : Int) * 7 + 3)))) ((N (119 + ((k : Int) * 7 + 4)))) (y - (N (119 + ((k : Int) * 7 + 3)))).toNat).1 < N 1 ∧ (nwy N h φ ((N (119 + ((k : Int) * 7 + 2)))) (if (N (119 + ((k : Int) * 7 + 0))) = -1 then 1 else 0) (-1) ((N (119 + ((k : Int) * 7 + 3)))) ((N (119 + ((k : Int) * 7 + 4)))) (y - (N (119 + ((k : Int) * 7 + 3)))).toNat).2 = 0 from by omega)
      have h9 := ih (k + 1) _ (by omega) (fr_t (fr_t fr_0 hf (by decide)) hf34 (by decide)) hI34
      rw [e9, e8] at h9
      exact h9
    · show gm_Wp X LX d _ _ 366 44 _ [gm_vi 0, gm_vi (bts (fun l => (N (119 + (l * 7 + 3))) < y ∧ (nwy N h φ ((N (119 + (l * 7 + 2)))) (if (N (119 + (l * 7 + 0))) = -1 then 1 else 0) (-1) ((N (119 + (l * 7 + 3)))) ((N (119 + (l * 7 + 4)))) (y - (N (119 + (l * 7 + 3)))).toNat).1 < N 1 ∧ (nwy N h φ ((N (119 + (l * 7 + 2)))) (if (N (119 + (l * 7 + 0))) = -1 then 1 else 0) (-1) ((N (119 + (l * 7 + 3)))) ((N (119 + (l * 7 + 4)))) (y - (N (119 + (l * 7 + 3)))).toNat).2 = 0) k)] n K _ _ Q
      have jj : ¬ ((N (119 + ((k : Int) * 7 + 3))) < y ∧ (nwy N h φ ((N (119 + ((k : Int) * 7 + 2)))) (if (N (119 + ((k : Int) * 7 + 0))) = -1 then 1 else 0) (-1) ((N (119 + ((k : Int) * 7 + 3)))) ((N (119 + ((k : Int) * 7 + 4)))) (y - (N (119 + ((k : Int) * 7 + 3)))).toNat).1 < N 1 ∧ (nwy N h φ ((N (119 + ((k : Int) * 7 + 2)))) (if (N (119 + ((k : Int) * 7 + 0))) = -1 then 1 else 0) (-1) ((N (119 + ((k : Int) * 7 + 3)))) ((N (119 + ((k : Int) * 7 + 4)))) (y - (N (119 + ((k : Int) * 7 + 3)))).toNat).2 = 0) := fun hh => w1 (y - (N (119 + ((k : Int) * 7 + 3)))).toNat (by omega) (by omega) ⟨hh.2.1, hh.2.2⟩
      refine fw_iftd (cc := .eq) (pc := 44) (off := 9) (by decide +kernel) (by decide) ⟨by decide, by decide⟩ (by decide) ?_
      refine gm_sz (gm_p_const (pc := 53) (i := .iconst 0) (v := gm_vi 0) (by decide +kernel) (by decide +kernel)) ?_
      refine gm_sz (gm_p_bin (pc := 54) (i := .ior) (f := gm_or) (by decide +kernel) rfl) ?_
      refine gm_sz (gm_p_stor (pc := 55) (i := .istore_n 2) (sr := 0) (j := 2) (by decide +kernel) rfl (show 3 ≤ _ from Nat.le_of_ble_eq_true rfl) rfl) ?_
      refine gm_sz (gm_p_iinc (pc := 56) (j := 3) (z := 1) (by decide +kernel) rfl) ?_
      refine gm_sz (gm_p_goto (pc := 59) (off := (-36)) (by decide +kernel) (by decide)) ?_
      rw [or_z hb9]
      have e8 : ((k + 1 : Nat) : Int) = (k : Int) + 1 := by omega
      have e9 : bts (fun l => (N (119 + (l * 7 + 3))) < y ∧ (nwy N h φ ((N (119 + (l * 7 + 2)))) (if (N (119 + (l * 7 + 0))) = -1 then 1 else 0) (-1) ((N (119 + (l * 7 + 3)))) ((N (119 + (l * 7 + 4)))) (y - (N (119 + (l * 7 + 3)))).toNat).1 < N 1 ∧ (nwy N h φ ((N (119 + (l * 7 + 2)))) (if (N (119 + (l * 7 + 0))) = -1 then 1 else 0) (-1) ((N (119 + (l * 7 + 3)))) ((N (119 + (l * 7 + 4)))) (y - (N (119 + (l * 7 + 3)))).toNat).2 = 0) (k + 1) = bts (fun l => (N (119 + (l * 7 + 3))) < y ∧ (nwy N h φ ((N (119 + (l * 7 + 2)))) (if (N (119 + (l * 7 + 0))) = -1 then 1 else 0) (-1) ((N (119 + (l * 7 + 3)))) ((N (119 + (l * 7 + 4)))) (y - (N (119 + (l * 7 + 3)))).toNat).1 < N 1 ∧ (nwy N h φ ((N (119 + (l * 7 + 2)))) (if (N (119 + (l * 7 + 0))) = -1 then 1 else 0) (-1) ((N (119 + (l * 7 + 3)))) ((N (119 + (l * 7 + 4)))) (y - (N (119 + (l * 7 + 3)))).toNat).2 = 0) k := bts_f (p := (fun l => (N (119 + (l * 7 + 3))) < y ∧ (nwy N h φ ((N (119 + (l * 7 + 2)))) (if (N (119 + (l * 7 + 0))) = -1 then 1 else 0) (-1) ((N (119 + (l * 7 + 3)))) ((N (119 + (l * 7 + 4)))) (y - (N (119 + (l * 7 + 3)))).toNat).1 < N 1 ∧ (nwy N h φ ((N (119 + (l * 7 + 2)))) (if (N (119 + (l * 7 + 0))) = -1 then 1 else 0) (-1) ((N (119 + (l * 7 + 3)))) ((N (119 + (l * 7 + 4)))) (y - (N (119 + (l * 7 + 3)))).toNat).2 = 0)) (show ¬ ((N (119 + ((k : Int) * 7 + 3))) < y ∧ (nwy N h φ ((N (119 + ((k : Int) * 7 + 2)))) (if (N (119 + ((k : Int) * 7 + 0))) = -1 then 1 else 0) (-1) ((N (119 + ((k : Int) * 7 + 3)))) ((N (119 + ((k : Int) * 7 + 4)))) (y - (N (119 + ((k : Int) * 7 + 3)))).toNat).1 < N 1 ∧ (nwy N h φ ((N (119 + ((k : Int) * 7 + 2)))) (if (N (119 + ((k : Int) * 7 + 0))) = -1 then 1 else 0) (-1) ((N (119 + ((k : Int) * 7 + 3)))) ((N (119 + ((k : Int) * 7 + 4)))) (y - (N (119 + ((k : Int) * 7 + 3)))).toNat).2 = 0) from by omega)
      have h9 := ih (k + 1) _ (by omega) (fr_t (fr_t fr_0 hf (by decide)) hf34 (by decide)) hI34
      rw [e9, e8] at h9
      exact h9
theorem cl_bare (hd : 20 ≤ d) (hbc : 4 ≤ bc) (hbs : 24 ≤ bs) (hE : E0 n K R) (hT : TI N h sp M) (hN : NR N) (hfw : FLW X LX n K R N h sp FI φ) (hI : FI M) (hi : gm_ir y) (kv : 0 ≤ y ∧ y ≤ 299 → ∀ M2, Q (.inl (some (gm_vi (bts (fun l => (N (119 + (l * 7 + 3))) < y ∧ (nwy N h φ ((N (119 + (l * 7 + 2)))) (if (N (119 + (l * 7 + 0))) = -1 then 1 else 0) (-1) ((N (119 + (l * 7 + 3)))) ((N (119 + (l * 7 + 4)))) (y - (N (119 + (l * 7 + 3)))).toNat).1 < N 1 ∧ (nwy N h φ ((N (119 + (l * 7 + 2)))) (if (N (119 + (l * 7 + 0))) = -1 then 1 else 0) (-1) ((N (119 + (l * 7 + 3)))) ((N (119 + (l * 7 + 4)))) (y - (N (119 + (l * 7 + 3)))).toNat).2 = 0) (N 4).toNat)))) n K R M2) (k0 : ¬ (0 ≤ y ∧ y ≤ 299) → Q (.inr 0) n K R M) : gm_Wp X LX d bc bs 231 0 (gm_ent 231 [gm_vr 1, gm_vi y]) [] n K R M Q := by
  obtain ⟨⟨⟨a0, b0⟩, ⟨a1, b1⟩, ⟨a10, b10⟩, ⟨a11, b11⟩, ⟨a12, b12⟩, a9, b9⟩, ⟨⟨a2, b2⟩, ⟨a5, b5⟩, ⟨a3, b3⟩, ⟨a4, b4⟩, ⟨a6, b6⟩, ⟨a14, b14⟩, ⟨a7, b7⟩, a13, b13⟩, rF, rP, rL⟩ := id hN
  refine gm_sz (gm_p_load (pc := 0) (i := .aload_n 0) (sr := 2) (j := 0) (by decide +kernel) rfl rfl rfl) ?_
  refine gm_sz (gm_p_load (pc := 1) (i := .iload_n 1) (sr := 0) (j := 1) (by decide +kernel) rfl rfl rfl) ?_
  refine gm_c_virt (k := 1) (ci := 0) (mj := 129) (ix := 160) (pc := 2) (as := [gm_vi y]) (st := []) (d' := d - 1) (bc' := 1) (bs' := 6) (by decide +kernel) (by decide +kernel) (by decide +kernel) (by decide +kernel) (e0k hE (k := 1) (c := 0) (by decide +kernel)).1 (e0k hE (k := 1) (c := 0) (by decide +kernel)).2 (by decide) (by decide +kernel) (show 1 = gm_na 129 by decide +kernel) (fw_c1 fw_si) (show 2 ≤ gm_ml 129 by decide +kernel) (Nat.le_of_ble_eq_true rfl) (by omega) (by omega) (by omega) ?_
  refine nd_129 (i := y) (by omega) (by omega) (by omega) hi (fun c2 => ?_) (fun c2 => ?_)
  · show gm_Wp X LX d _ _ 231 5 _ [] n K _ _ Q
    have c2 : 0 ≤ y ∧ y ≤ 299 := c2
    refine gm_sz (gm_p_const (pc := 5) (i := .iconst 0) (v := gm_vi 0) (by decide +kernel) (by decide +kernel)) ?_
    refine gm_sz (gm_p_stor (pc := 6) (i := .istore_n 2) (sr := 0) (j := 2) (by decide +kernel) rfl (show 3 ≤ _ from Nat.le_of_ble_eq_true rfl) rfl) ?_
    refine gm_sz (gm_p_const (pc := 7) (i := .iconst 0) (v := gm_vi 0) (by decide +kernel) (by decide +kernel)) ?_
    refine gm_sz (gm_p_stor (pc := 8) (i := .istore_n 3) (sr := 0) (j := 3) (by decide +kernel) rfl (show 4 ≤ _ from Nat.le_of_ble_eq_true rfl) rfl) ?_
    exact ba_c hd hE hT hN hfw hI ⟨by omega, by omega⟩ (kv ⟨by omega, by omega⟩) (N 4).toNat 0 _ (by omega) fr_0 hI
  · show Q (.inr 0) n K _ _
    have c2 : ¬ (0 ≤ y ∧ y ≤ 299) := c2
    exact (k0 (by omega))
theorem re_bare (hd : 20 ≤ d) (hE : E0 n K R) (hT : TR N h M) (hN : NR N) (hfw : FLR X LX n K R N h FI φ) (hI : FI M) (hi : gm_ir y) (kv : 0 ≤ y ∧ y ≤ 299 → ∀ M2, M2 226 0 = 0 → Q (.inl (some (gm_vi (bts (fun l => (N (119 + (l * 7 + 3))) < y ∧ (nwy N h φ ((N (119 + (l * 7 + 2)))) (if (N (119 + (l * 7 + 0))) = -1 then 1 else 0) (-1) ((N (119 + (l * 7 + 3)))) ((N (119 + (l * 7 + 4)))) (y - (N (119 + (l * 7 + 3)))).toNat).1 < N 1 ∧ (nwy N h φ ((N (119 + (l * 7 + 2)))) (if (N (119 + (l * 7 + 0))) = -1 then 1 else 0) (-1) ((N (119 + (l * 7 + 3)))) ((N (119 + (l * 7 + 4)))) (y - (N (119 + (l * 7 + 3)))).toNat).2 = 0) (N 4).toNat)))) n K R M2) (k1 : ¬ (0 ≤ y ∧ y ≤ 299) → ∀ M2, M2 226 0 = 1 → Q (.inl (some (gm_vi 0))) n K R M2) : gm_Wp X LX d bc bs 366 0 (gm_ent 366 [gm_vr 226, gm_vi y]) [] n K R M Q := by
  obtain ⟨⟨⟨a0, b0⟩, ⟨a1, b1⟩, ⟨a10, b10⟩, ⟨a11, b11⟩, ⟨a12, b12⟩, a9, b9⟩, ⟨⟨a2, b2⟩, ⟨a5, b5⟩, ⟨a3, b3⟩, ⟨a4, b4⟩, ⟨a6, b6⟩, ⟨a14, b14⟩, ⟨a7, b7⟩, a13, b13⟩, rF, rP, rL⟩ := id hN
  refine gm_sz (gm_p_load (pc := 0) (i := .aload_n 0) (sr := 2) (j := 0) (by decide +kernel) rfl rfl rfl) ?_
  refine gm_sz (gm_p_const (pc := 1) (i := .iconst 0) (v := gm_vi 0) (by decide +kernel) (by decide +kernel)) ?_
  refine gm_sz (fw_pi (pc := 2) (ix := 3) (ci := 11) (j := 0) (M' := gm_uM M 226 0 0) (by decide +kernel) (e0k hE (k := 226) (c := 11) (by decide +kernel)) (by decide +kernel) (by decide +kernel) (by decide +kernel) rfl) ?_
  refine gm_sz (gm_p_load (pc := 5) (i := .aload_n 0) (sr := 2) (j := 0) (by decide +kernel) rfl rfl rfl) ?_
  refine gm_sz (gm_p_load (pc := 6) (i := .iload_n 1) (sr := 0) (j := 1) (by decide +kernel) rfl rfl rfl) ?_
  refine gm_c_stat (mj := 285) (ix := 353) (pc := 7) (as := [gm_vi y]) (st := [gm_vr 226]) (d' := d - 1) (bc' := 0) (bs' := 0) (by decide +kernel) (by decide +kernel) (by decide +kernel) (by decide +kernel) (show 1 = gm_na 285 by decide +kernel) (fw_c1 fw_si) (show 1 ≤ gm_ml 285 by decide +kernel) (Nat.le_of_ble_eq_true rfl) (by omega) (Nat.zero_le _) (Nat.zero_le _) ?_
  refine no_285 (i := y) (by omega) hi (fun n7 => ?_) (fun n7 => ?_)
  · show gm_Wp X LX d _ _ 366 10 _ [gm_vi 1, gm_vr 226] n K _ _ Q
    have n7 : ¬ (0 ≤ y ∧ y ≤ 299) := n7
    refine gm_sz (gm_p_const (pc := 10) (i := .iconst 1) (v := gm_vi 1) (by decide +kernel) (by decide +kernel)) ?_
    refine gm_c_virt (k := 226) (ci := 11) (mj := 282) (ix := 300) (pc := 11) (as := [gm_vi 1, gm_vi 1]) (st := []) (d' := d - 1) (bc' := 0) (bs' := 0) (by decide +kernel) (by decide +kernel) (by decide +kernel) (by decide +kernel) (e0k hE (k := 226) (c := 11) (by decide +kernel)).1 (e0k hE (k := 226) (c := 11) (by decide +kernel)).2 (by decide) (by decide +kernel) (show 2 = gm_na 282 by decide +kernel) (fw_c2 fw_si fw_si) (show 3 ≤ gm_ml 282 by decide +kernel) (Nat.le_of_ble_eq_true rfl) (by omega) (Nat.zero_le _) (Nat.zero_le _) ?_
    refine tf_1 hE ?_
    show gm_Wp X LX d _ _ 366 14 _ [gm_vi 1] n K _ _ Q
    refine fw_iffd (cc := .eq) (pc := 14) (off := 5) (by decide +kernel) (by decide) ⟨by decide, by decide⟩ (by decide) ?_
    refine gm_sz (gm_p_const (pc := 17) (i := .iconst 0) (v := gm_vi 0) (by decide +kernel) (by decide +kernel)) ?_
    exact gm_r_int (pc := 18) (by decide +kernel) (Or.inl (by decide +kernel)) (k1 (by omega) _ uM_at)
  · show gm_Wp X LX d _ _ 366 10 _ [gm_vi 0, gm_vr 226] n K _ _ Q
    have n7 : 0 ≤ y ∧ y ≤ 299 := n7
    refine gm_sz (gm_p_const (pc := 10) (i := .iconst 1) (v := gm_vi 1) (by decide +kernel) (by decide +kernel)) ?_
    refine gm_c_virt (k := 226) (ci := 11) (mj := 282) (ix := 300) (pc := 11) (as := [gm_vi 0, gm_vi 1]) (st := []) (d' := d - 1) (bc' := 0) (bs' := 0) (by decide +kernel) (by decide +kernel) (by decide +kernel) (by decide +kernel) (e0k hE (k := 226) (c := 11) (by decide +kernel)).1 (e0k hE (k := 226) (c := 11) (by decide +kernel)).2 (by decide) (by decide +kernel) (show 2 = gm_na 282 by decide +kernel) (fw_c2 fw_si fw_si) (show 3 ≤ gm_ml 282 by decide +kernel) (Nat.le_of_ble_eq_true rfl) (by omega) (Nat.zero_le _) (Nat.zero_le _) ?_
    refine tf_0 hE ?_
    show gm_Wp X LX d _ _ 366 14 _ [gm_vi 0] n K _ _ Q
    refine fw_iftd (cc := .eq) (pc := 14) (off := 5) (by decide +kernel) (by decide) ⟨by decide, by decide⟩ (by decide) ?_
    refine gm_sz (gm_p_const (pc := 19) (i := .iconst 0) (v := gm_vi 0) (by decide +kernel) (by decide +kernel)) ?_
    refine gm_sz (gm_p_stor (pc := 20) (i := .istore_n 2) (sr := 0) (j := 2) (by decide +kernel) rfl (show 3 ≤ _ from Nat.le_of_ble_eq_true rfl) rfl) ?_
    refine gm_sz (gm_p_const (pc := 21) (i := .iconst 0) (v := gm_vi 0) (by decide +kernel) (by decide +kernel)) ?_
    refine gm_sz (gm_p_stor (pc := 22) (i := .istore_n 3) (sr := 0) (j := 3) (by decide +kernel) rfl (show 4 ≤ _ from Nat.le_of_ble_eq_true rfl) rfl) ?_
    exact ba_r hd hE (tr_fr (W := [(226, some 0)]) hT (fr_p fr_0 (Or.inr (by decide))) (by decide)) hN hfw (hfw.2.1 [(226, some 0)] _ _ (by decide) (fr_p fr_0 (Or.inr (by decide))) hI) ⟨by omega, by omega⟩ uM_at (kv ⟨by omega, by omega⟩) (N 4).toNat 0 _ (by omega) fr_0 (hfw.2.1 [(226, some 0)] _ _ (by decide) (fr_p fr_0 (Or.inr (by decide))) hI)
end BA58
section BA58B
variable {X : Int → Int} {LX d bc bs n g z g1 : Nat} {la : Nat → Nat} {K : gm_K} {R : gm_R} {M : gm_M} {N : Int → Int} {lw : Option (List lln)} {A : List (Int → Int)} {im : Option ((Int → Int) × Option (List lln))} {t w : Int} {f : Int → Int} {a b c e : Int} {NC : Nat} {C Ln G : Int → Int}
noncomputable def q_bare (lw : Option (List lln)) (N : Int → Int) (a : Int) : Int × Int := tif (¬ (0 ≤ a ∧ a ≤ 299)) (1, 0) (0, bts (fun l => (N (119 + (l * 7 + 3))) < a ∧ (nwy N (hts (N 13)) (aphi lw N (hts (N 13))) ((N (119 + (l * 7 + 2)))) (if (N (119 + (l * 7 + 0))) = -1 then 1 else 0) (-1) ((N (119 + (l * 7 + 3)))) ((N (119 + (l * 7 + 4)))) (a - (N (119 + (l * 7 + 3)))).toNat).1 < N 1 ∧ (nwy N (hts (N 13)) (aphi lw N (hts (N 13))) ((N (119 + (l * 7 + 2)))) (if (N (119 + (l * 7 + 0))) = -1 then 1 else 0) (-1) ((N (119 + (l * 7 + 3)))) ((N (119 + (l * 7 + 4)))) (a - (N (119 + (l * 7 + 3)))).toNat).2 = 0) (N 4).toNat)
theorem iq_bare : gm_ir (q_bare lw N a).1 := by
  unfold q_bare
  exact tif_ir (show (-2147483648 : Int) ≤ 1 ∧ (1 : Int) < 2147483648 from by decide) ((show (-2147483648 : Int) ≤ 0 ∧ (0 : Int) < 2147483648 from by decide))
theorem cq_bare (hd : 24 ≤ d) (hbc : 4 ≤ bc) (hbs : 24 ≤ bs) (hE : E0 n K R) (hn : 245 ≤ n) (hK : K 245 = (2, 1)) (hc : CC n K R NC C Ln G lw) (hL : LBX NC C Ln lw M) (hG : GJ N) (hV : CLV N lw A im t w f M) (ia : gm_ir a) : gm_Wp X LX d bc bs 231 0 (gm_ent 231 [gm_vr 1, gm_vi a]) [] n K R M (hQ [(0, 1)] (CF (q_bare lw N a).1 (oV (q_bare lw N a).1 (q_bare lw N a).2))) := by
  exact cl_bare (Nat.le_trans (by decide) hd) hbc hbs hE hV.1.1 hG.1.1 (flw_a hE hc hG.1.1 hG.1.2.1) (fic_of hL hV) ia (fun h M2 => hQ_v hn hK (cf_v hK (tif_f (fun hh => hh h)) rfl)) (fun h => hQ_x hn hK (c := 1) (by decide) (cf_x hK (tif_t h) (by decide)))
theorem rq_bare (hd : 24 ≤ d) (hE : E0 n K R) (hT : jT fun j => M 227 (395 + j)) (hS6 : NSb 6 N) (hG : GJ N) (hV : RFV N lw A im t w f M) (ia : gm_ir a) : gm_Wp X LX d bc bs 366 0 (gm_ent 366 [gm_vr 226, gm_vi a]) [] n K R M (RF (q_bare lw N a).1 (q_bare lw N a).2) := by
  have k226 := k226 hE
  exact re_bare (Nat.le_trans (by decide) hd) hE hV.1.1 hG.1.1 (flr_a hE (lawg_of hV.1.2.1 hT) hgeo_r hG.1.1 hG.1.1 hS6) ⟨hV.2.1, fun _ _ => rfl⟩ ia (fun h M2 h0 => rf_e k226 (tif_f (fun hh => hh h)) (fun _ => rfl) h0) (fun h M2 h0 => rf_e k226 (tif_t h) (fun e => absurd e (by decide)) h0)
theorem fw_bare (hb : bg g la K R M) (hR : REL la K M N lw A im t w f) (ia : gm_ir a) : ∀ z g1, bs_ok la z g1 → ¬ z = 100003 → gm_Wp X LX 279 6 600 230 0 (gm_ent 230 (gm_vr 1 :: bc_as [a] true)) [] (245 + 4 * g1) (bs_K la K) (bs_R z g1) (bs_M la M) (CF (q_bare lw N a).1 (oV (q_bare lw N a).1 (q_bare lw N a).2)) := by
  intro z g1 hz hz3
  have hE := e0_w hb hz
  obtain ⟨NC, C, Ln, hcc, hlb⟩ := cc_w hb hz hz3 hR.2.1.1 hR.2.2.2.1.2.1
  exact hl_230 (d := 278) (k1_e hE) (cq_bare (by decide) (by decide) (by decide) hE (k245 hE).1 (k245 hE).2 hcc hlb hR.1.1 (clv_w hb hR.2.2.1) ia)
theorem fm_bare (hb : bg g la K R M) (hR : REL la K M N lw A im t w f) (ia : gm_ir a) : gm_Wp X LX 279 6 600 366 0 (gm_ent 366 (gm_vr 226 :: [a].map gm_vi)) [] 245 (bs_K la K) (bs_R 100003 0) (bs_M la M) (RF (q_bare lw N a).1 (q_bare lw N a).2) := rq_bare (by decide) (e0_w hb (Or.inr (Or.inl ⟨rfl, rfl⟩))) (gJ_w hb) (ns6 (bs_F0 (z := 100003) hb) (rfv_w (la := la) hR.2.2.2).1.1.1 hR.1.1.1.1) hR.1.1 (rfv_w hR.2.2.2) ia
end BA58B
end
