/-! LETTER: what it answers; when it is bare first. -/
/-- bare, after so many years -/
def BRE (N h : Int → Int) (φ : Int → Int → Int → Int) (l : Int) (k : Nat) : Prop := (nwy N h φ ((N (119 + (l * 7 + 2)))) (if (N (119 + (l * 7 + 0))) = -1 then 1 else 0) (-1) ((N (119 + (l * 7 + 3)))) ((N (119 + (l * 7 + 4)))) k).1 < N 1 ∧ (nwy N h φ ((N (119 + (l * 7 + 2)))) (if (N (119 + (l * 7 + 0))) = -1 then 1 else 0) (-1) ((N (119 + (l * 7 + 3)))) ((N (119 + (l * 7 + 4)))) k).2 = 0
/-- the first year when it is bare -/
def FBR (N h : Int → Int) (φ : Int → Int → Int → Int) (l v : Int) : Prop := (v = -1 ∧ ∀ k : Nat, 1 ≤ k → (N (119 + (l * 7 + 3))) + (k : Int) ≤ 299 → ¬ BRE N h φ l k) ∨ ∃ k : Nat, 1 ≤ k ∧ (N (119 + (l * 7 + 3))) + (k : Int) ≤ 299 ∧ v = (N (119 + (l * 7 + 3))) + (k : Int) ∧ BRE N h φ l k ∧ ∀ i : Nat, 1 ≤ i → i < k → ¬ BRE N h φ l i
theorem FBR_u {N h : Int → Int} {φ : Int → Int → Int → Int} {l v v2 : Int} (h0 : 0 ≤ (N (119 + (l * 7 + 3)))) (a : FBR N h φ l v) (b : FBR N h φ l v2) : v = v2 := by
  rcases a with ⟨a1, a2⟩ | ⟨k, a1, a2, a3, a4, a5⟩
  · rcases b with ⟨b1, b2⟩ | ⟨j, b1, b2, b3, b4, b5⟩
    · omega
    · exact absurd b4 (a2 j b1 b2)
  · rcases b with ⟨b1, b2⟩ | ⟨j, b1, b2, b3, b4, b5⟩
    · exact absurd a4 (b2 k a1 a2)
    · have e : k = j := by
        rcases Nat.lt_trichotomy k j with h | h | h
        · exact absurd a4 (b5 k a1 h)
        · exact h
        · exact absurd b4 (a5 j b1 h)
      rw [a3, b3, e]
theorem FBR_x {N h : Int → Int} {φ : Int → Int → Int → Int} {l : Int} : ∃ v, FBR N h φ l v := by
  have key : ∀ m : Nat, (∀ k : Nat, 1 ≤ k → k ≤ m → (N (119 + (l * 7 + 3))) + (k : Int) ≤ 299 → ¬ BRE N h φ l k) ∨ ∃ k : Nat, 1 ≤ k ∧ (N (119 + (l * 7 + 3))) + (k : Int) ≤ 299 ∧ BRE N h φ l k ∧ ∀ i : Nat, 1 ≤ i → i < k → ¬ BRE N h φ l i := by
    intro m
    induction m with
    | zero => exact Or.inl (fun k k1 k2 => by omega)
    | succ m ih =>
      rcases ih with hx | hx
      · by_cases hb : (N (119 + (l * 7 + 3))) + ((m + 1 : Nat) : Int) ≤ 299 ∧ BRE N h φ l (m + 1)
        · exact Or.inr ⟨m + 1, by omega, hb.1, hb.2, fun i i1 i2 => hx i i1 (by omega) (by omega)⟩
        · refine Or.inl (fun k k1 k2 k3 hk => ?_)
          by_cases e : k = m + 1
          · subst e; exact hb ⟨k3, hk⟩
          · exact hx k k1 (by omega) k3 hk
      · exact Or.inr hx
  rcases key (300 - (N (119 + (l * 7 + 3)))).toNat with h | ⟨k, a, b, c, d⟩
  · exact ⟨-1, Or.inl ⟨rfl, fun k k1 k2 => h k k1 (by omega) k2⟩⟩
  · exact ⟨_, Or.inr ⟨k, a, b, rfl, c, d⟩⟩
noncomputable def fbare (N h : Int → Int) (φ : Int → Int → Int → Int) (l : Int) : Int := Classical.choose (FBR_x (N := N) (h := h) (φ := φ) (l := l))
theorem fbare_s {N h : Int → Int} {φ : Int → Int → Int → Int} {l : Int} : FBR N h φ l (fbare N h φ l) := Classical.choose_spec FBR_x
/-- what is out stays out -/
theorem nwy_out {N h : Int → Int} {φ : Int → Int → Int → Int} {lane rk wo y0 r0 : Int} {k : Nat} (ho : N 1 ≤ (nwy N h φ lane rk wo y0 r0 k).1) : ∀ j : Nat, nwy N h φ lane rk wo y0 r0 (k + j) = nwy N h φ lane rk wo y0 r0 k := by
  intro j
  induction j with
  | zero => rfl
  | succ j ih =>
    show nst N h φ lane rk wo (y0 + ((k + j : Nat) : Int)) (nwy N h φ lane rk wo y0 r0 (k + j)) = _
    rw [ih]
    exact if_pos ho
section LT56
variable {X : Int → Int} {LX d bc bs n : Nat} {K : gm_K} {R : gm_R} {M : gm_M} {Q : gm_Q} {N h : Int → Int} {sp : Int → Int → Int} {FI : gm_M → Prop} {φ : Int → Int → Int → Int} {o dd : Int → Int} {l lane row year y p w x k c v a b t : Int}
theorem of_144 (hd : 20 ≤ d) (hE : E0 n K R) (hT : TI N h sp M) (hN : NR N) (hfw : FLW X LX n K R N h sp FI φ) (hI : FI M) (hoo : ∀ l, 0 ≤ l → l < N 4 → OUTR N h φ l (o l) (dd l)) (hl : 0 ≤ l ∧ l < N 4) (hq : ∀ M2, (0 ≤ o l → M2 206 6 = dd l) → Q (.inl (some (gm_vi (o l)))) n K R M2) : gm_Wp X LX d bc bs 144 0 (gm_ent 144 [gm_vr 1, gm_vi l]) [] n K R M Q := by
  obtain ⟨⟨⟨a0, b0⟩, ⟨a1, b1⟩, ⟨a10, b10⟩, ⟨a11, b11⟩, ⟨a12, b12⟩, a9, b9⟩, ⟨⟨a2, b2⟩, ⟨a5, b5⟩, ⟨a3, b3⟩, ⟨a4, b4⟩, ⟨a6, b6⟩, ⟨a14, b14⟩, ⟨a7, b7⟩, a13, b13⟩, rF, rP, rL⟩ := id hN
  obtain ⟨r0, r1, l2, l3, l4, r5, r6, -⟩ := rL l hl.1 hl.2
  have l5 : 0 ≤ (N (119 + (l * 7 + 4))) ∧ (N (119 + (l * 7 + 4))) ≤ 300 := ⟨l4.1, by have := l4.2; omega⟩
  have l49 : (N (119 + (l * 7 + 4))) < N 1 := l4.2
  have l4 := l5
  have rk9 : 0 ≤ (if (N (119 + (l * 7 + 0))) = -1 then (1 : Int) else 0) ∧ (if (N (119 + (l * 7 + 0))) = -1 then (1 : Int) else 0) ≤ 1 := by split <;> exact ⟨by decide, by decide⟩
  refine gm_sz (gm_p_load (pc := 0) (i := .aload_n 0) (sr := 2) (j := 0) (by decide +kernel) rfl rfl rfl) ?_
  refine gm_sz (fw_gr (pc := 1) (ix := 58) (ci := 0) (j := 9) (r := 206) (by decide +kernel) (e0k hE (k := 1) (c := 0) (by decide +kernel)) (by decide +kernel) (by decide +kernel) (e0r hE (k := 1) (j := 9) (r := 206) (by decide +kernel))) ?_
  refine gm_sz (gm_p_load (pc := 4) (i := .iload_n 1) (sr := 0) (j := 1) (by decide +kernel) rfl rfl rfl) ?_
  refine gm_c_virt (k := 206) (ci := 5) (mj := 27) (ix := 217) (pc := 5) (as := [gm_vi l]) (st := []) (d' := d - 1) (bc' := 0) (bs' := 0) (by decide +kernel) (by decide +kernel) (by decide +kernel) (by decide +kernel) (e0k hE (k := 206) (c := 5) (by decide +kernel)).1 (e0k hE (k := 206) (c := 5) (by decide +kernel)).2 (by decide) (by decide +kernel) (show 1 = gm_na 27 by decide +kernel) (fw_c1 fw_si) (show 2 ≤ gm_ml 27 by decide +kernel) (Nat.le_of_ble_eq_true rfl) (by omega) (Nat.zero_le _) (Nat.zero_le _) ?_
  refine wy_let206 (by omega) hE hT hN ⟨by omega, by omega⟩ ?_
  show gm_Wp X LX d _ _ 144 8 _ [] n K _ _ Q
  refine gm_sz (gm_p_load (pc := 8) (i := .aload_n 0) (sr := 2) (j := 0) (by decide +kernel) rfl rfl rfl) ?_
  refine gm_sz (fw_gr (pc := 9) (ix := 58) (ci := 0) (j := 9) (r := 206) (by decide +kernel) (e0k hE (k := 1) (c := 0) (by decide +kernel)) (by decide +kernel) (by decide +kernel) (e0r hE (k := 1) (j := 9) (r := 206) (by decide +kernel))) ?_
  refine gm_sz (gm_p_const (pc := 12) (i := .sipush 299) (v := gm_vi 299) (by decide +kernel) (by decide +kernel)) ?_
  refine gm_c_virt (k := 206) (ci := 5) (mj := 30) (ix := 295) (pc := 15) (as := [gm_vi 299]) (st := []) (d' := d - 1) (bc' := 0) (bs' := 0) (by decide +kernel) (by decide +kernel) (by decide +kernel) (by decide +kernel) (e0k hE (k := 206) (c := 5) (by decide +kernel)).1 (e0k hE (k := 206) (c := 5) (by decide +kernel)).2 (by decide) (by decide +kernel) (show 1 = gm_na 30 by decide +kernel) (fw_c1 fw_si) (show 2 ≤ gm_ml 30 by decide +kernel) (Nat.le_of_ble_eq_true rfl) (by omega) (Nat.zero_le _) (Nat.zero_le _) ?_
  refine wy_c30_206 (lane := (N (119 + (l * 7 + 2)))) (rock := (if (N (119 + (l * 7 + 0))) = -1 then 1 else 0)) (wo := -1) (r0 := (N (119 + (l * 7 + 4)))) (y0 := (N (119 + (l * 7 + 3)))) (lim := 299) (by omega) hE (ti_fr (W := [(206, some 2), (206, some 5), (206, some 7), (206, some 3), (206, some 4), (206, some 6), (206, some 8)]) hT (fr_p (fr_p (fr_p (fr_p (fr_p (fr_p (fr_p fr_0 (Or.inr (by decide))) (Or.inr (by decide))) (Or.inr (by decide))) (Or.inr (by decide))) (Or.inr (by decide))) (Or.inr (by decide))) (Or.inr (by decide))) (by decide) (by decide +kernel)) hN hfw (hfw.2.1 [(206, some 2), (206, some 5), (206, some 7), (206, some 3), (206, some 4), (206, some 6), (206, some 8)] _ _ (by decide) (fr_p (fr_p (fr_p (fr_p (fr_p (fr_p (fr_p fr_0 (Or.inr (by decide))) (Or.inr (by decide))) (Or.inr (by decide))) (Or.inr (by decide))) (Or.inr (by decide))) (Or.inr (by decide))) (Or.inr (by decide))) hI) ((uM_ne (by omega)).trans ((uM_ne (by omega)).trans ((uM_ne (by omega)).trans ((uM_ne (by omega)).trans ((uM_ne (by omega)).trans ((uM_ne (by omega)).trans uM_at)))))) ((uM_ne (by omega)).trans ((uM_ne (by omega)).trans ((uM_ne (by omega)).trans uM_at))) ((uM_ne (by omega)).trans ((uM_ne (by omega)).trans uM_at)) ((uM_ne (by omega)).trans ((uM_ne (by omega)).trans ((uM_ne (by omega)).trans ((uM_ne (by omega)).trans ((uM_ne (by omega)).trans uM_at))))) ((uM_ne (by omega)).trans uM_at) ((uM_ne (by omega)).trans ((uM_ne (by omega)).trans ((uM_ne (by omega)).trans ((uM_ne (by omega)).trans uM_at)))) l3.1 l2 rk9 ⟨by decide, by decide⟩ l4 (by have := l3.2; omega) (by decide) (by decide) (fun j9 M30 hf30 hI30 g1 g2 g3 g5 g6 => ?_) (fun M30 hf30 hI30 g1 => ?_)
  · show gm_Wp X LX d _ _ 144 18 _ [gm_vi ((N (119 + (l * 7 + 3))) + (j9 : Int))] n K _ _ Q
    have e9 := OUTR_u (Or.inr ⟨j9, g1, rfl, g2, g3, rfl⟩ : OUTR N h φ l ((N (119 + (l * 7 + 3))) + (j9 : Int)) (nwy N h φ ((N (119 + (l * 7 + 2)))) (if (N (119 + (l * 7 + 0))) = -1 then 1 else 0) (-1) ((N (119 + (l * 7 + 3)))) ((N (119 + (l * 7 + 4)))) j9).2) (hoo l hl.1 hl.2)
    rw [e9.1]
    exact gm_r_int (pc := 18) (by decide +kernel) (Or.inl (by decide +kernel)) (hq _ (fun h0 => g6.trans (e9.2 l3.1 (by have := l3.1; omega))))
  · show gm_Wp X LX d _ _ 144 18 _ [gm_vi (-1)] n K _ _ Q
    have e9 := OUTR_u (Or.inl ⟨rfl, g1⟩ : OUTR N h φ l (-1) 0) (hoo l hl.1 hl.2)
    rw [e9.1]
    exact gm_r_int (pc := 18) (by decide +kernel) (Or.inl (by decide +kernel)) (hq _ (fun h0 => absurd h0 (by have := e9.1; omega)))
theorem fb_l (hd : 20 ≤ d) (hE : E0 n K R) (hT : TI N h sp M) (hN : NR N) (hfw : FLW X LX n K R N h sp FI φ) (g2 : M 206 2 = (N (119 + (l * 7 + 2)))) (g3 : M 206 3 = (if (N (119 + (l * 7 + 0))) = -1 then 1 else 0)) (g4 : M 206 4 = -1) (hl : 0 ≤ l ∧ l < N 4) (hq : ∀ v M2, FBR N h φ l v → Q (.inl (some (gm_vi v))) n K R M2) : ∀ (u k : Nat) (M1 : gm_M), (N (119 + (l * 7 + 3))) + (k : Int) + (u : Int) = 299 → fr [(206, some 5), (206, some 6), (206, some 7), (206, some 8), (200, some 6), (204, none), (205, none)] M M1 → FI M1 → M1 206 5 = (nwy N h φ ((N (119 + (l * 7 + 2)))) (if (N (119 + (l * 7 + 0))) = -1 then 1 else 0) (-1) ((N (119 + (l * 7 + 3)))) ((N (119 + (l * 7 + 4)))) k).1 → M1 206 6 = (nwy N h φ ((N (119 + (l * 7 + 2)))) (if (N (119 + (l * 7 + 0))) = -1 then 1 else 0) (-1) ((N (119 + (l * 7 + 3)))) ((N (119 + (l * 7 + 4)))) k).2 → M1 206 7 = (N (119 + (l * 7 + 3))) + (k : Int) → (∀ i : Nat, 1 ≤ i → i ≤ k → ¬ BRE N h φ l i) → gm_Wp X LX d bc bs 145 18 [some (gm_vr 1), some (gm_vi l), some (gm_vi ((N (119 + (l * 7 + 3))) + (k : Int) + 1))] [] n K R M1 Q := by
  obtain ⟨⟨⟨a0, b0⟩, ⟨a1, b1⟩, ⟨a10, b10⟩, ⟨a11, b11⟩, ⟨a12, b12⟩, a9, b9⟩, ⟨⟨a2, b2⟩, ⟨a5, b5⟩, ⟨a3, b3⟩, ⟨a4, b4⟩, ⟨a6, b6⟩, ⟨a14, b14⟩, ⟨a7, b7⟩, a13, b13⟩, rF, rP, rL⟩ := id hN
  obtain ⟨r0, r1, l2, l3, l4, r5, r6, -⟩ := rL l hl.1 hl.2
  have l5 : 0 ≤ (N (119 + (l * 7 + 4))) ∧ (N (119 + (l * 7 + 4))) ≤ 300 := ⟨l4.1, by have := l4.2; omega⟩
  have l49 : (N (119 + (l * 7 + 4))) < N 1 := l4.2
  have l4 := l5
  have rk9 : 0 ≤ (if (N (119 + (l * 7 + 0))) = -1 then (1 : Int) else 0) ∧ (if (N (119 + (l * 7 + 0))) = -1 then (1 : Int) else 0) ≤ 1 := by split <;> exact ⟨by decide, by decide⟩
  intro u
  induction u with
  | zero =>
    intro k M1 hk hf hI1 h5 h6 h7 hb
    refine gm_sz (gm_p_load (pc := 18) (i := .iload_n 2) (sr := 0) (j := 2) (by decide +kernel) rfl rfl rfl) ?_
    refine gm_sz (gm_p_const (pc := 19) (i := .sipush 300) (v := gm_vi 300) (by decide +kernel) (by decide +kernel)) ?_
    refine fw_ict (cc := .ge) (pc := 22) (off := 40) (by decide +kernel) (by decide) ⟨by omega, by omega⟩ ⟨by decide, by decide⟩ (show 300 ≤ ((N (119 + (l * 7 + 3))) + (k : Int) + 1) by omega) ?_
    refine gm_sz (gm_p_const (pc := 62) (i := .iconst (-1)) (v := gm_vi (-1)) (by decide +kernel) (by decide +kernel)) ?_
    exact gm_r_int (pc := 63) (by decide +kernel) (Or.inl (by decide +kernel)) (hq _ _ (Or.inl ⟨rfl, fun j j1 j2 => hb j j1 (by omega)⟩))
  | succ u ih =>
    intro k M1 hk hf hI1 h5 h6 h7 hb
    have b90 := nwy_b (lane := (N (119 + (l * 7 + 2)))) (rock := (if (N (119 + (l * 7 + 0))) = -1 then 1 else 0)) (wo := -1) hN hfw.1 (fun y a b => (hT.2.2.1 y a b).2.1) l3.1 l4 k (by omega)
    refine gm_sz (gm_p_load (pc := 18) (i := .iload_n 2) (sr := 0) (j := 2) (by decide +kernel) rfl rfl rfl) ?_
    refine gm_sz (gm_p_const (pc := 19) (i := .sipush 300) (v := gm_vi 300) (by decide +kernel) (by decide +kernel)) ?_
    refine fw_icf (cc := .ge) (pc := 22) (off := 40) (by decide +kernel) (by decide) ⟨by omega, by omega⟩ ⟨by decide, by decide⟩ (show ¬ 300 ≤ ((N (119 + (l * 7 + 3))) + (k : Int) + 1) by omega) ?_
    refine gm_sz (gm_p_load (pc := 25) (i := .aload_n 0) (sr := 2) (j := 0) (by decide +kernel) rfl rfl rfl) ?_
    refine gm_sz (fw_gr (pc := 26) (ix := 58) (ci := 0) (j := 9) (r := 206) (by decide +kernel) (e0k hE (k := 1) (c := 0) (by decide +kernel)) (by decide +kernel) (by decide +kernel) (e0r hE (k := 1) (j := 9) (r := 206) (by decide +kernel))) ?_
    refine gm_c_virt (k := 206) (ci := 5) (mj := 32) (ix := 447) (pc := 29) (as := []) (st := []) (d' := d - 1) (bc' := 0) (bs' := 0) (by decide +kernel) (by decide +kernel) (by decide +kernel) (by decide +kernel) (e0k hE (k := 206) (c := 5) (by decide +kernel)).1 (e0k hE (k := 206) (c := 5) (by decide +kernel)).2 (by decide) (by decide +kernel) (show 0 = gm_na 32 by decide +kernel) fw_c0 (show 1 ≤ gm_ml 32 by decide +kernel) (Nat.le_of_ble_eq_true rfl) (by omega) (Nat.zero_le _) (Nat.zero_le _) ?_
    refine wy_step206 (lane := (N (119 + (l * 7 + 2)))) (rock := (if (N (119 + (l * 7 + 0))) = -1 then 1 else 0)) (wo := -1) (r := (nwy N h φ ((N (119 + (l * 7 + 2)))) (if (N (119 + (l * 7 + 0))) = -1 then 1 else 0) (-1) ((N (119 + (l * 7 + 3)))) ((N (119 + (l * 7 + 4)))) k).1) (dp := (nwy N h φ ((N (119 + (l * 7 + 2)))) (if (N (119 + (l * 7 + 0))) = -1 then 1 else 0) (-1) ((N (119 + (l * 7 + 3)))) ((N (119 + (l * 7 + 4)))) k).2) (y := (N (119 + (l * 7 + 3))) + (k : Int)) (by omega) hE (ti_fr (W := [(206, some 5), (206, some 6), (206, some 7), (206, some 8), (200, some 6), (204, none), (205, none)]) hT (fr_t fr_0 hf (by decide)) (by decide) (by decide +kernel)) hN hfw hI1 ((fr_j hf (by decide)).trans g2) ((fr_j hf (by decide)).trans g3) ((fr_j hf (by decide)).trans g4) h5 h6 h7 l2 rk9 ⟨by decide, by decide⟩ ⟨by omega, by omega⟩ ⟨by omega, by omega⟩ ⟨by omega, by omega⟩ (fun M32 hf32 hI32 s5 s6 s7 => ?_)
    show gm_Wp X LX d _ _ 145 32 _ [] n K _ _ Q
    have s5 : M32 206 5 = (nwy N h φ ((N (119 + (l * 7 + 2)))) (if (N (119 + (l * 7 + 0))) = -1 then 1 else 0) (-1) ((N (119 + (l * 7 + 3)))) ((N (119 + (l * 7 + 4)))) (k + 1)).1 := s5
    have s6 : M32 206 6 = (nwy N h φ ((N (119 + (l * 7 + 2)))) (if (N (119 + (l * 7 + 0))) = -1 then 1 else 0) (-1) ((N (119 + (l * 7 + 3)))) ((N (119 + (l * 7 + 4)))) (k + 1)).2 := s6
    have b91 := nwy_b (lane := (N (119 + (l * 7 + 2)))) (rock := (if (N (119 + (l * 7 + 0))) = -1 then 1 else 0)) (wo := -1) hN hfw.1 (fun y a b => (hT.2.2.1 y a b).2.1) l3.1 l4 (k + 1) (by omega)
    refine gm_sz (gm_p_load (pc := 32) (i := .aload_n 0) (sr := 2) (j := 0) (by decide +kernel) rfl rfl rfl) ?_
    refine gm_sz (fw_gr (pc := 33) (ix := 58) (ci := 0) (j := 9) (r := 206) (by decide +kernel) (e0k hE (k := 1) (c := 0) (by decide +kernel)) (by decide +kernel) (by decide +kernel) (e0r hE (k := 1) (j := 9) (r := 206) (by decide +kernel))) ?_
    refine gm_c_virt (k := 206) (ci := 5) (mj := 31) (ix := 411) (pc := 36) (as := []) (st := []) (d' := d - 1) (bc' := 0) (bs' := 0) (by decide +kernel) (by decide +kernel) (by decide +kernel) (by decide +kernel) (e0k hE (k := 206) (c := 5) (by decide +kernel)).1 (e0k hE (k := 206) (c := 5) (by decide +kernel)).2 (by decide) (by decide +kernel) (show 0 = gm_na 31 by decide +kernel) fw_c0 (show 1 ≤ gm_ml 31 by decide +kernel) (Nat.le_of_ble_eq_true rfl) (by omega) (Nat.zero_le _) (Nat.zero_le _) ?_
    refine wy_out206 hE (ti_fr (W := [(206, some 5), (206, some 6), (206, some 7), (206, some 8), (200, some 6), (204, none), (205, none)]) hT (fr_t (fr_t fr_0 hf (by decide)) hf32 (by decide)) (by decide) (by decide +kernel)) hN (by rw [show M32 206 5 = (nwy N h φ ((N (119 + (l * 7 + 2)))) (if (N (119 + (l * 7 + 0))) = -1 then 1 else 0) (-1) ((N (119 + (l * 7 + 3)))) ((N (119 + (l * 7 + 4)))) (k + 1)).1 from s5]; exact ⟨by omega, by omega⟩) (fun o31 => ?_) (fun o31 => ?_)
    · show gm_Wp X LX d _ _ 145 39 _ [gm_vi 0] n K _ _ Q
      rw [show M32 206 5 = (nwy N h φ ((N (119 + (l * 7 + 2)))) (if (N (119 + (l * 7 + 0))) = -1 then 1 else 0) (-1) ((N (119 + (l * 7 + 3)))) ((N (119 + (l * 7 + 4)))) (k + 1)).1 from s5] at o31
      have o31 : ¬ N 1 ≤ (nwy N h φ ((N (119 + (l * 7 + 2)))) (if (N (119 + (l * 7 + 0))) = -1 then 1 else 0) (-1) ((N (119 + (l * 7 + 3)))) ((N (119 + (l * 7 + 4)))) (k + 1)).1 := by omega
      refine fw_iftd (cc := .eq) (pc := 39) (off := 5) (by decide +kernel) (by decide) ⟨by decide, by decide⟩ (by decide) ?_
      refine gm_sz (gm_p_load (pc := 44) (i := .aload_n 0) (sr := 2) (j := 0) (by decide +kernel) rfl rfl rfl) ?_
      refine gm_sz (fw_gr (pc := 45) (ix := 58) (ci := 0) (j := 9) (r := 206) (by decide +kernel) (e0k hE (k := 1) (c := 0) (by decide +kernel)) (by decide +kernel) (by decide +kernel) (e0r hE (k := 1) (j := 9) (r := 206) (by decide +kernel))) ?_
      refine gm_sz (fw_gi (pc := 48) (ix := 209) (ci := 5) (j := 6) (x := (nwy N h φ ((N (119 + (l * 7 + 2)))) (if (N (119 + (l * 7 + 0))) = -1 then 1 else 0) (-1) ((N (119 + (l * 7 + 3)))) ((N (119 + (l * 7 + 4)))) (k + 1)).2) (by decide +kernel) (e0k hE (k := 206) (c := 5) (by decide +kernel)) (by decide +kernel) (by decide +kernel) s6) ?_
      refine fw_if (cc := .ne) (pc := 51) (off := 5) (by decide +kernel) (by decide) ⟨by omega, by omega⟩ (fun h51 => ?_) (fun h51 => ?_)
      · have h51 : ¬ ((nwy N h φ ((N (119 + (l * 7 + 2)))) (if (N (119 + (l * 7 + 0))) = -1 then 1 else 0) (-1) ((N (119 + (l * 7 + 3)))) ((N (119 + (l * 7 + 4)))) (k + 1)).2) = 0 := h51
        refine gm_sz (gm_p_iinc (pc := 56) (j := 2) (z := 1) (by decide +kernel) rfl) ?_
        refine gm_sz (gm_p_goto (pc := 59) (off := (-41)) (by decide +kernel) (by decide)) ?_
        have hb2 : ∀ i : Nat, 1 ≤ i → i ≤ k + 1 → ¬ BRE N h φ l i := fun i i1 i2 hi => by
          by_cases e : i = k + 1
          · subst e
            have := hi.2
            omega
          · exact hb i i1 (by omega) hi
        have h9 := ih (k + 1) M32 (by omega) (fr_t (fr_t fr_0 hf (by decide)) hf32 (by decide)) hI32 s5 s6 (s7.trans (by omega)) hb2
        rw [show (N (119 + (l * 7 + 3))) + ((k + 1 : Nat) : Int) + 1 = (N (119 + (l * 7 + 3))) + (k : Int) + 1 + 1 by omega] at h9
        exact h9
      · have h51 : ((nwy N h φ ((N (119 + (l * 7 + 2)))) (if (N (119 + (l * 7 + 0))) = -1 then 1 else 0) (-1) ((N (119 + (l * 7 + 3)))) ((N (119 + (l * 7 + 4)))) (k + 1)).2) = 0 := Classical.not_not.mp h51
        refine gm_sz (gm_p_load (pc := 54) (i := .iload_n 2) (sr := 0) (j := 2) (by decide +kernel) rfl rfl rfl) ?_
        have hbr : BRE N h φ l (k + 1) := ⟨by omega, by omega⟩
        refine gm_r_int (pc := 55) (by decide +kernel) (Or.inl (by decide +kernel)) (hq _ _ (Or.inr ⟨k + 1, by omega, by omega, ?_, hbr, fun i i1 i2 => hb i i1 (by omega)⟩))
        omega
    · show gm_Wp X LX d _ _ 145 39 _ [gm_vi 1] n K _ _ Q
      rw [show M32 206 5 = (nwy N h φ ((N (119 + (l * 7 + 2)))) (if (N (119 + (l * 7 + 0))) = -1 then 1 else 0) (-1) ((N (119 + (l * 7 + 3)))) ((N (119 + (l * 7 + 4)))) (k + 1)).1 from s5] at o31
      have o31 : N 1 ≤ (nwy N h φ ((N (119 + (l * 7 + 2)))) (if (N (119 + (l * 7 + 0))) = -1 then 1 else 0) (-1) ((N (119 + (l * 7 + 3)))) ((N (119 + (l * 7 + 4)))) (k + 1)).1 := by omega
      refine fw_iffd (cc := .eq) (pc := 39) (off := 5) (by decide +kernel) (by decide) ⟨by decide, by decide⟩ (by decide) ?_
      refine gm_sz (gm_p_const (pc := 42) (i := .iconst (-1)) (v := gm_vi (-1)) (by decide +kernel) (by decide +kernel)) ?_
      have hn : ∀ j : Nat, 1 ≤ j → (N (119 + (l * 7 + 3))) + (j : Int) ≤ 299 → ¬ BRE N h φ l j := fun j j1 j2 hj => by
        by_cases e : j ≤ k
        · exact hb j j1 e hj
        · have e2 := nwy_out o31 (j - (k + 1))
          rw [show k + 1 + (j - (k + 1)) = j by omega] at e2
          have hj1 := hj.1
          rw [e2] at hj1
          omega
      exact gm_r_int (pc := 43) (by decide +kernel) (Or.inl (by decide +kernel)) (hq _ _ (Or.inl ⟨rfl, hn⟩))
theorem fb_145 (hd : 20 ≤ d) (hE : E0 n K R) (hT : TI N h sp M) (hN : NR N) (hfw : FLW X LX n K R N h sp FI φ) (hI : FI M) (hl : 0 ≤ l ∧ l < N 4) (hq : ∀ v M2, FBR N h φ l v → Q (.inl (some (gm_vi v))) n K R M2) : gm_Wp X LX d bc bs 145 0 (gm_ent 145 [gm_vr 1, gm_vi l]) [] n K R M Q := by
  obtain ⟨⟨⟨a0, b0⟩, ⟨a1, b1⟩, ⟨a10, b10⟩, ⟨a11, b11⟩, ⟨a12, b12⟩, a9, b9⟩, ⟨⟨a2, b2⟩, ⟨a5, b5⟩, ⟨a3, b3⟩, ⟨a4, b4⟩, ⟨a6, b6⟩, ⟨a14, b14⟩, ⟨a7, b7⟩, a13, b13⟩, rF, rP, rL⟩ := id hN
  obtain ⟨r0, r1, l2, l3, l4, r5, r6, -⟩ := rL l hl.1 hl.2
  have l5 : 0 ≤ (N (119 + (l * 7 + 4))) ∧ (N (119 + (l * 7 + 4))) ≤ 300 := ⟨l4.1, by have := l4.2; omega⟩
  have l49 : (N (119 + (l * 7 + 4))) < N 1 := l4.2
  have l4 := l5
  have rk9 : 0 ≤ (if (N (119 + (l * 7 + 0))) = -1 then (1 : Int) else 0) ∧ (if (N (119 + (l * 7 + 0))) = -1 then (1 : Int) else 0) ≤ 1 := by split <;> exact ⟨by decide, by decide⟩
  refine gm_sz (gm_p_load (pc := 0) (i := .aload_n 0) (sr := 2) (j := 0) (by decide +kernel) rfl rfl rfl) ?_
  refine gm_sz (fw_gr (pc := 1) (ix := 58) (ci := 0) (j := 9) (r := 206) (by decide +kernel) (e0k hE (k := 1) (c := 0) (by decide +kernel)) (by decide +kernel) (by decide +kernel) (e0r hE (k := 1) (j := 9) (r := 206) (by decide +kernel))) ?_
  refine gm_sz (gm_p_load (pc := 4) (i := .iload_n 1) (sr := 0) (j := 1) (by decide +kernel) rfl rfl rfl) ?_
  refine gm_c_virt (k := 206) (ci := 5) (mj := 27) (ix := 217) (pc := 5) (as := [gm_vi l]) (st := []) (d' := d - 1) (bc' := 0) (bs' := 0) (by decide +kernel) (by decide +kernel) (by decide +kernel) (by decide +kernel) (e0k hE (k := 206) (c := 5) (by decide +kernel)).1 (e0k hE (k := 206) (c := 5) (by decide +kernel)).2 (by decide) (by decide +kernel) (show 1 = gm_na 27 by decide +kernel) (fw_c1 fw_si) (show 2 ≤ gm_ml 27 by decide +kernel) (Nat.le_of_ble_eq_true rfl) (by omega) (Nat.zero_le _) (Nat.zero_le _) ?_
  refine wy_let206 (by omega) hE hT hN ⟨by omega, by omega⟩ ?_
  show gm_Wp X LX d _ _ 145 8 _ [] n K _ _ Q
  refine gm_sz (gm_p_load (pc := 8) (i := .aload_n 0) (sr := 2) (j := 0) (by decide +kernel) rfl rfl rfl) ?_
  refine gm_sz (fw_gr (pc := 9) (ix := 58) (ci := 0) (j := 9) (r := 206) (by decide +kernel) (e0k hE (k := 1) (c := 0) (by decide +kernel)) (by decide +kernel) (by decide +kernel) (e0r hE (k := 1) (j := 9) (r := 206) (by decide +kernel))) ?_
  refine gm_sz (fw_gi (pc := 12) (ix := 444) (ci := 5) (j := 7) (x := N (119 + ((l * 7) + 3))) (by decide +kernel) (e0k hE (k := 206) (c := 5) (by decide +kernel)) (by decide +kernel) (by decide +kernel) ((uM_ne (by omega)).trans ((uM_ne (by omega)).trans ((uM_ne (by omega)).trans ((uM_ne (by omega)).trans uM_at))))) ?_
  refine gm_sz (gm_p_const (pc := 15) (i := .iconst 1) (v := gm_vi 1) (by decide +kernel) (by decide +kernel)) ?_
  refine gm_sz (gm_p_bin (pc := 16) (i := .iadd) (f := fun x y => x + y) (by decide +kernel) rfl) ?_
  refine gm_sz (gm_p_stor (pc := 17) (i := .istore_n 2) (sr := 0) (j := 2) (by decide +kernel) rfl (show 3 ≤ _ from Nat.le_of_ble_eq_true rfl) rfl) ?_
  have h9 := fb_l (bc := bc - 0) (bs := bs - 0) (M := gm_uM (gm_uM (gm_uM (gm_uM (gm_uM (gm_uM (gm_uM M 206 2 (N (119 + ((l * 7) + 2)))) 206 5 (N (119 + ((l * 7) + 4)))) 206 7 (N (119 + ((l * 7) + 3)))) 206 3 (if (N (119 + (l * 7 + 0))) = -1 then 1 else 0)) 206 4 (-1)) 206 6 0) 206 8 0) hd hE (ti_fr (W := [(206, some 2), (206, some 5), (206, some 7), (206, some 3), (206, some 4), (206, some 6), (206, some 8)]) hT (fr_p (fr_p (fr_p (fr_p (fr_p (fr_p (fr_p fr_0 (Or.inr (by decide))) (Or.inr (by decide))) (Or.inr (by decide))) (Or.inr (by decide))) (Or.inr (by decide))) (Or.inr (by decide))) (Or.inr (by decide))) (by decide) (by decide +kernel)) hN hfw ((uM_ne (by omega)).trans ((uM_ne (by omega)).trans ((uM_ne (by omega)).trans ((uM_ne (by omega)).trans ((uM_ne (by omega)).trans ((uM_ne (by omega)).trans uM_at)))))) ((uM_ne (by omega)).trans ((uM_ne (by omega)).trans ((uM_ne (by omega)).trans uM_at))) ((uM_ne (by omega)).trans ((uM_ne (by omega)).trans uM_at)) hl hq (299 - ((N (119 + (l * 7 + 3))))).toNat 0 _ (by have := l3.2; omega) fr_0 (hfw.2.1 [(206, some 2), (206, some 5), (206, some 7), (206, some 3), (206, some 4), (206, some 6), (206, some 8)] _ _ (by decide) (fr_p (fr_p (fr_p (fr_p (fr_p (fr_p (fr_p fr_0 (Or.inr (by decide))) (Or.inr (by decide))) (Or.inr (by decide))) (Or.inr (by decide))) (Or.inr (by decide))) (Or.inr (by decide))) (Or.inr (by decide))) hI) ((uM_ne (by omega)).trans ((uM_ne (by omega)).trans ((uM_ne (by omega)).trans ((uM_ne (by omega)).trans ((uM_ne (by omega)).trans uM_at))))) ((uM_ne (by omega)).trans uM_at) ((((uM_ne (by omega)).trans ((uM_ne (by omega)).trans ((uM_ne (by omega)).trans ((uM_ne (by omega)).trans uM_at))))).trans (by omega)) (fun i i1 i2 => by omega)
  rw [show (N (119 + (l * 7 + 3))) + ((0 : Nat) : Int) + 1 = (N (119 + (l * 7 + 3))) + 1 by omega] at h9
  exact h9
theorem cl_letter (hd : 24 ≤ d) (hbc : 4 ≤ bc) (hbs : 24 ≤ bs) (hE : E0 n K R) (hT : TI N h sp M) (hN : NR N) (hfw : FLW X LX n K R N h sp FI φ) (hI : FI M) (hoo : ∀ l, 0 ≤ l → l < N 4 → OUTR N h φ l (o l) (dd l)) (hl : 0 ≤ l ∧ l < N 4) (hi2 : gm_ir w) (kg : 0 ≤ w → w < 7 → ∀ M2, Q (.inl (some (gm_vi ((N (119 + (l * 7 + w))))))) n K R M2) (k7 : w = 7 → ∀ M2, Q (.inl (some (gm_vi (o l)))) n K R M2) (k8n : w = 8 → o l = -1 → ∀ M2, Q (.inl (some (gm_vi (-1)))) n K R M2) (k8v : w = 8 → ¬ o l = -1 → ∀ M2, Q (.inl (some (gm_vi (dd l)))) n K R M2) (k9 : w = 9 → ∀ v, FBR N h φ l v → ∀ M2, Q (.inl (some (gm_vi (v)))) n K R M2) (kx4 : ¬ (0 ≤ w ∧ w ≤ 9) → Q (.inr 4) n K R M) : gm_Wp X LX d bc bs 142 0 (gm_ent 142 [gm_vr 1, gm_vi l, gm_vi w]) [] n K R M Q := by
  obtain ⟨⟨⟨a0, b0⟩, ⟨a1, b1⟩, ⟨a10, b10⟩, ⟨a11, b11⟩, ⟨a12, b12⟩, a9, b9⟩, ⟨⟨a2, b2⟩, ⟨a5, b5⟩, ⟨a3, b3⟩, ⟨a4, b4⟩, ⟨a6, b6⟩, ⟨a14, b14⟩, ⟨a7, b7⟩, a13, b13⟩, rF, rP, rL⟩ := id hN
  obtain ⟨r0, r1, l2, l3, l4, r5, r6, -⟩ := rL l hl.1 hl.2
  have l5 : 0 ≤ (N (119 + (l * 7 + 4))) ∧ (N (119 + (l * 7 + 4))) ≤ 300 := ⟨l4.1, by have := l4.2; omega⟩
  have l49 : (N (119 + (l * 7 + 4))) < N 1 := l4.2
  have l4 := l5
  have rk9 : 0 ≤ (if (N (119 + (l * 7 + 0))) = -1 then (1 : Int) else 0) ∧ (if (N (119 + (l * 7 + 0))) = -1 then (1 : Int) else 0) ≤ 1 := by split <;> exact ⟨by decide, by decide⟩
  have ob9 := OUTR_b (hoo l hl.1 hl.2) l3.1
  refine gm_sz (gm_p_load (pc := 0) (i := .aload_n 0) (sr := 2) (j := 0) (by decide +kernel) rfl rfl rfl) ?_
  refine gm_sz (gm_p_load (pc := 1) (i := .iload_n 1) (sr := 0) (j := 1) (by decide +kernel) rfl rfl rfl) ?_
  refine gm_c_virt (k := 1) (ci := 0) (mj := 143) (ix := 200) (pc := 2) (as := [gm_vi l]) (st := []) (d' := d - 1) (bc' := 1) (bs' := 6) (by decide +kernel) (by decide +kernel) (by decide +kernel) (by decide +kernel) (e0k hE (k := 1) (c := 0) (by decide +kernel)).1 (e0k hE (k := 1) (c := 0) (by decide +kernel)).2 (by decide) (by decide +kernel) (show 1 = gm_na 143 by decide +kernel) (fw_c1 fw_si) (show 2 ≤ gm_ml 143 by decide +kernel) (Nat.le_of_ble_eq_true rfl) (by omega) (by omega) (by omega) ?_
  refine nd_143 (i := l) (by omega) (by omega) (by omega) hE hT hN ⟨by omega, by omega⟩ (fun c2 => ?_) (fun c2 => ?_)
  · show gm_Wp X LX d _ _ 142 5 _ [] n K _ _ Q
    have c2 : 0 ≤ l ∧ l < N 4 := c2
    refine gm_sz (gm_p_load (pc := 5) (i := .iload_n 2) (sr := 0) (j := 2) (by decide +kernel) rfl rfl rfl) ?_
    refine gm_b_sw (pc := 6) (df := 100) (lo := 0) (hi := 9) (offs := #[54, 54, 54, 54, 54, 54, 54, 67, 73, 94]) (by decide +kernel) (by decide) (by decide) (fun h6 => ?_) ⟨fun h6 => ?_, fun h6 => ?_, fun h6 => ?_, fun h6 => ?_, fun h6 => ?_, fun h6 => ?_, fun h6 => ?_, fun h6 => ?_, fun h6 => ?_, fun h6 => ?_, trivial⟩
    · show gm_Wp X LX d _ _ 142 106 _ [] n K _ _ Q
      have h6 : w < 0 ∨ 9 < w := by rw [(gm_ir_w (x := w) hi2)] at h6; exact h6
      exact gm_throw (ik := 195) (is := 215) (ic := 199) (x := 4) (id := 35) (lw := false) (by decide +kernel) (by decide +kernel) (by decide +kernel) (by decide +kernel) (by decide +kernel) (by decide +kernel) (by decide +kernel) (by decide +kernel) (Nat.le_of_ble_eq_true rfl) (by omega) (by omega) (by omega) (kx4 (by omega))
    · show gm_Wp X LX d _ _ 142 60 _ [] n K _ _ Q
      have h6 : w = 0 := (gm_ir_w (x := w) hi2).symm.trans h6
      refine gm_sz (gm_p_load (pc := 60) (i := .aload_n 0) (sr := 2) (j := 0) (by decide +kernel) rfl rfl rfl) ?_
      refine gm_sz (fw_gr (pc := 61) (ix := 23) (ci := 0) (j := 3) (r := 3) (by decide +kernel) (e0k hE (k := 1) (c := 0) (by decide +kernel)) (by decide +kernel) (by decide +kernel) (e0r hE (k := 1) (j := 3) (r := 3) (by decide +kernel))) ?_
      refine gm_sz (fw_gr (pc := 64) (ix := 203) (ci := 1) (j := 12) (r := 10) (by decide +kernel) (e0k hE (k := 3) (c := 1) (by decide +kernel)) (by decide +kernel) (by decide +kernel) (e0r hE (k := 3) (j := 12) (r := 10) (by decide +kernel))) ?_
      refine gm_sz (gm_p_load (pc := 67) (i := .iload_n 1) (sr := 0) (j := 1) (by decide +kernel) rfl rfl rfl) ?_
      refine gm_sz (gm_p_load (pc := 68) (i := .iload_n 2) (sr := 0) (j := 2) (by decide +kernel) rfl rfl rfl) ?_
      refine gm_c_virt (k := 10) (ci := 2) (mj := 10) (ix := 186) (pc := 69) (as := [gm_vi l, gm_vi w]) (st := []) (d' := d - 1) (bc' := 0) (bs' := 0) (by decide +kernel) (by decide +kernel) (by decide +kernel) (by decide +kernel) (e0k hE (k := 10) (c := 2) (by decide +kernel)).1 (e0k hE (k := 10) (c := 2) (by decide +kernel)).2 (by decide) (by decide +kernel) (show 2 = gm_na 10 by decide +kernel) (fw_c2 fw_si fw_si) (show 3 ≤ gm_ml 10 by decide +kernel) (Nat.le_of_ble_eq_true rfl) (by omega) (Nat.zero_le _) (Nat.zero_le _) ?_
      refine rw_get (s := N 4) (w := 7) (x := N (119 + (l * 7 + w))) (e0k hE (k := 10) (c := 2) (by decide +kernel)) (e0a hE (k := 11) (q := (0, 168)) (by decide +kernel)) (e0r hE (k := 10) (j := 2) (r := 11) (by decide +kernel)) (by decide) (ti_let hT) (hT.1 (10, 1, 7) (by decide)) ⟨by omega, by omega⟩ ⟨by omega, by omega⟩ ⟨by omega, by omega⟩ ⟨by omega, by omega⟩ (ti_aL hT (by omega) (by omega)) ?_
      show gm_Wp X LX d _ _ 142 72 _ [gm_vi (N (119 + (l * 7 + w)))] n K _ _ Q
      exact gm_r_int (pc := 72) (by decide +kernel) (Or.inl (by decide +kernel)) (kg (by omega) (by omega) _)
    · show gm_Wp X LX d _ _ 142 60 _ [] n K _ _ Q
      have h6 : w = 1 := (gm_ir_w (x := w) hi2).symm.trans h6
      refine gm_sz (gm_p_load (pc := 60) (i := .aload_n 0) (sr := 2) (j := 0) (by decide +kernel) rfl rfl rfl) ?_
      refine gm_sz (fw_gr (pc := 61) (ix := 23) (ci := 0) (j := 3) (r := 3) (by decide +kernel) (e0k hE (k := 1) (c := 0) (by decide +kernel)) (by decide +kernel) (by decide +kernel) (e0r hE (k := 1) (j := 3) (r := 3) (by decide +kernel))) ?_
      refine gm_sz (fw_gr (pc := 64) (ix := 203) (ci := 1) (j := 12) (r := 10) (by decide +kernel) (e0k hE (k := 3) (c := 1) (by decide +kernel)) (by decide +kernel) (by decide +kernel) (e0r hE (k := 3) (j := 12) (r := 10) (by decide +kernel))) ?_
      refine gm_sz (gm_p_load (pc := 67) (i := .iload_n 1) (sr := 0) (j := 1) (by decide +kernel) rfl rfl rfl) ?_
      refine gm_sz (gm_p_load (pc := 68) (i := .iload_n 2) (sr := 0) (j := 2) (by decide +kernel) rfl rfl rfl) ?_
      refine gm_c_virt (k := 10) (ci := 2) (mj := 10) (ix := 186) (pc := 69) (as := [gm_vi l, gm_vi w]) (st := []) (d' := d - 1) (bc' := 0) (bs' := 0) (by decide +kernel) (by decide +kernel) (by decide +kernel) (by decide +kernel) (e0k hE (k := 10) (c := 2) (by decide +kernel)).1 (e0k hE (k := 10) (c := 2) (by decide +kernel)).2 (by decide) (by decide +kernel) (show 2 = gm_na 10 by decide +kernel) (fw_c2 fw_si fw_si) (show 3 ≤ gm_ml 10 by decide +kernel) (Nat.le_of_ble_eq_true rfl) (by omega) (Nat.zero_le _) (Nat.zero_le _) ?_
      refine rw_get (s := N 4) (w := 7) (x := N (119 + (l * 7 + w))) (e0k hE (k := 10) (c := 2) (by decide +kernel)) (e0a hE (k := 11) (q := (0, 168)) (by decide +kernel)) (e0r hE (k := 10) (j := 2) (r := 11) (by decide +kernel)) (by decide) (ti_let hT) (hT.1 (10, 1, 7) (by decide)) ⟨by omega, by omega⟩ ⟨by omega, by omega⟩ ⟨by omega, by omega⟩ ⟨by omega, by omega⟩ (ti_aL hT (by omega) (by omega)) ?_
      show gm_Wp X LX d _ _ 142 72 _ [gm_vi (N (119 + (l * 7 + w)))] n K _ _ Q
      exact gm_r_int (pc := 72) (by decide +kernel) (Or.inl (by decide +kernel)) (kg (by omega) (by omega) _)
    · show gm_Wp X LX d _ _ 142 60 _ [] n K _ _ Q
      have h6 : w = 2 := (gm_ir_w (x := w) hi2).symm.trans h6
      refine gm_sz (gm_p_load (pc := 60) (i := .aload_n 0) (sr := 2) (j := 0) (by decide +kernel) rfl rfl rfl) ?_
      refine gm_sz (fw_gr (pc := 61) (ix := 23) (ci := 0) (j := 3) (r := 3) (by decide +kernel) (e0k hE (k := 1) (c := 0) (by decide +kernel)) (by decide +kernel) (by decide +kernel) (e0r hE (k := 1) (j := 3) (r := 3) (by decide +kernel))) ?_
      refine gm_sz (fw_gr (pc := 64) (ix := 203) (ci := 1) (j := 12) (r := 10) (by decide +kernel) (e0k hE (k := 3) (c := 1) (by decide +kernel)) (by decide +kernel) (by decide +kernel) (e0r hE (k := 3) (j := 12) (r := 10) (by decide +kernel))) ?_
      refine gm_sz (gm_p_load (pc := 67) (i := .iload_n 1) (sr := 0) (j := 1) (by decide +kernel) rfl rfl rfl) ?_
      refine gm_sz (gm_p_load (pc := 68) (i := .iload_n 2) (sr := 0) (j := 2) (by decide +kernel) rfl rfl rfl) ?_
      refine gm_c_virt (k := 10) (ci := 2) (mj := 10) (ix := 186) (pc := 69) (as := [gm_vi l, gm_vi w]) (st := []) (d' := d - 1) (bc' := 0) (bs' := 0) (by decide +kernel) (by decide +kernel) (by decide +kernel) (by decide +kernel) (e0k hE (k := 10) (c := 2) (by decide +kernel)).1 (e0k hE (k := 10) (c := 2) (by decide +kernel)).2 (by decide) (by decide +kernel) (show 2 = gm_na 10 by decide +kernel) (fw_c2 fw_si fw_si) (show 3 ≤ gm_ml 10 by decide +kernel) (Nat.le_of_ble_eq_true rfl) (by omega) (Nat.zero_le _) (Nat.zero_le _) ?_
      refine rw_get (s := N 4) (w := 7) (x := N (119 + (l * 7 + w))) (e0k hE (k := 10) (c := 2) (by decide +kernel)) (e0a hE (k := 11) (q := (0, 168)) (by decide +kernel)) (e0r hE (k := 10) (j := 2) (r := 11) (by decide +kernel)) (by decide) (ti_let hT) (hT.1 (10, 1, 7) (by decide)) ⟨by omega, by omega⟩ ⟨by omega, by omega⟩ ⟨by omega, by omega⟩ ⟨by omega, by omega⟩ (ti_aL hT (by omega) (by omega)) ?_
      show gm_Wp X LX d _ _ 142 72 _ [gm_vi (N (119 + (l * 7 + w)))] n K _ _ Q
      exact gm_r_int (pc := 72) (by decide +kernel) (Or.inl (by decide +kernel)) (kg (by omega) (by omega) _)
    · show gm_Wp X LX d _ _ 142 60 _ [] n K _ _ Q
      have h6 : w = 3 := (gm_ir_w (x := w) hi2).symm.trans h6
      refine gm_sz (gm_p_load (pc := 60) (i := .aload_n 0) (sr := 2) (j := 0) (by decide +kernel) rfl rfl rfl) ?_
      refine gm_sz (fw_gr (pc := 61) (ix := 23) (ci := 0) (j := 3) (r := 3) (by decide +kernel) (e0k hE (k := 1) (c := 0) (by decide +kernel)) (by decide +kernel) (by decide +kernel) (e0r hE (k := 1) (j := 3) (r := 3) (by decide +kernel))) ?_
      refine gm_sz (fw_gr (pc := 64) (ix := 203) (ci := 1) (j := 12) (r := 10) (by decide +kernel) (e0k hE (k := 3) (c := 1) (by decide +kernel)) (by decide +kernel) (by decide +kernel) (e0r hE (k := 3) (j := 12) (r := 10) (by decide +kernel))) ?_
      refine gm_sz (gm_p_load (pc := 67) (i := .iload_n 1) (sr := 0) (j := 1) (by decide +kernel) rfl rfl rfl) ?_
      refine gm_sz (gm_p_load (pc := 68) (i := .iload_n 2) (sr := 0) (j := 2) (by decide +kernel) rfl rfl rfl) ?_
      refine gm_c_virt (k := 10) (ci := 2) (mj := 10) (ix := 186) (pc := 69) (as := [gm_vi l, gm_vi w]) (st := []) (d' := d - 1) (bc' := 0) (bs' := 0) (by decide +kernel) (by decide +kernel) (by decide +kernel) (by decide +kernel) (e0k hE (k := 10) (c := 2) (by decide +kernel)).1 (e0k hE (k := 10) (c := 2) (by decide +kernel)).2 (by decide) (by decide +kernel) (show 2 = gm_na 10 by decide +kernel) (fw_c2 fw_si fw_si) (show 3 ≤ gm_ml 10 by decide +kernel) (Nat.le_of_ble_eq_true rfl) (by omega) (Nat.zero_le _) (Nat.zero_le _) ?_
      refine rw_get (s := N 4) (w := 7) (x := N (119 + (l * 7 + w))) (e0k hE (k := 10) (c := 2) (by decide +kernel)) (e0a hE (k := 11) (q := (0, 168)) (by decide +kernel)) (e0r hE (k := 10) (j := 2) (r := 11) (by decide +kernel)) (by decide) (ti_let hT) (hT.1 (10, 1, 7) (by decide)) ⟨by omega, by omega⟩ ⟨by omega, by omega⟩ ⟨by omega, by omega⟩ ⟨by omega, by omega⟩ (ti_aL hT (by omega) (by omega)) ?_
      show gm_Wp X LX d _ _ 142 72 _ [gm_vi (N (119 + (l * 7 + w)))] n K _ _ Q
      exact gm_r_int (pc := 72) (by decide +kernel) (Or.inl (by decide +kernel)) (kg (by omega) (by omega) _)
    · show gm_Wp X LX d _ _ 142 60 _ [] n K _ _ Q
      have h6 : w = 4 := (gm_ir_w (x := w) hi2).symm.trans h6
      refine gm_sz (gm_p_load (pc := 60) (i := .aload_n 0) (sr := 2) (j := 0) (by decide +kernel) rfl rfl rfl) ?_
      refine gm_sz (fw_gr (pc := 61) (ix := 23) (ci := 0) (j := 3) (r := 3) (by decide +kernel) (e0k hE (k := 1) (c := 0) (by decide +kernel)) (by decide +kernel) (by decide +kernel) (e0r hE (k := 1) (j := 3) (r := 3) (by decide +kernel))) ?_
      refine gm_sz (fw_gr (pc := 64) (ix := 203) (ci := 1) (j := 12) (r := 10) (by decide +kernel) (e0k hE (k := 3) (c := 1) (by decide +kernel)) (by decide +kernel) (by decide +kernel) (e0r hE (k := 3) (j := 12) (r := 10) (by decide +kernel))) ?_
      refine gm_sz (gm_p_load (pc := 67) (i := .iload_n 1) (sr := 0) (j := 1) (by decide +kernel) rfl rfl rfl) ?_
      refine gm_sz (gm_p_load (pc := 68) (i := .iload_n 2) (sr := 0) (j := 2) (by decide +kernel) rfl rfl rfl) ?_
      refine gm_c_virt (k := 10) (ci := 2) (mj := 10) (ix := 186) (pc := 69) (as := [gm_vi l, gm_vi w]) (st := []) (d' := d - 1) (bc' := 0) (bs' := 0) (by decide +kernel) (by decide +kernel) (by decide +kernel) (by decide +kernel) (e0k hE (k := 10) (c := 2) (by decide +kernel)).1 (e0k hE (k := 10) (c := 2) (by decide +kernel)).2 (by decide) (by decide +kernel) (show 2 = gm_na 10 by decide +kernel) (fw_c2 fw_si fw_si) (show 3 ≤ gm_ml 10 by decide +kernel) (Nat.le_of_ble_eq_true rfl) (by omega) (Nat.zero_le _) (Nat.zero_le _) ?_
      refine rw_get (s := N 4) (w := 7) (x := N (119 + (l * 7 + w))) (e0k hE (k := 10) (c := 2) (by decide +kernel)) (e0a hE (k := 11) (q := (0, 168)) (by decide +kernel)) (e0r hE (k := 10) (j := 2) (r := 11) (by decide +kernel)) (by decide) (ti_let hT) (hT.1 (10, 1, 7) (by decide)) ⟨by omega, by omega⟩ ⟨by omega, by omega⟩ ⟨by omega, by omega⟩ ⟨by omega, by omega⟩ (ti_aL hT (by omega) (by omega)) ?_
      show gm_Wp X LX d _ _ 142 72 _ [gm_vi (N (119 + (l * 7 + w)))] n K _ _ Q
      exact gm_r_int (pc := 72) (by decide +kernel) (Or.inl (by decide +kernel)) (kg (by omega) (by omega) _)
    · show gm_Wp X LX d _ _ 142 60 _ [] n K _ _ Q
      have h6 : w = 5 := (gm_ir_w (x := w) hi2).symm.trans h6
      refine gm_sz (gm_p_load (pc := 60) (i := .aload_n 0) (sr := 2) (j := 0) (by decide +kernel) rfl rfl rfl) ?_
      refine gm_sz (fw_gr (pc := 61) (ix := 23) (ci := 0) (j := 3) (r := 3) (by decide +kernel) (e0k hE (k := 1) (c := 0) (by decide +kernel)) (by decide +kernel) (by decide +kernel) (e0r hE (k := 1) (j := 3) (r := 3) (by decide +kernel))) ?_
      refine gm_sz (fw_gr (pc := 64) (ix := 203) (ci := 1) (j := 12) (r := 10) (by decide +kernel) (e0k hE (k := 3) (c := 1) (by decide +kernel)) (by decide +kernel) (by decide +kernel) (e0r hE (k := 3) (j := 12) (r := 10) (by decide +kernel))) ?_
      refine gm_sz (gm_p_load (pc := 67) (i := .iload_n 1) (sr := 0) (j := 1) (by decide +kernel) rfl rfl rfl) ?_
      refine gm_sz (gm_p_load (pc := 68) (i := .iload_n 2) (sr := 0) (j := 2) (by decide +kernel) rfl rfl rfl) ?_
      refine gm_c_virt (k := 10) (ci := 2) (mj := 10) (ix := 186) (pc := 69) (as := [gm_vi l, gm_vi w]) (st := []) (d' := d - 1) (bc' := 0) (bs' := 0) (by decide +kernel) (by decide +kernel) (by decide +kernel) (by decide +kernel) (e0k hE (k := 10) (c := 2) (by decide +kernel)).1 (e0k hE (k := 10) (c := 2) (by decide +kernel)).2 (by decide) (by decide +kernel) (show 2 = gm_na 10 by decide +kernel) (fw_c2 fw_si fw_si) (show 3 ≤ gm_ml 10 by decide +kernel) (Nat.le_of_ble_eq_true rfl) (by omega) (Nat.zero_le _) (Nat.zero_le _) ?_
      refine rw_get (s := N 4) (w := 7) (x := N (119 + (l * 7 + w))) (e0k hE (k := 10) (c := 2) (by decide +kernel)) (e0a hE (k := 11) (q := (0, 168)) (by decide +kernel)) (e0r hE (k := 10) (j := 2) (r := 11) (by decide +kernel)) (by decide) (ti_let hT) (hT.1 (10, 1, 7) (by decide)) ⟨by omega, by omega⟩ ⟨by omega, by omega⟩ ⟨by omega, by omega⟩ ⟨by omega, by omega⟩ (ti_aL hT (by omega) (by omega)) ?_
      show gm_Wp X LX d _ _ 142 72 _ [gm_vi (N (119 + (l * 7 + w)))] n K _ _ Q
      exact gm_r_int (pc := 72) (by decide +kernel) (Or.inl (by decide +kernel)) (kg (by omega) (by omega) _)
    · show gm_Wp X LX d _ _ 142 60 _ [] n K _ _ Q
      have h6 : w = 6 := (gm_ir_w (x := w) hi2).symm.trans h6
      refine gm_sz (gm_p_load (pc := 60) (i := .aload_n 0) (sr := 2) (j := 0) (by decide +kernel) rfl rfl rfl) ?_
      refine gm_sz (fw_gr (pc := 61) (ix := 23) (ci := 0) (j := 3) (r := 3) (by decide +kernel) (e0k hE (k := 1) (c := 0) (by decide +kernel)) (by decide +kernel) (by decide +kernel) (e0r hE (k := 1) (j := 3) (r := 3) (by decide +kernel))) ?_
      refine gm_sz (fw_gr (pc := 64) (ix := 203) (ci := 1) (j := 12) (r := 10) (by decide +kernel) (e0k hE (k := 3) (c := 1) (by decide +kernel)) (by decide +kernel) (by decide +kernel) (e0r hE (k := 3) (j := 12) (r := 10) (by decide +kernel))) ?_
      refine gm_sz (gm_p_load (pc := 67) (i := .iload_n 1) (sr := 0) (j := 1) (by decide +kernel) rfl rfl rfl) ?_
      refine gm_sz (gm_p_load (pc := 68) (i := .iload_n 2) (sr := 0) (j := 2) (by decide +kernel) rfl rfl rfl) ?_
      refine gm_c_virt (k := 10) (ci := 2) (mj := 10) (ix := 186) (pc := 69) (as := [gm_vi l, gm_vi w]) (st := []) (d' := d - 1) (bc' := 0) (bs' := 0) (by decide +kernel) (by decide +kernel) (by decide +kernel) (by decide +kernel) (e0k hE (k := 10) (c := 2) (by decide +kernel)).1 (e0k hE (k := 10) (c := 2) (by decide +kernel)).2 (by decide) (by decide +kernel) (show 2 = gm_na 10 by decide +kernel) (fw_c2 fw_si fw_si) (show 3 ≤ gm_ml 10 by decide +kernel) (Nat.le_of_ble_eq_true rfl) (by omega) (Nat.zero_le _) (Nat.zero_le _) ?_
      refine rw_get (s := N 4) (w := 7) (x := N (119 + (l * 7 + w))) (e0k hE (k := 10) (c := 2) (by decide +kernel)) (e0a hE (k := 11) (q := (0, 168)) (by decide +kernel)) (e0r hE (k := 10) (j := 2) (r := 11) (by decide +kernel)) (by decide) (ti_let hT) (hT.1 (10, 1, 7) (by decide)) ⟨by omega, by omega⟩ ⟨by omega, by omega⟩ ⟨by omega, by omega⟩ ⟨by omega, by omega⟩ (ti_aL hT (by omega) (by omega)) ?_
      show gm_Wp X LX d _ _ 142 72 _ [gm_vi (N (119 + (l * 7 + w)))] n K _ _ Q
      exact gm_r_int (pc := 72) (by decide +kernel) (Or.inl (by decide +kernel)) (kg (by omega) (by omega) _)
    · show gm_Wp X LX d _ _ 142 73 _ [] n K _ _ Q
      have h6 : w = 7 := (gm_ir_w (x := w) hi2).symm.trans h6
      refine gm_sz (gm_p_load (pc := 73) (i := .aload_n 0) (sr := 2) (j := 0) (by decide +kernel) rfl rfl rfl) ?_
      refine gm_sz (gm_p_load (pc := 74) (i := .iload_n 1) (sr := 0) (j := 1) (by decide +kernel) rfl rfl rfl) ?_
      refine gm_c_virt (k := 1) (ci := 0) (mj := 144) (ix := 206) (pc := 75) (as := [gm_vi l]) (st := []) (d' := d - 1) (bc' := 0) (bs' := 0) (by decide +kernel) (by decide +kernel) (by decide +kernel) (by decide +kernel) (e0k hE (k := 1) (c := 0) (by decide +kernel)).1 (e0k hE (k := 1) (c := 0) (by decide +kernel)).2 (by decide) (by decide +kernel) (show 1 = gm_na 144 by decide +kernel) (fw_c1 fw_si) (show 2 ≤ gm_ml 144 by decide +kernel) (Nat.le_of_ble_eq_true rfl) (by omega) (Nat.zero_le _) (Nat.zero_le _) ?_
      refine of_144 (o := o) (dd := dd) (by omega) hE hT hN hfw hI hoo hl (fun M44 h44 => ?_)
      show gm_Wp X LX d _ _ 142 78 _ [gm_vi (o l)] n K _ _ Q
      exact gm_r_int (pc := 78) (by decide +kernel) (Or.inl (by decide +kernel)) (k7 (by omega) _)
    · show gm_Wp X LX d _ _ 142 79 _ [] n K _ _ Q
      have h6 : w = 8 := (gm_ir_w (x := w) hi2).symm.trans h6
      refine gm_sz (gm_p_load (pc := 79) (i := .aload_n 0) (sr := 2) (j := 0) (by decide +kernel) rfl rfl rfl) ?_
      refine gm_sz (gm_p_load (pc := 80) (i := .iload_n 1) (sr := 0) (j := 1) (by decide +kernel) rfl rfl rfl) ?_
      refine gm_c_virt (k := 1) (ci := 0) (mj := 144) (ix := 206) (pc := 81) (as := [gm_vi l]) (st := []) (d' := d - 1) (bc' := 0) (bs' := 0) (by decide +kernel) (by decide +kernel) (by decide +kernel) (by decide +kernel) (e0k hE (k := 1) (c := 0) (by decide +kernel)).1 (e0k hE (k := 1) (c := 0) (by decide +kernel)).2 (by decide) (by decide +kernel) (show 1 = gm_na 144 by decide +kernel) (fw_c1 fw_si) (show 2 ≤ gm_ml 144 by decide +kernel) (Nat.le_of_ble_eq_true rfl) (by omega) (Nat.zero_le _) (Nat.zero_le _) ?_
      refine of_144 (o := o) (dd := dd) (by omega) hE hT hN hfw hI hoo hl (fun M44 h44 => ?_)
      show gm_Wp X LX d _ _ 142 84 _ [gm_vi (o l)] n K _ _ Q
      refine gm_sz (gm_p_const (pc := 84) (i := .iconst (-1)) (v := gm_vi (-1)) (by decide +kernel) (by decide +kernel)) ?_
      refine fw_ic (cc := .ne) (pc := 85) (off := 7) (by decide +kernel) (by decide) ⟨by omega, by omega⟩ ⟨by decide, by decide⟩ (fun h85 => ?_) (fun h85 => ?_)
      · have h85 : ¬ (o l) = (-1) := h85
        refine gm_sz (gm_p_load (pc := 92) (i := .aload_n 0) (sr := 2) (j := 0) (by decide +kernel) rfl rfl rfl) ?_
        refine gm_sz (fw_gr (pc := 93) (ix := 58) (ci := 0) (j := 9) (r := 206) (by decide +kernel) (e0k hE (k := 1) (c := 0) (by decide +kernel)) (by decide +kernel) (by decide +kernel) (e0r hE (k := 1) (j := 9) (r := 206) (by decide +kernel))) ?_
        refine gm_sz (fw_gi (pc := 96) (ix := 209) (ci := 5) (j := 6) (x := M44 206 6) (by decide +kernel) (e0k hE (k := 206) (c := 5) (by decide +kernel)) (by decide +kernel) (by decide +kernel) rfl) ?_
        rw [h44 (by omega)]
        exact gm_r_int (pc := 99) (by decide +kernel) (Or.inl (by decide +kernel)) (k8v (by omega) (by omega) _)
      · have h85 : (o l) = (-1) := Classical.not_not.mp h85
        refine gm_sz (gm_p_const (pc := 88) (i := .iconst (-1)) (v := gm_vi (-1)) (by decide +kernel) (by decide +kernel)) ?_
        refine gm_sz (gm_p_goto (pc := 89) (off := 10) (by decide +kernel) (by decide)) ?_
        exact gm_r_int (pc := 99) (by decide +kernel) (Or.inl (by decide +kernel)) (k8n (by omega) (by omega) _)
    · show gm_Wp X LX d _ _ 142 100 _ [] n K _ _ Q
      have h6 : w = 9 := (gm_ir_w (x := w) hi2).symm.trans h6
      refine gm_sz (gm_p_load (pc := 100) (i := .aload_n 0) (sr := 2) (j := 0) (by decide +kernel) rfl rfl rfl) ?_
      refine gm_sz (gm_p_load (pc := 101) (i := .iload_n 1) (sr := 0) (j := 1) (by decide +kernel) rfl rfl rfl) ?_
      refine gm_c_virt (k := 1) (ci := 0) (mj := 145) (ix := 212) (pc := 102) (as := [gm_vi l]) (st := []) (d' := d - 1) (bc' := 0) (bs' := 0) (by decide +kernel) (by decide +kernel) (by decide +kernel) (by decide +kernel) (e0k hE (k := 1) (c := 0) (by decide +kernel)).1 (e0k hE (k := 1) (c := 0) (by decide +kernel)).2 (by decide) (by decide +kernel) (show 1 = gm_na 145 by decide +kernel) (fw_c1 fw_si) (show 2 ≤ gm_ml 145 by decide +kernel) (Nat.le_of_ble_eq_true rfl) (by omega) (Nat.zero_le _) (Nat.zero_le _) ?_
      refine fb_145 (by omega) hE hT hN hfw hI hl (fun v45 M45 h45 => ?_)
      show gm_Wp X LX d _ _ 142 105 _ [gm_vi v45] n K _ _ Q
      exact gm_r_int (pc := 105) (by decide +kernel) (Or.inl (by decide +kernel)) (k9 (by omega) _ h45 _)
  · show Q (.inr 3) n K _ _
    have c2 : ¬ (0 ≤ l ∧ l < N 4) := c2
    exact (absurd hl (by omega))
theorem cl_letterx (hd : 24 ≤ d) (hbc : 4 ≤ bc) (hbs : 24 ≤ bs) (hE : E0 n K R) (hT : TI N h sp M) (hN : NR N) (hl : ¬ (0 ≤ l ∧ l < N 4)) (hi : gm_ir l) (k3 : Q (.inr 3) n K R M) : gm_Wp X LX d bc bs 142 0 (gm_ent 142 [gm_vr 1, gm_vi l, gm_vi w]) [] n K R M Q := by
  obtain ⟨⟨⟨a0, b0⟩, ⟨a1, b1⟩, ⟨a10, b10⟩, ⟨a11, b11⟩, ⟨a12, b12⟩, a9, b9⟩, ⟨⟨a2, b2⟩, ⟨a5, b5⟩, ⟨a3, b3⟩, ⟨a4, b4⟩, ⟨a6, b6⟩, ⟨a14, b14⟩, ⟨a7, b7⟩, a13, b13⟩, rF, rP, rL⟩ := id hN
  refine gm_sz (gm_p_load (pc := 0) (i := .aload_n 0) (sr := 2) (j := 0) (by decide +kernel) rfl rfl rfl) ?_
  refine gm_sz (gm_p_load (pc := 1) (i := .iload_n 1) (sr := 0) (j := 1) (by decide +kernel) rfl rfl rfl) ?_
  refine gm_c_virt (k := 1) (ci := 0) (mj := 143) (ix := 200) (pc := 2) (as := [gm_vi l]) (st := []) (d' := d - 1) (bc' := 1) (bs' := 6) (by decide +kernel) (by decide +kernel) (by decide +kernel) (by decide +kernel) (e0k hE (k := 1) (c := 0) (by decide +kernel)).1 (e0k hE (k := 1) (c := 0) (by decide +kernel)).2 (by decide) (by decide +kernel) (show 1 = gm_na 143 by decide +kernel) (fw_c1 fw_si) (show 2 ≤ gm_ml 143 by decide +kernel) (Nat.le_of_ble_eq_true rfl) (by omega) (by omega) (by omega) ?_
  refine nd_143 (i := l) (by omega) (by omega) (by omega) hE hT hN hi (fun c2 => ?_) (fun c2 => ?_)
  · show gm_Wp X LX d _ _ 142 5 _ [] n K _ _ Q
    have c2 : 0 ≤ l ∧ l < N 4 := c2
    exact absurd ⟨by omega, by omega⟩ hl
  · show Q (.inr 3) n K _ _
    have c2 : ¬ (0 ≤ l ∧ l < N 4) := c2
    exact k3
theorem ii_312 (hd : 1 ≤ d) (hE : E0 n K R) (hT : TR N h M) (hN : NR N) (hy : 0 ≤ y ∧ y < 300) (hb : -1 ≤ M 236 y ∧ M 236 y ≤ 10000) (q1 : 0 ≤ M 236 y → M 236 y < N 1 → Q (.inl (some (gm_vi 1))) n K R M) (q0 : ¬ (0 ≤ M 236 y ∧ M 236 y < N 1) → Q (.inl (some (gm_vi 0))) n K R M) : gm_Wp X LX d bc bs 312 0 (gm_ent 312 [gm_vr 226, gm_vi y]) [] n K R M Q := by
  obtain ⟨⟨⟨a0, b0⟩, ⟨a1, b1⟩, ⟨a10, b10⟩, ⟨a11, b11⟩, ⟨a12, b12⟩, a9, b9⟩, ⟨⟨a2, b2⟩, ⟨a5, b5⟩, ⟨a3, b3⟩, ⟨a4, b4⟩, ⟨a6, b6⟩, ⟨a14, b14⟩, ⟨a7, b7⟩, a13, b13⟩, rF, rP, rL⟩ := id hN
  refine gm_sz (gm_p_load (pc := 0) (i := .aload_n 0) (sr := 2) (j := 0) (by decide +kernel) rfl rfl rfl) ?_
  refine gm_sz (fw_gr (pc := 1) (ix := 45) (ci := 11) (j := 27) (r := 236) (by decide +kernel) (e0k hE (k := 226) (c := 11) (by decide +kernel)) (by decide +kernel) (by decide +kernel) (e0r hE (k := 226) (j := 27) (r := 236) (by decide +kernel))) ?_
  refine gm_sz (gm_p_load (pc := 4) (i := .iload_n 1) (sr := 0) (j := 1) (by decide +kernel) rfl rfl rfl) ?_
  refine gm_sz (fw_ia (pc := 5) (k := 236) (len := 300) (e0 := y) (x := M 236 y) (by decide +kernel) (e0a hE (k := 236) (q := (0, 300)) (by decide +kernel)).1 (e0a hE (k := 236) (q := (0, 300)) (by decide +kernel)).2 (by decide) ⟨by omega, by omega⟩ rfl) ?_
  refine fw_if (cc := .lt) (pc := 6) (off := 20) (by decide +kernel) (by decide) ⟨by omega, by omega⟩ (fun h6 => ?_) (fun h6 => ?_)
  · have h6 : (M 236 y) < 0 := h6
    refine gm_sz (gm_p_const (pc := 26) (i := .iconst 0) (v := gm_vi 0) (by decide +kernel) (by decide +kernel)) ?_
    exact gm_r_int (pc := 27) (by decide +kernel) (Or.inr ⟨(by decide +kernel), Or.inl rfl⟩) (q0 (by omega))
  · have h6 : ¬ (M 236 y) < 0 := h6
    refine gm_sz (gm_p_load (pc := 9) (i := .aload_n 0) (sr := 2) (j := 0) (by decide +kernel) rfl rfl rfl) ?_
    refine gm_sz (fw_gr (pc := 10) (ix := 45) (ci := 11) (j := 27) (r := 236) (by decide +kernel) (e0k hE (k := 226) (c := 11) (by decide +kernel)) (by decide +kernel) (by decide +kernel) (e0r hE (k := 226) (j := 27) (r := 236) (by decide +kernel))) ?_
    refine gm_sz (gm_p_load (pc := 13) (i := .iload_n 1) (sr := 0) (j := 1) (by decide +kernel) rfl rfl rfl) ?_
    refine gm_sz (fw_ia (pc := 14) (k := 236) (len := 300) (e0 := y) (x := M 236 y) (by decide +kernel) (e0a hE (k := 236) (q := (0, 300)) (by decide +kernel)).1 (e0a hE (k := 236) (q := (0, 300)) (by decide +kernel)).2 (by decide) ⟨by omega, by omega⟩ rfl) ?_
    refine gm_sz (gm_p_load (pc := 15) (i := .aload_n 0) (sr := 2) (j := 0) (by decide +kernel) rfl rfl rfl) ?_
    refine gm_c_virt (k := 226) (ci := 11) (mj := 259) (ix := 94) (pc := 16) (as := []) (st := [gm_vi (M 236 y)]) (d' := d - 1) (bc' := 0) (bs' := 0) (by decide +kernel) (by decide +kernel) (by decide +kernel) (by decide +kernel) (e0k hE (k := 226) (c := 11) (by decide +kernel)).1 (e0k hE (k := 226) (c := 11) (by decide +kernel)).2 (by decide) (by decide +kernel) (show 0 = gm_na 259 by decide +kernel) fw_c0 (show 1 ≤ gm_ml 259 by decide +kernel) (Nat.le_of_ble_eq_true rfl) (by omega) (Nat.zero_le _) (Nat.zero_le _) ?_
    refine re_lip hE hT hN ?_
    show gm_Wp X LX d _ _ 312 19 _ [gm_vi (N 1), gm_vi (M 236 y)] n K _ _ Q
    refine fw_ic (cc := .ge) (pc := 19) (off := 7) (by decide +kernel) (by decide) ⟨by omega, by omega⟩ ⟨by omega, by omega⟩ (fun h19 => ?_) (fun h19 => ?_)
    · have h19 : (N 1) ≤ (M 236 y) := h19
      refine gm_sz (gm_p_const (pc := 26) (i := .iconst 0) (v := gm_vi 0) (by decide +kernel) (by decide +kernel)) ?_
      exact gm_r_int (pc := 27) (by decide +kernel) (Or.inr ⟨(by decide +kernel), Or.inl rfl⟩) (q0 (by omega))
    · have h19 : ¬ (N 1) ≤ (M 236 y) := h19
      refine gm_sz (gm_p_const (pc := 22) (i := .iconst 1) (v := gm_vi 1) (by decide +kernel) (by decide +kernel)) ?_
      refine gm_sz (gm_p_goto (pc := 23) (off := 4) (by decide +kernel) (by decide)) ?_
      exact gm_r_int (pc := 27) (by decide +kernel) (Or.inr ⟨(by decide +kernel), Or.inr rfl⟩) (q1 (by omega) (by omega))
theorem ib_311 (hd : 6 ≤ d) (hE : E0 n K R) (hT : TR N h M) (hN : NR N) (hfw : FLR X LX n K R N h FI φ) (hr : rrun N h φ ((N (119 + (l * 7 + 2)))) (if (N (119 + (l * 7 + 0))) = -1 then 1 else 0) (-1) ((N (119 + (l * 7 + 3)))) ((N (119 + (l * 7 + 4)))) M) (hl : 0 ≤ l ∧ l < N 4) (hy : 0 ≤ y ∧ y < 300) (k1 : ∀ k : Nat, 1 ≤ k → y = (N (119 + (l * 7 + 3))) + (k : Int) → BRE N h φ l k → Q (.inl (some (gm_vi 1))) n K R M) (k0 : (∀ k : Nat, 1 ≤ k → y = (N (119 + (l * 7 + 3))) + (k : Int) → ¬ BRE N h φ l k) → Q (.inl (some (gm_vi 0))) n K R M) : gm_Wp X LX d bc bs 311 0 (gm_ent 311 [gm_vr 226, gm_vi l, gm_vi y]) [] n K R M Q := by
  obtain ⟨⟨⟨a0, b0⟩, ⟨a1, b1⟩, ⟨a10, b10⟩, ⟨a11, b11⟩, ⟨a12, b12⟩, a9, b9⟩, ⟨⟨a2, b2⟩, ⟨a5, b5⟩, ⟨a3, b3⟩, ⟨a4, b4⟩, ⟨a6, b6⟩, ⟨a14, b14⟩, ⟨a7, b7⟩, a13, b13⟩, rF, rP, rL⟩ := id hN
  obtain ⟨r0, r1, l2, l3, l4, r5, r6, -⟩ := rL l hl.1 hl.2
  have l5 : 0 ≤ (N (119 + (l * 7 + 4))) ∧ (N (119 + (l * 7 + 4))) ≤ 300 := ⟨l4.1, by have := l4.2; omega⟩
  have l49 : (N (119 + (l * 7 + 4))) < N 1 := l4.2
  have l4 := l5
  have rk9 : 0 ≤ (if (N (119 + (l * 7 + 0))) = -1 then (1 : Int) else 0) ∧ (if (N (119 + (l * 7 + 0))) = -1 then (1 : Int) else 0) ≤ 1 := by split <;> exact ⟨by decide, by decide⟩
  have fy : (y < (N (119 + (l * 7 + 3))) ∧ M 236 y = -1 ∧ M 237 y = -1) ∨ ((N (119 + (l * 7 + 3))) ≤ y ∧ M 236 y = min (nwy N h φ ((N (119 + (l * 7 + 2)))) (if (N (119 + (l * 7 + 0))) = -1 then 1 else 0) (-1) ((N (119 + (l * 7 + 3)))) ((N (119 + (l * 7 + 4)))) (y - (N (119 + (l * 7 + 3)))).toNat).1 (N 1) ∧ M 237 y = (nwy N h φ ((N (119 + (l * 7 + 2)))) (if (N (119 + (l * 7 + 0))) = -1 then 1 else 0) (-1) ((N (119 + (l * 7 + 3)))) ((N (119 + (l * 7 + 4)))) (y - (N (119 + (l * 7 + 3)))).toNat).2 ∧ (0 ≤ (nwy N h φ ((N (119 + (l * 7 + 2)))) (if (N (119 + (l * 7 + 0))) = -1 then 1 else 0) (-1) ((N (119 + (l * 7 + 3)))) ((N (119 + (l * 7 + 4)))) (y - (N (119 + (l * 7 + 3)))).toNat).1 ∧ (nwy N h φ ((N (119 + (l * 7 + 2)))) (if (N (119 + (l * 7 + 0))) = -1 then 1 else 0) (-1) ((N (119 + (l * 7 + 3)))) ((N (119 + (l * 7 + 4)))) (y - (N (119 + (l * 7 + 3)))).toNat).1 ≤ 300) ∧ (0 ≤ (nwy N h φ ((N (119 + (l * 7 + 2)))) (if (N (119 + (l * 7 + 0))) = -1 then 1 else 0) (-1) ((N (119 + (l * 7 + 3)))) ((N (119 + (l * 7 + 4)))) (y - (N (119 + (l * 7 + 3)))).toNat).2 ∧ (nwy N h φ ((N (119 + (l * 7 + 2)))) (if (N (119 + (l * 7 + 0))) = -1 then 1 else 0) (-1) ((N (119 + (l * 7 + 3)))) ((N (119 + (l * 7 + 4)))) (y - (N (119 + (l * 7 + 3)))).toNat).2 ≤ 99)) := by
    by_cases y3 : y < (N (119 + (l * 7 + 3)))
    · exact Or.inl ⟨y3, hr.1 y hy.1 y3⟩
    · have a9 := hr.2.1 (y - (N (119 + (l * 7 + 3)))).toNat (by omega)
      rw [show (N (119 + (l * 7 + 3))) + ((y - (N (119 + (l * 7 + 3)))).toNat : Int) = y by omega] at a9
      have b9 := nwy_b (lane := (N (119 + (l * 7 + 2)))) (rock := (if (N (119 + (l * 7 + 0))) = -1 then 1 else 0)) (wo := -1) hN hfw.1 (fun y a b => (hT.2 y a b).2) l3.1 l4 (y - (N (119 + (l * 7 + 3)))).toNat (by omega)
      exact Or.inr ⟨by omega, a9.1, a9.2, b9.1, b9.2⟩
  have b36 : (-1 ≤ M 236 y ∧ M 236 y ≤ 10000) ∧ (-1 ≤ M 237 y ∧ M 237 y ≤ 10000) := by
    rcases fy with ⟨f1, f2, f3⟩ | ⟨f1, f2, f3, f4, f5⟩ <;> exact ⟨⟨by omega, by omega⟩, by omega, by omega⟩
  refine gm_sz (gm_p_load (pc := 0) (i := .iload_n 2) (sr := 0) (j := 2) (by decide +kernel) rfl rfl rfl) ?_
  refine gm_sz (gm_p_load (pc := 1) (i := .aload_n 0) (sr := 2) (j := 0) (by decide +kernel) rfl rfl rfl) ?_
  refine gm_sz (gm_p_load (pc := 2) (i := .iload_n 1) (sr := 0) (j := 1) (by decide +kernel) rfl rfl rfl) ?_
  refine gm_sz (gm_p_const (pc := 3) (i := .iconst 3) (v := gm_vi 3) (by decide +kernel) (by decide +kernel)) ?_
  refine gm_c_virt (k := 226) (ci := 11) (mj := 301) (ix := 82) (pc := 4) (as := [gm_vi l, gm_vi 3]) (st := [gm_vi y]) (d' := d - 1) (bc' := 0) (bs' := 0) (by decide +kernel) (by decide +kernel) (by decide +kernel) (by decide +kernel) (e0k hE (k := 226) (c := 11) (by decide +kernel)).1 (e0k hE (k := 226) (c := 11) (by decide +kernel)).2 (by decide) (by decide +kernel) (show 2 = gm_na 301 by decide +kernel) (fw_c2 fw_si fw_si) (show 3 ≤ gm_ml 301 by decide +kernel) (Nat.le_of_ble_eq_true rfl) (by omega) (Nat.zero_le _) (Nat.zero_le _) ?_
  refine re_ol hE hT hN ⟨by omega, by omega⟩ ⟨by omega, by omega⟩ ?_
  show gm_Wp X LX d _ _ 311 7 _ [gm_vi (N (119 + (l * 7 + 3))), gm_vi y] n K _ _ Q
  refine fw_ic (cc := .le) (pc := 7) (off := 24) (by decide +kernel) (by decide) ⟨by omega, by omega⟩ ⟨by omega, by omega⟩ (fun h7 => ?_) (fun h7 => ?_)
  · have h7 : y ≤ (N (119 + (l * 7 + 3))) := h7
    refine gm_sz (gm_p_const (pc := 31) (i := .iconst 0) (v := gm_vi 0) (by decide +kernel) (by decide +kernel)) ?_
    have hn9 : ∀ k : Nat, 1 ≤ k → y = (N (119 + (l * 7 + 3))) + (k : Int) → ¬ BRE N h φ l k := fun k k1 e hb => by
      obtain ⟨hb1, hb2⟩ := hb
      rw [show k = (y - (N (119 + (l * 7 + 3)))).toNat by omega] at hb1 hb2
      rcases fy with fy | fy <;> omega
    exact gm_r_int (pc := 32) (by decide +kernel) (Or.inr ⟨(by decide +kernel), Or.inl rfl⟩) (k0 hn9)
  · have h7 : ¬ y ≤ (N (119 + (l * 7 + 3))) := h7
    refine gm_sz (gm_p_load (pc := 10) (i := .aload_n 0) (sr := 2) (j := 0) (by decide +kernel) rfl rfl rfl) ?_
    refine gm_sz (gm_p_load (pc := 11) (i := .iload_n 2) (sr := 0) (j := 2) (by decide +kernel) rfl rfl rfl) ?_
    refine gm_c_virt (k := 226) (ci := 11) (mj := 312) (ix := 384) (pc := 12) (as := [gm_vi y]) (st := []) (d' := d - 1) (bc' := 0) (bs' := 0) (by decide +kernel) (by decide +kernel) (by decide +kernel) (by decide +kernel) (e0k hE (k := 226) (c := 11) (by decide +kernel)).1 (e0k hE (k := 226) (c := 11) (by decide +kernel)).2 (by decide) (by decide +kernel) (show 1 = gm_na 312 by decide +kernel) (fw_c1 fw_si) (show 2 ≤ gm_ml 312 by decide +kernel) (Nat.le_of_ble_eq_true rfl) (by omega) (Nat.zero_le _) (Nat.zero_le _) ?_
    refine ii_312 (y := y) (by omega) hE hT hN hy b36.1 (fun w1 w2 => ?_) (fun w1 => ?_)
    · show gm_Wp X LX d _ _ 311 15 _ [gm_vi 1] n K _ _ Q
      have w1 : 0 ≤ M 236 y := w1
      have w2 : M 236 y < N 1 := w2
      refine fw_iffd (cc := .eq) (pc := 15) (off := 16) (by decide +kernel) (by decide) ⟨by decide, by decide⟩ (by decide) ?_
      refine gm_sz (gm_p_load (pc := 18) (i := .aload_n 0) (sr := 2) (j := 0) (by decide +kernel) rfl rfl rfl) ?_
      refine gm_sz (fw_gr (pc := 19) (ix := 48) (ci := 11) (j := 28) (r := 237) (by decide +kernel) (e0k hE (k := 226) (c := 11) (by decide +kernel)) (by decide +kernel) (by decide +kernel) (e0r hE (k := 226) (j := 28) (r := 237) (by decide +kernel))) ?_
      refine gm_sz (gm_p_load (pc := 22) (i := .iload_n 2) (sr := 0) (j := 2) (by decide +kernel) rfl rfl rfl) ?_
      refine gm_sz (fw_ia (pc := 23) (k := 237) (len := 300) (e0 := y) (x := M 237 y) (by decide +kernel) (e0a hE (k := 237) (q := (0, 300)) (by decide +kernel)).1 (e0a hE (k := 237) (q := (0, 300)) (by decide +kernel)).2 (by decide) ⟨by omega, by omega⟩ rfl) ?_
      refine fw_if (cc := .ne) (pc := 24) (off := 7) (by decide +kernel) (by decide) ⟨by omega, by omega⟩ (fun h24 => ?_) (fun h24 => ?_)
      · have h24 : ¬ (M 237 y) = 0 := h24
        refine gm_sz (gm_p_const (pc := 31) (i := .iconst 0) (v := gm_vi 0) (by decide +kernel) (by decide +kernel)) ?_
        have hn9 : ∀ k : Nat, 1 ≤ k → y = (N (119 + (l * 7 + 3))) + (k : Int) → ¬ BRE N h φ l k := fun k k1 e hb => by
          obtain ⟨hb1, hb2⟩ := hb
          rw [show k = (y - (N (119 + (l * 7 + 3)))).toNat by omega] at hb1 hb2
          rcases fy with fy | fy <;> omega
        exact gm_r_int (pc := 32) (by decide +kernel) (Or.inr ⟨(by decide +kernel), Or.inl rfl⟩) (k0 hn9)
      · have h24 : (M 237 y) = 0 := Classical.not_not.mp h24
        refine gm_sz (gm_p_const (pc := 27) (i := .iconst 1) (v := gm_vi 1) (by decide +kernel) (by decide +kernel)) ?_
        refine gm_sz (gm_p_goto (pc := 28) (off := 4) (by decide +kernel) (by decide)) ?_
        have hq9 : Q (.inl (some (gm_vi 1))) n K R M := by
          rcases fy with fy | fy
          · omega
          · exact k1 (y - (N (119 + (l * 7 + 3)))).toNat (by omega) (by omega) ⟨by omega, by omega⟩
        exact gm_r_int (pc := 32) (by decide +kernel) (Or.inr ⟨(by decide +kernel), Or.inr rfl⟩) hq9
    · show gm_Wp X LX d _ _ 311 15 _ [gm_vi 0] n K _ _ Q
      have w1 : ¬ (0 ≤ M 236 y ∧ M 236 y < N 1) := w1
      refine fw_iftd (cc := .eq) (pc := 15) (off := 16) (by decide +kernel) (by decide) ⟨by decide, by decide⟩ (by decide) ?_
      refine gm_sz (gm_p_const (pc := 31) (i := .iconst 0) (v := gm_vi 0) (by decide +kernel) (by decide +kernel)) ?_
      have hn9 : ∀ k : Nat, 1 ≤ k → y = (N (119 + (l * 7 + 3))) + (k : Int) → ¬ BRE N h φ l k := fun k k1 e hb => by
        obtain ⟨hb1, hb2⟩ := hb
        rw [show k = (y - (N (119 + (l * 7 + 3)))).toNat by omega] at hb1 hb2
        rcases fy with fy | fy <;> omega
      exact gm_r_int (pc := 32) (by decide +kernel) (Or.inr ⟨(by decide +kernel), Or.inl rfl⟩) (k0 hn9)
theorem bf_l (hd : 8 ≤ d) (hE : E0 n K R) (hT : TR N h M) (hN : NR N) (hfw : FLR X LX n K R N h FI φ) (hr : rrun N h φ ((N (119 + (l * 7 + 2)))) (if (N (119 + (l * 7 + 0))) = -1 then 1 else 0) (-1) ((N (119 + (l * 7 + 3)))) ((N (119 + (l * 7 + 4)))) M) (hl : 0 ≤ l ∧ l < N 4) (hq : ∀ v, FBR N h φ l v → Q (.inl (some (gm_vi v))) n K R M) : ∀ (u k : Nat), (k : Int) + (u : Int) = 300 → (∀ i : Nat, 1 ≤ i → (N (119 + (l * 7 + 3))) + (i : Int) < (k : Int) → ¬ BRE N h φ l i) → gm_Wp X LX d bc bs 310 2 [some (gm_vr 226), some (gm_vi l), some (gm_vi (k : Int))] [] n K R M Q := by
  obtain ⟨⟨⟨a0, b0⟩, ⟨a1, b1⟩, ⟨a10, b10⟩, ⟨a11, b11⟩, ⟨a12, b12⟩, a9, b9⟩, ⟨⟨a2, b2⟩, ⟨a5, b5⟩, ⟨a3, b3⟩, ⟨a4, b4⟩, ⟨a6, b6⟩, ⟨a14, b14⟩, ⟨a7, b7⟩, a13, b13⟩, rF, rP, rL⟩ := id hN
  obtain ⟨r0, r1, l2, l3, l4, r5, r6, -⟩ := rL l hl.1 hl.2
  have l5 : 0 ≤ (N (119 + (l * 7 + 4))) ∧ (N (119 + (l * 7 + 4))) ≤ 300 := ⟨l4.1, by have := l4.2; omega⟩
  have l49 : (N (119 + (l * 7 + 4))) < N 1 := l4.2
  have l4 := l5
  have rk9 : 0 ≤ (if (N (119 + (l * 7 + 0))) = -1 then (1 : Int) else 0) ∧ (if (N (119 + (l * 7 + 0))) = -1 then (1 : Int) else 0) ≤ 1 := by split <;> exact ⟨by decide, by decide⟩
  intro u
  induction u with
  | zero =>
    intro k hk hb
    refine gm_sz (gm_p_load (pc := 2) (i := .iload_n 2) (sr := 0) (j := 2) (by decide +kernel) rfl rfl rfl) ?_
    refine gm_sz (gm_p_const (pc := 3) (i := .sipush 300) (v := gm_vi 300) (by decide +kernel) (by decide +kernel)) ?_
    refine fw_ict (cc := .ge) (pc := 6) (off := 20) (by decide +kernel) (by decide) ⟨by omega, by omega⟩ ⟨by decide, by decide⟩ (show 300 ≤ (k : Int) by omega) ?_
    refine gm_sz (gm_p_const (pc := 26) (i := .iconst (-1)) (v := gm_vi (-1)) (by decide +kernel) (by decide +kernel)) ?_
    exact gm_r_int (pc := 27) (by decide +kernel) (Or.inl (by decide +kernel)) (hq _ (Or.inl ⟨rfl, fun j j1 j2 => hb j j1 (by omega)⟩))
  | succ u ih =>
    intro k hk hb
    refine gm_sz (gm_p_load (pc := 2) (i := .iload_n 2) (sr := 0) (j := 2) (by decide +kernel) rfl rfl rfl) ?_
    refine gm_sz (gm_p_const (pc := 3) (i := .sipush 300) (v := gm_vi 300) (by decide +kernel) (by decide +kernel)) ?_
    refine fw_icf (cc := .ge) (pc := 6) (off := 20) (by decide +kernel) (by decide) ⟨by omega, by omega⟩ ⟨by decide, by decide⟩ (show ¬ 300 ≤ (k : Int) by omega) ?_
    refine gm_sz (gm_p_load (pc := 9) (i := .aload_n 0) (sr := 2) (j := 0) (by decide +kernel) rfl rfl rfl) ?_
    refine gm_sz (gm_p_load (pc := 10) (i := .iload_n 1) (sr := 0) (j := 1) (by decide +kernel) rfl rfl rfl) ?_
    refine gm_sz (gm_p_load (pc := 11) (i := .iload_n 2) (sr := 0) (j := 2) (by decide +kernel) rfl rfl rfl) ?_
    refine gm_c_virt (k := 226) (ci := 11) (mj := 311) (ix := 402) (pc := 12) (as := [gm_vi l, gm_vi (k : Int)]) (st := []) (d' := d - 1) (bc' := 0) (bs' := 0) (by decide +kernel) (by decide +kernel) (by decide +kernel) (by decide +kernel) (e0k hE (k := 226) (c := 11) (by decide +kernel)).1 (e0k hE (k := 226) (c := 11) (by decide +kernel)).2 (by decide) (by decide +kernel) (show 2 = gm_na 311 by decide +kernel) (fw_c2 fw_si fw_si) (show 3 ≤ gm_ml 311 by decide +kernel) (Nat.le_of_ble_eq_true rfl) (by omega) (Nat.zero_le _) (Nat.zero_le _) ?_
    refine ib_311 (y := (k : Int)) (by omega) hE hT hN hfw hr hl ⟨by omega, by omega⟩ (fun j1 j2 j3 j4 => ?_) (fun w1 => ?_)
    · show gm_Wp X LX d _ _ 310 15 _ [gm_vi 1] n K _ _ Q
      refine fw_iffd (cc := .eq) (pc := 15) (off := 5) (by decide +kernel) (by decide) ⟨by decide, by decide⟩ (by decide) ?_
      refine gm_sz (gm_p_load (pc := 18) (i := .iload_n 2) (sr := 0) (j := 2) (by decide +kernel) rfl rfl rfl) ?_
      exact gm_r_int (pc := 19) (by decide +kernel) (Or.inl (by decide +kernel)) (hq _ (Or.inr ⟨j1, j2, by omega, j3, j4, fun i i1 i2 => hb i i1 (by omega)⟩))
    · show gm_Wp X LX d _ _ 310 15 _ [gm_vi 0] n K _ _ Q
      refine fw_iftd (cc := .eq) (pc := 15) (off := 5) (by decide +kernel) (by decide) ⟨by decide, by decide⟩ (by decide) ?_
      refine gm_sz (gm_p_iinc (pc := 20) (j := 2) (z := 1) (by decide +kernel) rfl) ?_
      refine gm_sz (gm_p_goto (pc := 23) (off := (-21)) (by decide +kernel) (by decide)) ?_
      have hb2 : ∀ i : Nat, 1 ≤ i → (N (119 + (l * 7 + 3))) + (i : Int) < ((k + 1 : Nat) : Int) → ¬ BRE N h φ l i := fun i i1 i2 => by
        by_cases e : (k : Int) = (N (119 + (l * 7 + 3))) + (i : Int)
        · exact w1 i i1 e
        · exact hb i i1 (by omega)
      have h9 := ih (k + 1) (by omega) hb2
      rw [show ((k + 1 : Nat) : Int) = (k : Int) + 1 by omega] at h9
      exact h9
theorem bf_310 (hd : 8 ≤ d) (hE : E0 n K R) (hT : TR N h M) (hN : NR N) (hfw : FLR X LX n K R N h FI φ) (hr : rrun N h φ ((N (119 + (l * 7 + 2)))) (if (N (119 + (l * 7 + 0))) = -1 then 1 else 0) (-1) ((N (119 + (l * 7 + 3)))) ((N (119 + (l * 7 + 4)))) M) (hl : 0 ≤ l ∧ l < N 4) (hq : ∀ v, FBR N h φ l v → Q (.inl (some (gm_vi v))) n K R M) : gm_Wp X LX d bc bs 310 0 (gm_ent 310 [gm_vr 226, gm_vi l]) [] n K R M Q := by
  obtain ⟨⟨⟨a0, b0⟩, ⟨a1, b1⟩, ⟨a10, b10⟩, ⟨a11, b11⟩, ⟨a12, b12⟩, a9, b9⟩, ⟨⟨a2, b2⟩, ⟨a5, b5⟩, ⟨a3, b3⟩, ⟨a4, b4⟩, ⟨a6, b6⟩, ⟨a14, b14⟩, ⟨a7, b7⟩, a13, b13⟩, rF, rP, rL⟩ := id hN
  obtain ⟨r0, r1, l2, l3, l4, r5, r6, -⟩ := rL l hl.1 hl.2
  have l5 : 0 ≤ (N (119 + (l * 7 + 4))) ∧ (N (119 + (l * 7 + 4))) ≤ 300 := ⟨l4.1, by have := l4.2; omega⟩
  have l49 : (N (119 + (l * 7 + 4))) < N 1 := l4.2
  have l4 := l5
  have rk9 : 0 ≤ (if (N (119 + (l * 7 + 0))) = -1 then (1 : Int) else 0) ∧ (if (N (119 + (l * 7 + 0))) = -1 then (1 : Int) else 0) ≤ 1 := by split <;> exact ⟨by decide, by decide⟩
  refine gm_sz (gm_p_const (pc := 0) (i := .iconst 0) (v := gm_vi 0) (by decide +kernel) (by decide +kernel)) ?_
  refine gm_sz (gm_p_stor (pc := 1) (i := .istore_n 2) (sr := 0) (j := 2) (by decide +kernel) rfl (show 3 ≤ _ from Nat.le_of_ble_eq_true rfl) rfl) ?_
  exact bf_l hd hE hT hN hfw hr hl hq 300 0 (by omega) (fun i i1 i2 => by omega)
theorem re_letter (hd : 24 ≤ d) (hE : E0 n K R) (hT : TR N h M) (hN : NR N) (hfw : FLR X LX n K R N h FI φ) (hI : FI M) (hoo : ∀ l, 0 ≤ l → l < N 4 → OUTR N h φ l (o l) (dd l)) (hl : 0 ≤ l ∧ l < N 4) (hi2 : gm_ir w) (kg : 0 ≤ w → w < 7 → ∀ M2, M2 226 0 = 0 → Q (.inl (some (gm_vi ((N (119 + (l * 7 + w))))))) n K R M2) (k7 : w = 7 → ∀ M2, M2 226 0 = 0 → Q (.inl (some (gm_vi (o l)))) n K R M2) (k8n : w = 8 → o l = -1 → ∀ M2, M2 226 0 = 0 → Q (.inl (some (gm_vi (-1)))) n K R M2) (k8v : w = 8 → ¬ o l = -1 → ∀ M2, M2 226 0 = 0 → Q (.inl (some (gm_vi (dd l)))) n K R M2) (k9 : w = 9 → ∀ v, FBR N h φ l v → ∀ M2, M2 226 0 = 0 → Q (.inl (some (gm_vi (v)))) n K R M2) (k2 : ¬ (0 ≤ w ∧ w ≤ 9) → ∀ M2, M2 226 0 = 2 → Q (.inl (some (gm_vi 0))) n K R M2) : gm_Wp X LX d bc bs 308 0 (gm_ent 308 [gm_vr 226, gm_vi l, gm_vi w]) [] n K R M Q := by
  obtain ⟨⟨⟨a0, b0⟩, ⟨a1, b1⟩, ⟨a10, b10⟩, ⟨a11, b11⟩, ⟨a12, b12⟩, a9, b9⟩, ⟨⟨a2, b2⟩, ⟨a5, b5⟩, ⟨a3, b3⟩, ⟨a4, b4⟩, ⟨a6, b6⟩, ⟨a14, b14⟩, ⟨a7, b7⟩, a13, b13⟩, rF, rP, rL⟩ := id hN
  obtain ⟨r0, r1, l2, l3, l4, r5, r6, -⟩ := rL l hl.1 hl.2
  have l5 : 0 ≤ (N (119 + (l * 7 + 4))) ∧ (N (119 + (l * 7 + 4))) ≤ 300 := ⟨l4.1, by have := l4.2; omega⟩
  have l49 : (N (119 + (l * 7 + 4))) < N 1 := l4.2
  have l4 := l5
  have rk9 : 0 ≤ (if (N (119 + (l * 7 + 0))) = -1 then (1 : Int) else 0) ∧ (if (N (119 + (l * 7 + 0))) = -1 then (1 : Int) else 0) ≤ 1 := by split <;> exact ⟨by decide, by decide⟩
  have ob9 := OUTR_b (hoo l hl.1 hl.2) l3.1
  refine gm_sz (gm_p_load (pc := 0) (i := .aload_n 0) (sr := 2) (j := 0) (by decide +kernel) rfl rfl rfl) ?_
  refine gm_sz (gm_p_const (pc := 1) (i := .iconst 0) (v := gm_vi 0) (by decide +kernel) (by decide +kernel)) ?_
  refine gm_sz (fw_pi (pc := 2) (ix := 3) (ci := 11) (j := 0) (M' := gm_uM M 226 0 0) (by decide +kernel) (e0k hE (k := 226) (c := 11) (by decide +kernel)) (by decide +kernel) (by decide +kernel) (by decide +kernel) rfl) ?_
  refine gm_sz (gm_p_load (pc := 5) (i := .aload_n 0) (sr := 2) (j := 0) (by decide +kernel) rfl rfl rfl) ?_
  refine gm_sz (gm_p_load (pc := 6) (i := .aload_n 0) (sr := 2) (j := 0) (by decide +kernel) rfl rfl rfl) ?_
  refine gm_sz (gm_p_load (pc := 7) (i := .iload_n 1) (sr := 0) (j := 1) (by decide +kernel) rfl rfl rfl) ?_
  refine gm_c_virt (k := 226) (ci := 11) (mj := 309) (ix := 405) (pc := 8) (as := [gm_vi l]) (st := [gm_vr 226]) (d' := d - 1) (bc' := 0) (bs' := 0) (by decide +kernel) (by decide +kernel) (by decide +kernel) (by decide +kernel) (e0k hE (k := 226) (c := 11) (by decide +kernel)).1 (e0k hE (k := 226) (c := 11) (by decide +kernel)).2 (by decide) (by decide +kernel) (show 1 = gm_na 309 by decide +kernel) (fw_c1 fw_si) (show 2 ≤ gm_ml 309 by decide +kernel) (Nat.le_of_ble_eq_true rfl) (by omega) (Nat.zero_le _) (Nat.zero_le _) ?_
  refine no_309 (i := l) (by omega) hE (tr_fr (W := [(226, some 0)]) hT (fr_p fr_0 (Or.inr (by decide))) (by decide)) hN ⟨by omega, by omega⟩ (fun n8 => ?_) (fun n8 => ?_)
  · show gm_Wp X LX d _ _ 308 11 _ [gm_vi 1, gm_vr 226] n K _ _ Q
    have n8 : ¬ (0 ≤ l ∧ l < N 4) := n8
    refine gm_sz (gm_p_const (pc := 11) (i := .iconst 1) (v := gm_vi 1) (by decide +kernel) (by decide +kernel)) ?_
    refine gm_c_virt (k := 226) (ci := 11) (mj := 282) (ix := 300) (pc := 12) (as := [gm_vi 1, gm_vi 1]) (st := []) (d' := d - 1) (bc' := 0) (bs' := 0) (by decide +kernel) (by decide +kernel) (by decide +kernel) (by decide +kernel) (e0k hE (k := 226) (c := 11) (by decide +kernel)).1 (e0k hE (k := 226) (c := 11) (by decide +kernel)).2 (by decide) (by decide +kernel) (show 2 = gm_na 282 by decide +kernel) (fw_c2 fw_si fw_si) (show 3 ≤ gm_ml 282 by decide +kernel) (Nat.le_of_ble_eq_true rfl) (by omega) (Nat.zero_le _) (Nat.zero_le _) ?_
    refine tf_1 hE ?_
    show gm_Wp X LX d _ _ 308 15 _ [gm_vi 1] n K _ _ Q
    refine fw_iftd (cc := .ne) (pc := 15) (off := 26) (by decide +kernel) (by decide) ⟨by decide, by decide⟩ (by decide) ?_
    refine gm_sz (gm_p_const (pc := 41) (i := .iconst 0) (v := gm_vi 0) (by decide +kernel) (by decide +kernel)) ?_
    exact gm_r_int (pc := 42) (by decide +kernel) (Or.inl (by decide +kernel)) (absurd hl n8)
  · show gm_Wp X LX d _ _ 308 11 _ [gm_vi 0, gm_vr 226] n K _ _ Q
    have n8 : 0 ≤ l ∧ l < N 4 := n8
    refine gm_sz (gm_p_const (pc := 11) (i := .iconst 1) (v := gm_vi 1) (by decide +kernel) (by decide +kernel)) ?_
    refine gm_c_virt (k := 226) (ci := 11) (mj := 282) (ix := 300) (pc := 12) (as := [gm_vi 0, gm_vi 1]) (st := []) (d' := d - 1) (bc' := 0) (bs' := 0) (by decide +kernel) (by decide +kernel) (by decide +kernel) (by decide +kernel) (e0k hE (k := 226) (c := 11) (by decide +kernel)).1 (e0k hE (k := 226) (c := 11) (by decide +kernel)).2 (by decide) (by decide +kernel) (show 2 = gm_na 282 by decide +kernel) (fw_c2 fw_si fw_si) (show 3 ≤ gm_ml 282 by decide +kernel) (Nat.le_of_ble_eq_true rfl) (by omega) (Nat.zero_le _) (Nat.zero_le _) ?_
    refine tf_0 hE ?_
    show gm_Wp X LX d _ _ 308 15 _ [gm_vi 0] n K _ _ Q
    refine fw_iffd (cc := .ne) (pc := 15) (off := 26) (by decide +kernel) (by decide) ⟨by decide, by decide⟩ (by decide) ?_
    refine gm_sz (gm_p_load (pc := 18) (i := .aload_n 0) (sr := 2) (j := 0) (by decide +kernel) rfl rfl rfl) ?_
    refine gm_sz (gm_p_load (pc := 19) (i := .iload_n 2) (sr := 0) (j := 2) (by decide +kernel) rfl rfl rfl) ?_
    refine gm_sz (gm_p_const (pc := 20) (i := .iconst 0) (v := gm_vi 0) (by decide +kernel) (by decide +kernel)) ?_
    refine gm_sz (gm_p_const (pc := 21) (i := .bipush 9) (v := gm_vi 9) (by decide +kernel) (by decide +kernel)) ?_
    refine gm_c_stat (mj := 286) (ix := 90) (pc := 23) (as := [gm_vi w, gm_vi 0, gm_vi 9]) (st := [gm_vr 226]) (d' := d - 1) (bc' := 0) (bs' := 0) (by decide +kernel) (by decide +kernel) (by decide +kernel) (by decide +kernel) (show 3 = gm_na 286 by decide +kernel) (fw_c3 fw_si fw_si fw_si) (show 3 ≤ gm_ml 286 by decide +kernel) (Nat.le_of_ble_eq_true rfl) (by omega) (Nat.zero_le _) (Nat.zero_le _) ?_
    refine in_286 (x := w) (y := 0) (z := 9) hi2 ⟨by decide, by decide⟩ ⟨by decide, by decide⟩ (fun k23a k23 => ?_) (fun k23 => ?_)
    · show gm_Wp X LX d _ _ 308 26 _ [gm_vi 1, gm_vr 226] n K _ _ Q
      have k23a : 0 ≤ w := k23a
      have k23 : w ≤ 9 := k23
      refine fw_iftd (cc := .ne) (pc := 26) (off := 7) (by decide +kernel) (by decide) ⟨by decide, by decide⟩ (by decide) ?_
      refine gm_sz (gm_p_const (pc := 33) (i := .iconst 0) (v := gm_vi 0) (by decide +kernel) (by decide +kernel)) ?_
      refine gm_sz (gm_p_const (pc := 34) (i := .iconst 2) (v := gm_vi 2) (by decide +kernel) (by decide +kernel)) ?_
      refine gm_c_virt (k := 226) (ci := 11) (mj := 282) (ix := 300) (pc := 35) (as := [gm_vi 0, gm_vi 2]) (st := []) (d' := d - 1) (bc' := 0) (bs' := 0) (by decide +kernel) (by decide +kernel) (by decide +kernel) (by decide +kernel) (e0k hE (k := 226) (c := 11) (by decide +kernel)).1 (e0k hE (k := 226) (c := 11) (by decide +kernel)).2 (by decide) (by decide +kernel) (show 2 = gm_na 282 by decide +kernel) (fw_c2 fw_si fw_si) (show 3 ≤ gm_ml 282 by decide +kernel) (Nat.le_of_ble_eq_true rfl) (by omega) (Nat.zero_le _) (Nat.zero_le _) ?_
      refine tf_0 hE ?_
      show gm_Wp X LX d _ _ 308 38 _ [gm_vi 0] n K _ _ Q
      refine fw_iftd (cc := .eq) (pc := 38) (off := 5) (by decide +kernel) (by decide) ⟨by decide, by decide⟩ (by decide) ?_
      refine gm_sz (gm_p_load (pc := 43) (i := .iload_n 2) (sr := 0) (j := 2) (by decide +kernel) rfl rfl rfl) ?_
      refine gm_sz (gm_p_const (pc := 44) (i := .bipush 7) (v := gm_vi 7) (by decide +kernel) (by decide +kernel)) ?_
      refine fw_ic (cc := .ge) (pc := 46) (off := 10) (by decide +kernel) (by decide) hi2 ⟨by decide, by decide⟩ (fun h46 => ?_) (fun h46 => ?_)
      · have h46 : 7 ≤ w := h46
        refine gm_sz (gm_p_load (pc := 56) (i := .aload_n 0) (sr := 2) (j := 0) (by decide +kernel) rfl rfl rfl) ?_
        refine gm_sz (gm_p_load (pc := 57) (i := .iload_n 1) (sr := 0) (j := 1) (by decide +kernel) rfl rfl rfl) ?_
        refine gm_c_virt (k := 226) (ci := 11) (mj := 304) (ix := 387) (pc := 58) (as := [gm_vi l]) (st := []) (d' := d - 1) (bc' := 0) (bs' := 0) (by decide +kernel) (by decide +kernel) (by decide +kernel) (by decide +kernel) (e0k hE (k := 226) (c := 11) (by decide +kernel)).1 (e0k hE (k := 226) (c := 11) (by decide +kernel)).2 (by decide) (by decide +kernel) (show 1 = gm_na 304 by decide +kernel) (fw_c1 fw_si) (show 2 ≤ gm_ml 304 by decide +kernel) (Nat.le_of_ble_eq_true rfl) (by omega) (Nat.zero_le _) (Nat.zero_le _) ?_
        refine re_c304 (l := l) (by omega) hE (tr_fr (W := [(226, some 0)]) hT (fr_p fr_0 (Or.inr (by decide))) (by decide)) hN hfw (hfw.2.1 [(226, some 0)] _ _ (by decide) (fr_p fr_0 (Or.inr (by decide))) hI) ⟨by omega, by omega⟩ (fun M21 hf21 hI21 hr21 => ?_)
        show gm_Wp X LX d _ _ 308 61 _ [gm_vi (M21 226 29)] n K _ _ Q
        obtain ⟨-, -, -, r3, -⟩ := rL l (by omega) (by omega)
        have ho9 := hoo l (by omega) (by omega)
        obtain ⟨e29, e37⟩ := rrun_o hr21 r3.1 ho9
        have ob := OUTR_b ho9 r3.1
        refine gm_sz (gm_p_stor (pc := 61) (i := .istore_n 3) (sr := 0) (j := 3) (by decide +kernel) rfl (show 4 ≤ _ from Nat.le_of_ble_eq_true rfl) rfl) ?_
        refine gm_sz (gm_p_load (pc := 62) (i := .iload_n 2) (sr := 0) (j := 2) (by decide +kernel) rfl rfl rfl) ?_
        refine gm_sz (gm_p_const (pc := 63) (i := .bipush 7) (v := gm_vi 7) (by decide +kernel) (by decide +kernel)) ?_
        refine fw_ic (cc := .ne) (pc := 65) (off := 7) (by decide +kernel) (by decide) hi2 ⟨by decide, by decide⟩ (fun h65 => ?_) (fun h65 => ?_)
        · have h65 : ¬ w = 7 := h65
          refine gm_sz (gm_p_load (pc := 72) (i := .iload_n 2) (sr := 0) (j := 2) (by decide +kernel) rfl rfl rfl) ?_
          refine gm_sz (gm_p_const (pc := 73) (i := .bipush 8) (v := gm_vi 8) (by decide +kernel) (by decide +kernel)) ?_
          refine fw_ic (cc := .ne) (pc := 75) (off := 20) (by decide +kernel) (by decide) hi2 ⟨by decide, by decide⟩ (fun h75 => ?_) (fun h75 => ?_)
          · have h75 : ¬ w = 8 := h75
            refine gm_sz (gm_p_load (pc := 95) (i := .aload_n 0) (sr := 2) (j := 0) (by decide +kernel) rfl rfl rfl) ?_
            refine gm_sz (gm_p_load (pc := 96) (i := .iload_n 1) (sr := 0) (j := 1) (by decide +kernel) rfl rfl rfl) ?_
            refine gm_c_virt (k := 226) (ci := 11) (mj := 310) (ix := 408) (pc := 97) (as := [gm_vi l]) (st := []) (d' := d - 1) (bc' := 0) (bs' := 0) (by decide +kernel) (by decide +kernel) (by decide +kernel) (by decide +kernel) (e0k hE (k := 226) (c := 11) (by decide +kernel)).1 (e0k hE (k := 226) (c := 11) (by decide +kernel)).2 (by decide) (by decide +kernel) (show 1 = gm_na 310 by decide +kernel) (fw_c1 fw_si) (show 2 ≤ gm_ml 310 by decide +kernel) (Nat.le_of_ble_eq_true rfl) (by omega) (Nat.zero_le _) (Nat.zero_le _) ?_
            refine bf_310 (by omega) hE (tr_fr (W := [(226, some 0), (226, some 29), (226, some 30), (226, some 26), (226, some 17), (226, some 18), (226, some 19), (226, some 20), (226, some 21), (226, some 22), (226, some 23), (235, none), (233, none), (236, none), (237, none)]) hT (fr_t (fr_p fr_0 (Or.inr (by decide))) hf21 (by decide)) (by decide)) hN hfw hr21 hl (fun v310 h310 => ?_)
            show gm_Wp X LX d _ _ 308 100 _ [gm_vi v310] n K _ _ Q
            exact gm_r_int (pc := 100) (by decide +kernel) (Or.inl (by decide +kernel)) (k9 (by omega) _ h310 _ ((fr_j hf21 (by decide)).trans uM_at))
          · have h75 : w = 8 := Classical.not_not.mp h75
            refine gm_sz (gm_p_load (pc := 78) (i := .iload_n 3) (sr := 0) (j := 3) (by decide +kernel) rfl rfl rfl) ?_
            refine fw_if (cc := .ge) (pc := 79) (off := 7) (by decide +kernel) (by decide) ⟨by omega, by omega⟩ (fun h79 => ?_) (fun h79 => ?_)
            · have h79 : 0 ≤ (M21 226 29) := h79
              refine gm_sz (gm_p_load (pc := 86) (i := .aload_n 0) (sr := 2) (j := 0) (by decide +kernel) rfl rfl rfl) ?_
              refine gm_sz (fw_gr (pc := 87) (ix := 48) (ci := 11) (j := 28) (r := 237) (by decide +kernel) (e0k hE (k := 226) (c := 11) (by decide +kernel)) (by decide +kernel) (by decide +kernel) (e0r hE (k := 226) (j := 28) (r := 237) (by decide +kernel))) ?_
              refine gm_sz (gm_p_load (pc := 90) (i := .iload_n 3) (sr := 0) (j := 3) (by decide +kernel) rfl rfl rfl) ?_
              refine gm_sz (fw_ia (pc := 91) (k := 237) (len := 300) (e0 := M21 226 29) (x := dd l) (by decide +kernel) (e0a hE (k := 237) (q := (0, 300)) (by decide +kernel)).1 (e0a hE (k := 237) (q := (0, 300)) (by decide +kernel)).2 (by decide) ⟨by omega, by omega⟩ ((congrArg (M21 237) e29).trans (e37 (by omega)))) ?_
              refine gm_sz (gm_p_goto (pc := 92) (off := 8) (by decide +kernel) (by decide)) ?_
              exact gm_r_int (pc := 100) (by decide +kernel) (Or.inl (by decide +kernel)) (k8v (by omega) (by omega) _ ((fr_j hf21 (by decide)).trans uM_at))
            · have h79 : ¬ 0 ≤ (M21 226 29) := h79
              refine gm_sz (gm_p_const (pc := 82) (i := .iconst (-1)) (v := gm_vi (-1)) (by decide +kernel) (by decide +kernel)) ?_
              refine gm_sz (gm_p_goto (pc := 83) (off := 17) (by decide +kernel) (by decide)) ?_
              exact gm_r_int (pc := 100) (by decide +kernel) (Or.inl (by decide +kernel)) (k8n (by omega) (by omega) _ ((fr_j hf21 (by decide)).trans uM_at))
        · have h65 : w = 7 := Classical.not_not.mp h65
          refine gm_sz (gm_p_load (pc := 68) (i := .iload_n 3) (sr := 0) (j := 3) (by decide +kernel) rfl rfl rfl) ?_
          refine gm_sz (gm_p_goto (pc := 69) (off := 31) (by decide +kernel) (by decide)) ?_
          rw [e29]
          exact gm_r_int (pc := 100) (by decide +kernel) (Or.inl (by decide +kernel)) (k7 (by omega) _ ((fr_j hf21 (by decide)).trans uM_at))
      · have h46 : ¬ 7 ≤ w := h46
        refine gm_sz (gm_p_load (pc := 49) (i := .aload_n 0) (sr := 2) (j := 0) (by decide +kernel) rfl rfl rfl) ?_
        refine gm_sz (gm_p_load (pc := 50) (i := .iload_n 1) (sr := 0) (j := 1) (by decide +kernel) rfl rfl rfl) ?_
        refine gm_sz (gm_p_load (pc := 51) (i := .iload_n 2) (sr := 0) (j := 2) (by decide +kernel) rfl rfl rfl) ?_
        refine gm_c_virt (k := 226) (ci := 11) (mj := 301) (ix := 82) (pc := 52) (as := [gm_vi l, gm_vi w]) (st := []) (d' := d - 1) (bc' := 0) (bs' := 0) (by decide +kernel) (by decide +kernel) (by decide +kernel) (by decide +kernel) (e0k hE (k := 226) (c := 11) (by decide +kernel)).1 (e0k hE (k := 226) (c := 11) (by decide +kernel)).2 (by decide) (by decide +kernel) (show 2 = gm_na 301 by decide +kernel) (fw_c2 fw_si fw_si) (show 3 ≤ gm_ml 301 by decide +kernel) (Nat.le_of_ble_eq_true rfl) (by omega) (Nat.zero_le _) (Nat.zero_le _) ?_
        refine re_ol hE (tr_fr (W := [(226, some 0)]) hT (fr_p fr_0 (Or.inr (by decide))) (by decide)) hN ⟨by omega, by omega⟩ ⟨by omega, by omega⟩ ?_
        show gm_Wp X LX d _ _ 308 55 _ [gm_vi (N (119 + (l * 7 + w)))] n K _ _ Q
        exact gm_r_int (pc := 55) (by decide +kernel) (Or.inl (by decide +kernel)) (kg (by omega) (by omega) _ uM_at)
    · show gm_Wp X LX d _ _ 308 26 _ [gm_vi 0, gm_vr 226] n K _ _ Q
      have k23 : ¬ (0 ≤ w ∧ w ≤ 9) := k23
      refine fw_iffd (cc := .ne) (pc := 26) (off := 7) (by decide +kernel) (by decide) ⟨by decide, by decide⟩ (by decide) ?_
      refine gm_sz (gm_p_const (pc := 29) (i := .iconst 1) (v := gm_vi 1) (by decide +kernel) (by decide +kernel)) ?_
      refine gm_sz (gm_p_goto (pc := 30) (off := 4) (by decide +kernel) (by decide)) ?_
      refine gm_sz (gm_p_const (pc := 34) (i := .iconst 2) (v := gm_vi 2) (by decide +kernel) (by decide +kernel)) ?_
      refine gm_c_virt (k := 226) (ci := 11) (mj := 282) (ix := 300) (pc := 35) (as := [gm_vi 1, gm_vi 2]) (st := []) (d' := d - 1) (bc' := 0) (bs' := 0) (by decide +kernel) (by decide +kernel) (by decide +kernel) (by decide +kernel) (e0k hE (k := 226) (c := 11) (by decide +kernel)).1 (e0k hE (k := 226) (c := 11) (by decide +kernel)).2 (by decide) (by decide +kernel) (show 2 = gm_na 282 by decide +kernel) (fw_c2 fw_si fw_si) (show 3 ≤ gm_ml 282 by decide +kernel) (Nat.le_of_ble_eq_true rfl) (by omega) (Nat.zero_le _) (Nat.zero_le _) ?_
      refine tf_1 hE ?_
      show gm_Wp X LX d _ _ 308 38 _ [gm_vi 1] n K _ _ Q
      refine fw_iffd (cc := .eq) (pc := 38) (off := 5) (by decide +kernel) (by decide) ⟨by decide, by decide⟩ (by decide) ?_
      refine gm_sz (gm_p_const (pc := 41) (i := .iconst 0) (v := gm_vi 0) (by decide +kernel) (by decide +kernel)) ?_
      exact gm_r_int (pc := 42) (by decide +kernel) (Or.inl (by decide +kernel)) (k2 (by omega) _ uM_at)
theorem re_letterx (hd : 24 ≤ d) (hE : E0 n K R) (hT : TR N h M) (hN : NR N) (hl : ¬ (0 ≤ l ∧ l < N 4)) (hi : gm_ir l) (k1 : ∀ M2, M2 226 0 = 1 → Q (.inl (some (gm_vi 0))) n K R M2) : gm_Wp X LX d bc bs 308 0 (gm_ent 308 [gm_vr 226, gm_vi l, gm_vi w]) [] n K R M Q := by
  obtain ⟨⟨⟨a0, b0⟩, ⟨a1, b1⟩, ⟨a10, b10⟩, ⟨a11, b11⟩, ⟨a12, b12⟩, a9, b9⟩, ⟨⟨a2, b2⟩, ⟨a5, b5⟩, ⟨a3, b3⟩, ⟨a4, b4⟩, ⟨a6, b6⟩, ⟨a14, b14⟩, ⟨a7, b7⟩, a13, b13⟩, rF, rP, rL⟩ := id hN
  refine gm_sz (gm_p_load (pc := 0) (i := .aload_n 0) (sr := 2) (j := 0) (by decide +kernel) rfl rfl rfl) ?_
  refine gm_sz (gm_p_const (pc := 1) (i := .iconst 0) (v := gm_vi 0) (by decide +kernel) (by decide +kernel)) ?_
  refine gm_sz (fw_pi (pc := 2) (ix := 3) (ci := 11) (j := 0) (M' := gm_uM M 226 0 0) (by decide +kernel) (e0k hE (k := 226) (c := 11) (by decide +kernel)) (by decide +kernel) (by decide +kernel) (by decide +kernel) rfl) ?_
  refine gm_sz (gm_p_load (pc := 5) (i := .aload_n 0) (sr := 2) (j := 0) (by decide +kernel) rfl rfl rfl) ?_
  refine gm_sz (gm_p_load (pc := 6) (i := .aload_n 0) (sr := 2) (j := 0) (by decide +kernel) rfl rfl rfl) ?_
  refine gm_sz (gm_p_load (pc := 7) (i := .iload_n 1) (sr := 0) (j := 1) (by decide +kernel) rfl rfl rfl) ?_
  refine gm_c_virt (k := 226) (ci := 11) (mj := 309) (ix := 405) (pc := 8) (as := [gm_vi l]) (st := [gm_vr 226]) (d' := d - 1) (bc' := 0) (bs' := 0) (by decide +kernel) (by decide +kernel) (by decide +kernel) (by decide +kernel) (e0k hE (k := 226) (c := 11) (by decide +kernel)).1 (e0k hE (k := 226) (c := 11) (by decide +kernel)).2 (by decide) (by decide +kernel) (show 1 = gm_na 309 by decide +kernel) (fw_c1 fw_si) (show 2 ≤ gm_ml 309 by decide +kernel) (Nat.le_of_ble_eq_true rfl) (by omega) (Nat.zero_le _) (Nat.zero_le _) ?_
  refine no_309 (i := l) (by omega) hE (tr_fr (W := [(226, some 0)]) hT (fr_p fr_0 (Or.inr (by decide))) (by decide)) hN hi (fun n8 => ?_) (fun n8 => ?_)
  · show gm_Wp X LX d _ _ 308 11 _ [gm_vi 1, gm_vr 226] n K _ _ Q
    have n8 : ¬ (0 ≤ l ∧ l < N 4) := n8
    refine gm_sz (gm_p_const (pc := 11) (i := .iconst 1) (v := gm_vi 1) (by decide +kernel) (by decide +kernel)) ?_
    refine gm_c_virt (k := 226) (ci := 11) (mj := 282) (ix := 300) (pc := 12) (as := [gm_vi 1, gm_vi 1]) (st := []) (d' := d - 1) (bc' := 0) (bs' := 0) (by decide +kernel) (by decide +kernel) (by decide +kernel) (by decide +kernel) (e0k hE (k := 226) (c := 11) (by decide +kernel)).1 (e0k hE (k := 226) (c := 11) (by decide +kernel)).2 (by decide) (by decide +kernel) (show 2 = gm_na 282 by decide +kernel) (fw_c2 fw_si fw_si) (show 3 ≤ gm_ml 282 by decide +kernel) (Nat.le_of_ble_eq_true rfl) (by omega) (Nat.zero_le _) (Nat.zero_le _) ?_
    refine tf_1 hE ?_
    show gm_Wp X LX d _ _ 308 15 _ [gm_vi 1] n K _ _ Q
    refine fw_iftd (cc := .ne) (pc := 15) (off := 26) (by decide +kernel) (by decide) ⟨by decide, by decide⟩ (by decide) ?_
    refine gm_sz (gm_p_const (pc := 41) (i := .iconst 0) (v := gm_vi 0) (by decide +kernel) (by decide +kernel)) ?_
    exact gm_r_int (pc := 42) (by decide +kernel) (Or.inl (by decide +kernel)) (k1 _ uM_at)
  · show gm_Wp X LX d _ _ 308 11 _ [gm_vi 0, gm_vr 226] n K _ _ Q
    have n8 : 0 ≤ l ∧ l < N 4 := n8
    refine gm_sz (gm_p_const (pc := 11) (i := .iconst 1) (v := gm_vi 1) (by decide +kernel) (by decide +kernel)) ?_
    refine gm_c_virt (k := 226) (ci := 11) (mj := 282) (ix := 300) (pc := 12) (as := [gm_vi 0, gm_vi 1]) (st := []) (d' := d - 1) (bc' := 0) (bs' := 0) (by decide +kernel) (by decide +kernel) (by decide +kernel) (by decide +kernel) (e0k hE (k := 226) (c := 11) (by decide +kernel)).1 (e0k hE (k := 226) (c := 11) (by decide +kernel)).2 (by decide) (by decide +kernel) (show 2 = gm_na 282 by decide +kernel) (fw_c2 fw_si fw_si) (show 3 ≤ gm_ml 282 by decide +kernel) (Nat.le_of_ble_eq_true rfl) (by omega) (Nat.zero_le _) (Nat.zero_le _) ?_
    refine tf_0 hE ?_
    show gm_Wp X LX d _ _ 308 15 _ [gm_vi 0] n K _ _ Q
    refine fw_iffd (cc := .ne) (pc := 15) (off := 26) (by decide +kernel) (by decide) ⟨by decide, by decide⟩ (by decide) ?_
    exact absurd n8 hl
end LT56
section LT56B
variable {X : Int → Int} {LX d bc bs n g z g1 : Nat} {la : Nat → Nat} {K : gm_K} {R : gm_R} {M : gm_M} {N : Int → Int} {lw : Option (List lln)} {A : List (Int → Int)} {im : Option ((Int → Int) × Option (List lln))} {t w : Int} {f : Int → Int} {a b c e : Int} {NC : Nat} {C Ln G : Int → Int}
noncomputable def q_letter (lw : Option (List lln)) (N : Int → Int) (a : Int) (b : Int) : Int × Int := tif (¬ (0 ≤ a ∧ a < N 4)) (1, 0) (tif (¬ (0 ≤ b ∧ b ≤ 9)) (2, 0) (tif (b < 7) (0, (N (119 + (a * 7 + b)))) (tif (b = 7) (0, ao lw N a) (tif (b = 8 ∧ ao lw N a = -1) (0, (-1)) (tif (b = 8) (0, adp N (hts (N 13)) (aphi lw N (hts (N 13))) a) (0, fbare N (hts (N 13)) (aphi lw N (hts (N 13))) a))))))
theorem iq_letter : gm_ir (q_letter lw N a b).1 := by
  unfold q_letter
  exact tif_ir (show (-2147483648 : Int) ≤ 1 ∧ (1 : Int) < 2147483648 from by decide) (tif_ir (show (-2147483648 : Int) ≤ 2 ∧ (2 : Int) < 2147483648 from by decide) (tif_ir (show (-2147483648 : Int) ≤ 0 ∧ (0 : Int) < 2147483648 from by decide) (tif_ir (show (-2147483648 : Int) ≤ 0 ∧ (0 : Int) < 2147483648 from by decide) (tif_ir (show (-2147483648 : Int) ≤ 0 ∧ (0 : Int) < 2147483648 from by decide) (tif_ir (show (-2147483648 : Int) ≤ 0 ∧ (0 : Int) < 2147483648 from by decide) ((show (-2147483648 : Int) ≤ 0 ∧ (0 : Int) < 2147483648 from by decide)))))))
theorem cq_letter (hd : 24 ≤ d) (hbc : 4 ≤ bc) (hbs : 24 ≤ bs) (hE : E0 n K R) (hn : 245 ≤ n) (hK : K 245 = (2, 1)) (hc : CC n K R NC C Ln G lw) (hL : LBX NC C Ln lw M) (hG : GJ N) (hV : CLV N lw A im t w f M) (ia : gm_ir a) (ib : gm_ir b) : gm_Wp X LX d bc bs 142 0 (gm_ent 142 [gm_vr 1, gm_vi a, gm_vi b]) [] n K R M (hQ [(3, 1), (4, 2)] (CF (q_letter lw N a b).1 (oV (q_letter lw N a b).1 (q_letter lw N a b).2))) := by
  by_cases hl : 0 ≤ a ∧ a < N 4
  · exact cl_letter (o := ao lw N) (dd := adp N (hts (N 13)) (aphi lw N (hts (N 13)))) hd hbc hbs hE hV.1.1 hG.1.1 (flw_a hE hc hG.1.1 hG.1.2.1) (fic_of hL hV) (fun l _ _ => aout_s l) hl ib (fun h h2 M2 => hQ_v hn hK (cf_v hK ((tif_f (fun hh => hh hl)).trans ((tif_f (fun hh => hh ⟨by omega, by omega⟩)).trans (tif_t (show b < 7 by omega)))) rfl)) (fun h2 M2 => hQ_v hn hK (cf_v hK ((tif_f (fun hh => hh hl)).trans ((tif_f (fun hh => hh ⟨by omega, by omega⟩)).trans ((tif_f (show ¬ b < 7 by omega)).trans (tif_t h2)))) rfl)) (fun h2 h3 M2 => hQ_v hn hK (cf_v hK ((tif_f (fun hh => hh hl)).trans ((tif_f (fun hh => hh ⟨by omega, by omega⟩)).trans ((tif_f (show ¬ b < 7 by omega)).trans ((tif_f (show ¬ b = 7 by omega)).trans (tif_t ⟨h2, h3⟩))))) rfl)) (fun h2 h3 M2 => hQ_v hn hK (cf_v hK ((tif_f (fun hh => hh hl)).trans ((tif_f (fun hh => hh ⟨by omega, by omega⟩)).trans ((tif_f (show ¬ b < 7 by omega)).trans ((tif_f (show ¬ b = 7 by omega)).trans ((tif_f (fun hh => h3 hh.2)).trans (tif_t h2)))))) rfl)) (fun h2 v hv M2 => hQ_v hn hK (cf_v hK ((tif_f (fun hh => hh hl)).trans ((tif_f (fun hh => hh ⟨by omega, by omega⟩)).trans ((tif_f (show ¬ b < 7 by omega)).trans ((tif_f (show ¬ b = 7 by omega)).trans ((tif_f (fun hh => by omega)).trans ((tif_f (show ¬ b = 8 by omega)).trans (congrArg (Prod.mk 0) (FBR_u (hG.1.1.2.2.2.2 a hl.1 hl.2).2.2.2.1.1 fbare_s hv)))))))) rfl)) (fun h => hQ_x hn hK (c := 2) (by decide) (cf_x hK ((tif_f (fun hh => hh hl)).trans (tif_t h)) (by decide)))
  · exact cl_letterx hd hbc hbs hE hV.1.1 hG.1.1 hl ia (hQ_x hn hK (c := 1) (by decide) (cf_x hK (tif_t hl) (by decide)))
theorem rq_letter (hd : 24 ≤ d) (hE : E0 n K R) (hT : jT fun j => M 227 (395 + j)) (hS6 : NSb 6 N) (hG : GJ N) (hV : RFV N lw A im t w f M) (ia : gm_ir a) (ib : gm_ir b) : gm_Wp X LX d bc bs 308 0 (gm_ent 308 [gm_vr 226, gm_vi a, gm_vi b]) [] n K R M (RF (q_letter lw N a b).1 (q_letter lw N a b).2) := by
  have k226 := k226 hE
  by_cases hl : 0 ≤ a ∧ a < N 4
  · exact re_letter (o := ao lw N) (dd := adp N (hts (N 13)) (aphi lw N (hts (N 13)))) hd hE hV.1.1 hG.1.1 (flr_a hE (lawg_of hV.1.2.1 hT) hgeo_r hG.1.1 hG.1.1 hS6) ⟨hV.2.1, fun _ _ => rfl⟩ (fun l _ _ => aout_s l) hl ib (fun h h2 M2 h0 => rf_e k226 ((tif_f (fun hh => hh hl)).trans ((tif_f (fun hh => hh ⟨by omega, by omega⟩)).trans (tif_t (show b < 7 by omega)))) (fun _ => rfl) h0) (fun h2 M2 h0 => rf_e k226 ((tif_f (fun hh => hh hl)).trans ((tif_f (fun hh => hh ⟨by omega, by omega⟩)).trans ((tif_f (show ¬ b < 7 by omega)).trans (tif_t h2)))) (fun _ => rfl) h0) (fun h2 h3 M2 h0 => rf_e k226 ((tif_f (fun hh => hh hl)).trans ((tif_f (fun hh => hh ⟨by omega, by omega⟩)).trans ((tif_f (show ¬ b < 7 by omega)).trans ((tif_f (show ¬ b = 7 by omega)).trans (tif_t ⟨h2, h3⟩))))) (fun _ => rfl) h0) (fun h2 h3 M2 h0 => rf_e k226 ((tif_f (fun hh => hh hl)).trans ((tif_f (fun hh => hh ⟨by omega, by omega⟩)).trans ((tif_f (show ¬ b < 7 by omega)).trans ((tif_f (show ¬ b = 7 by omega)).trans ((tif_f (fun hh => h3 hh.2)).trans (tif_t h2)))))) (fun _ => rfl) h0) (fun h2 v hv M2 h0 => rf_e k226 ((tif_f (fun hh => hh hl)).trans ((tif_f (fun hh => hh ⟨by omega, by omega⟩)).trans ((tif_f (show ¬ b < 7 by omega)).trans ((tif_f (show ¬ b = 7 by omega)).trans ((tif_f (fun hh => by omega)).trans ((tif_f (show ¬ b = 8 by omega)).trans (congrArg (Prod.mk 0) (FBR_u (hG.1.1.2.2.2.2 a hl.1 hl.2).2.2.2.1.1 fbare_s hv)))))))) (fun _ => rfl) h0) (fun h M2 h0 => rf_e k226 ((tif_f (fun hh => hh hl)).trans (tif_t h)) (fun e => absurd e (by decide)) h0)
  · exact re_letterx hd hE hV.1.1 hG.1.1 hl ia (fun M2 h0 => rf_e k226 (tif_t hl) (fun e => absurd e (by decide)) h0)
theorem fw_letter (hb : bg g la K R M) (hR : REL la K M N lw A im t w f) (ia : gm_ir a) (ib : gm_ir b) : ∀ z g1, bs_ok la z g1 → ¬ z = 100003 → gm_Wp X LX 279 6 600 141 0 (gm_ent 141 (gm_vr 1 :: bc_as [a, b] true)) [] (245 + 4 * g1) (bs_K la K) (bs_R z g1) (bs_M la M) (CF (q_letter lw N a b).1 (oV (q_letter lw N a b).1 (q_letter lw N a b).2)) := by
  intro z g1 hz hz3
  have hE := e0_w hb hz
  obtain ⟨NC, C, Ln, hcc, hlb⟩ := cc_w hb hz hz3 hR.2.1.1 hR.2.2.2.1.2.1
  exact hl_141 (d := 278) (k1_e hE) (cq_letter (by decide) (by decide) (by decide) hE (k245 hE).1 (k245 hE).2 hcc hlb hR.1.1 (clv_w hb hR.2.2.1) ia ib)
theorem fm_letter (hb : bg g la K R M) (hR : REL la K M N lw A im t w f) (ia : gm_ir a) (ib : gm_ir b) : gm_Wp X LX 279 6 600 308 0 (gm_ent 308 (gm_vr 226 :: [a, b].map gm_vi)) [] 245 (bs_K la K) (bs_R 100003 0) (bs_M la M) (RF (q_letter lw N a b).1 (q_letter lw N a b).2) := rq_letter (by decide) (e0_w hb (Or.inr (Or.inl ⟨rfl, rfl⟩))) (gJ_w hb) (ns6 (bs_F0 (z := 100003) hb) (rfv_w (la := la) hR.2.2.2).1.1.1 hR.1.1.1.1) hR.1.1 (rfv_w hR.2.2.2) ia ib
end LT56B
