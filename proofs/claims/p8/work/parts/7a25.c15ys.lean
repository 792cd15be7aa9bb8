/-! 7a25.c15ys -/
section
/-! THE CLASS: years, undo, back (laid by wip/core/c15.py). -/
section YS15
variable {X : Int → Int} {LX d bc bs n : Nat} {K : gm_K} {R : gm_R} {M : gm_M} {Q : gm_Q} {l p f t v w y : Int} {N NI h : Int → Int} {sp : Int → Int → Int} {FI : gm_M → Prop} {φ : Int → Int → Int → Int} {Ψ : (Int → Int) → Int → Int → Int → Int → Prop} {o dd : Int → Int} {A : List (Int → Int)}
/-- k YEARS more: the world, how many opened -/
noncomputable def yrs (Ψ : (Int → Int) → Int → Int → Int → Int → Prop) (o dd : Int → Int) (s : (Int → Int) × Int) : Nat → (Int → Int) × Int
  | 0 => s
  | k + 1 => ((yrun Ψ o dd (nyr (yrs Ψ o dd s k).1, 0) ((yrs Ψ o dd s k).1 4).toNat).1, (yrs Ψ o dd s k).2 + (yrun Ψ o dd (nyr (yrs Ψ o dd s k).1, 0) ((yrs Ψ o dd s k).1 4).toNat).2)
theorem ym_9 (hN : NR N) (hg : LOGI N) {s0 : Int} (h0 : 0 ≤ s0) : ∀ k : Nat, (k : Int) ≤ N 4 → (yrun Ψ o dd (N, s0) k).1 9 = N 9 := by
  intro k
  induction k with
  | zero => exact fun _ => rfl
  | succ k ih =>
    intro hk
    have i9 := ih (by omega)
    obtain ⟨i1, i2, i3, i4, i5, i6⟩ := ym_i (Ψ := Ψ) (o := o) (dd := dd) hN hg h0 k (by omega)
    show (ystep Ψ o dd (k : Int) (yrun Ψ o dd (N, s0) k)).1 9 = N 9
    generalize yrun Ψ o dd (N, s0) k = s at i1 i2 i3 i4 i5 i6 i9 ⊢
    unfold ystep
    by_cases h : WTS s.1 (k : Int) (o (k : Int)) ∧ ¬ opf s.1 (Ψ s.1) (k : Int) (dd (k : Int)) = -1
    · rw [tif_t h]
      have hl : 0 ≤ (k : Int) ∧ (k : Int) < s.1 4 := ⟨by omega, by omega⟩
      have b4 := i1.2.1.2.2.2.1
      have ho := logi_lt i1 i2 hl h.1.2.1
      exact (nopn_o (i := 9) (by decide) (by decide) ⟨hl.1, by omega⟩ ho).trans i9
    · rw [tif_f h]
      exact i9
/-- what years keep -/
theorem yrs_i (hN : NR N) (hg : LOGI N) : ∀ k : Nat, N 9 + (k : Int) ≤ 299 → NR (yrs Ψ o dd (N, 0) k).1 ∧ LOGI (yrs Ψ o dd (N, 0) k).1 ∧ geo N (yrs Ψ o dd (N, 0) k).1 ∧ (yrs Ψ o dd (N, 0) k).1 4 = N 4 ∧ (yrs Ψ o dd (N, 0) k).1 9 = N 9 + (k : Int) ∧ 0 ≤ (yrs Ψ o dd (N, 0) k).2 ∧ (yrs Ψ o dd (N, 0) k).2 ≤ 24 * (k : Int) := by
  intro k
  induction k with
  | zero => exact fun _ => ⟨hN, hg, geo_r, rfl, by show N 9 = N 9 + ((0 : Nat) : Int); omega, Int.le_refl _, by show (0 : Int) ≤ 24 * ((0 : Nat) : Int); omega⟩
  | succ k ih =>
    intro hk
    obtain ⟨i1, i2, i3, i4, i5, i6, i7⟩ := ih (by omega)
    show NR (yrun Ψ o dd (nyr (yrs Ψ o dd (N, 0) k).1, 0) ((yrs Ψ o dd (N, 0) k).1 4).toNat).1 ∧ LOGI (yrun Ψ o dd (nyr (yrs Ψ o dd (N, 0) k).1, 0) ((yrs Ψ o dd (N, 0) k).1 4).toNat).1 ∧ geo N (yrun Ψ o dd (nyr (yrs Ψ o dd (N, 0) k).1, 0) ((yrs Ψ o dd (N, 0) k).1 4).toNat).1 ∧ (yrun Ψ o dd (nyr (yrs Ψ o dd (N, 0) k).1, 0) ((yrs Ψ o dd (N, 0) k).1 4).toNat).1 4 = N 4 ∧ (yrun Ψ o dd (nyr (yrs Ψ o dd (N, 0) k).1, 0) ((yrs Ψ o dd (N, 0) k).1 4).toNat).1 9 = N 9 + ((k + 1 : Nat) : Int) ∧ 0 ≤ (yrs Ψ o dd (N, 0) k).2 + (yrun Ψ o dd (nyr (yrs Ψ o dd (N, 0) k).1, 0) ((yrs Ψ o dd (N, 0) k).1 4).toNat).2 ∧ (yrs Ψ o dd (N, 0) k).2 + (yrun Ψ o dd (nyr (yrs Ψ o dd (N, 0) k).1, 0) ((yrs Ψ o dd (N, 0) k).1 4).toNat).2 ≤ 24 * ((k + 1 : Nat) : Int)
    generalize yrs Ψ o dd (N, 0) k = s at i1 i2 i3 i4 i5 i6 i7 ⊢
    have b4 := i1.2.1.2.2.2.1
    have e4 : nyr s.1 4 = s.1 4 := nup_ne (by decide)
    obtain ⟨j1, j2, j3, j4, j5, j6⟩ := ym_i (Ψ := Ψ) (o := o) (dd := dd) (nr_nyr i1 (by omega)) (logi_nyr i2) (Int.le_refl 0) (s.1 4).toNat (by rw [e4]; omega)
    have j9 := ym_9 (Ψ := Ψ) (o := o) (dd := dd) (nr_nyr i1 (by omega)) (logi_nyr i2) (s0 := 0) (Int.le_refl 0) (s.1 4).toNat (by rw [e4]; omega)
    have e9 : nyr s.1 9 = s.1 9 + 1 := nup_at
    exact ⟨j1, j2, geo_t i3 (geo_t geo_nyr j3), by rw [j4, e4]; exact i4, by rw [j9, e9, i5]; omega, by omega, by omega⟩

theorem ys_l (hd : 7 ≤ d) (hE : E0 n K R) (hT : TI N h sp M) (hN : NR N) (hg : LOGI N) (hst : FSt FI) (hmo : ∀ N2, geo N N2 → NR N2 → MOW X LX n K R N2 h sp FI (Ψ N2)) (hI : FI M) (hen : ENF N o dd M) (hv : 0 ≤ v ∧ v ≤ 50 ∧ v + N 9 ≤ 299) (hq : ∀ M2, fr [(3, some 6), (11, none), (14, some 3), (15, none), (204, none)] M M2 → cs M2 3 = (yrs Ψ o dd (N, 0) v.toNat).1 → Q (.inl (some (gm_vi (yrs Ψ o dd (N, 0) v.toNat).2))) n K R M2) : ∀ (u k : Nat) (M1 : gm_M), (k : Int) + (u : Int) = v → fr [(3, some 6), (11, none), (14, some 3), (15, none), (204, none)] M M1 → cs M1 3 = (yrs Ψ o dd (N, 0) k).1 → gm_Wp X LX d bc bs 161 56 [some (gm_vr 1), some (gm_vi v), some (gm_vi ((yrs Ψ o dd (N, 0) k).2)), some (gm_vi (k : Int))] [] n K R M1 Q := by
  intro u
  induction u with
  | zero =>
    intro k M1 hk hf hc
    have ek : v.toNat = k := by omega
    rw [ek] at hq
    refine gm_sz (gm_p_load (pc := 56) (i := .iload_n 3) (sr := 0) (j := 3) (by decide +kernel) rfl rfl rfl) ?_
    refine gm_sz (gm_p_load (pc := 57) (i := .iload_n 1) (sr := 0) (j := 1) (by decide +kernel) rfl rfl rfl) ?_
    refine fw_ict (cc := .ge) (pc := 58) (off := 16) (by decide +kernel) (by decide) ⟨by omega, by omega⟩ ⟨by omega, by omega⟩ (show v ≤ (k : Int) by omega) ?_
    refine gm_sz (gm_p_load (pc := 74) (i := .iload_n 2) (sr := 0) (j := 2) (by decide +kernel) rfl rfl rfl) ?_
    exact gm_r_int (pc := 75) (by decide +kernel) (Or.inl (by decide +kernel)) (hq M1 hf hc)
  | succ u ih =>
    intro k M1 hk hf hc
    obtain ⟨i1, i2, i3, i4, i5, i6, i7⟩ := yrs_i (Ψ := Ψ) (o := o) (dd := dd) hN hg k (by omega)
    have t1 : TI (yrs Ψ o dd (N, 0) k).1 h sp M1 := ti_geo i3 hT (cst_fr hT.1 hf (by decide +kernel)) hc (fun a j a1 a2 => hf a j (fun hm => by simp at hm; omega) (fun hm => by simp at hm; omega))
    have en : ENF (yrs Ψ o dd (N, 0) k).1 o dd M1 := ⟨by rw [i4]; exact (fr_c hf (by decide)).trans hen.1, fun l l0 l1 => by
      rw [i4] at l1
      obtain ⟨a, b, c⟩ := hen.2 l l0 l1
      exact ⟨(fr_c hf (by decide)).trans a, (fr_c hf (by decide)).trans b, c⟩⟩
    refine gm_sz (gm_p_load (pc := 56) (i := .iload_n 3) (sr := 0) (j := 3) (by decide +kernel) rfl rfl rfl) ?_
    refine gm_sz (gm_p_load (pc := 57) (i := .iload_n 1) (sr := 0) (j := 1) (by decide +kernel) rfl rfl rfl) ?_
    refine fw_icf (cc := .ge) (pc := 58) (off := 16) (by decide +kernel) (by decide) ⟨by omega, by omega⟩ ⟨by omega, by omega⟩ (show ¬ v ≤ (k : Int) by omega) ?_
    refine gm_sz (gm_p_load (pc := 61) (i := .iload_n 2) (sr := 0) (j := 2) (by decide +kernel) rfl rfl rfl) ?_
    refine gm_sz (gm_p_load (pc := 62) (i := .aload_n 0) (sr := 2) (j := 0) (by decide +kernel) rfl rfl rfl) ?_
    refine gm_c_virt (k := 1) (ci := 0) (mj := 162) (ix := 274) (pc := 63) (as := []) (st := [gm_vi ((yrs Ψ o dd (N, 0) k).2)]) (d' := d - 1) (bc' := 0) (bs' := 0) (by decide +kernel) (by decide +kernel) (by decide +kernel) (by decide +kernel) (e0k hE (k := 1) (c := 0) (by decide +kernel)).1 (e0k hE (k := 1) (c := 0) (by decide +kernel)).2 (by decide) (by decide +kernel) (show 0 = gm_na 162 by decide +kernel) fw_c0 (show 1 ≤ gm_ml 162 by decide +kernel) (Nat.le_of_ble_eq_true rfl) (by omega) (Nat.zero_le _) (Nat.zero_le _) ?_
    refine ym_c162 (by omega) hE t1 i1 i2 (by omega) hst (fun N2 g2 n2 => hmo N2 (geo_t i3 g2) n2) (hst [(3, some 6), (11, none), (14, some 3), (15, none), (204, none)] _ _ (by decide) hf hI) en (fun M9 hf9 hc9 => ?_)
    show gm_Wp X LX d _ _ 161 66 _ [gm_vi ((yrun Ψ o dd (nyr (yrs Ψ o dd (N, 0) k).1, 0) ((yrs Ψ o dd (N, 0) k).1 4).toNat).2), gm_vi ((yrs Ψ o dd (N, 0) k).2)] n K _ _ Q
    refine gm_sz (gm_p_bin (pc := 66) (i := .iadd) (f := fun x y => x + y) (by decide +kernel) rfl) ?_
    refine gm_sz (gm_p_stor (pc := 67) (i := .istore_n 2) (sr := 0) (j := 2) (by decide +kernel) rfl (show 3 ≤ _ from Nat.le_of_ble_eq_true rfl) rfl) ?_
    refine gm_sz (gm_p_iinc (pc := 68) (j := 3) (z := 1) (by decide +kernel) rfl) ?_
    refine gm_sz (gm_p_goto (pc := 71) (off := (-15)) (by decide +kernel) (by decide)) ?_
    have q := ih (k + 1) M9 (by omega) (fr_t (fr_t fr_0 hf (by decide)) hf9 (by decide)) hc9
    rwa [show ((k + 1 : Nat) : Int) = (k : Int) + 1 by omega] at q
theorem ends_e {M2 : gm_M} (he : ENDS N h φ M) (e : ∀ (x : Nat) (j : Int), 220 ≤ x → M2 x j = M x j) : ENDS N h φ M2 := ⟨by rw [e 220 3 (by decide)]; exact he.1, fun l l0 l1 => by rw [e 221 _ (by decide), e 221 _ (by decide)]; exact he.2 l l0 l1⟩
/-- years hang on the ends as far as these are told -/
theorem yrun_e {o2 dd2 : Int → Int} (hN : NR N) (hg : LOGI N) {s0 : Int} (h0 : 0 ≤ s0) (he : ∀ l, 0 ≤ l → l < N 4 → (o l = o2 l ∧ -1 ≤ o l) ∧ (0 ≤ o l → dd l = dd2 l)) : ∀ k : Nat, (k : Int) ≤ N 4 → yrun Ψ o dd (N, s0) k = yrun Ψ o2 dd2 (N, s0) k := by
  intro k
  induction k with
  | zero => exact fun _ => rfl
  | succ k ih =>
    intro hk
    obtain ⟨-, -, -, i4, -, -⟩ := ym_i (Ψ := Ψ) (o := o) (dd := dd) hN hg h0 k (by omega)
    show ystep Ψ o dd (k : Int) (yrun Ψ o dd (N, s0) k) = ystep Ψ o2 dd2 (k : Int) (yrun Ψ o2 dd2 (N, s0) k)
    rw [← ih (by omega)]
    generalize yrun Ψ o dd (N, s0) k = s at i4 ⊢
    obtain ⟨⟨a1, a0⟩, a2⟩ := he (k : Int) (by omega) (by omega)
    unfold ystep
    rw [← a1]
    by_cases h : WTS s.1 (k : Int) (o (k : Int))
    · rw [a2 (by have := h.2.2.1; have := h.2.2.2; omega)]
    · rw [tif_f (fun hh => h hh.1), tif_f (fun hh => h hh.1)]
theorem yrs_e {o2 dd2 : Int → Int} (hN : NR N) (hg : LOGI N) (he : ∀ l, 0 ≤ l → l < N 4 → (o l = o2 l ∧ -1 ≤ o l) ∧ (0 ≤ o l → dd l = dd2 l)) : ∀ k : Nat, N 9 + (k : Int) ≤ 299 → yrs Ψ o dd (N, 0) k = yrs Ψ o2 dd2 (N, 0) k := by
  intro k
  induction k with
  | zero => exact fun _ => rfl
  | succ k ih =>
    intro hk
    obtain ⟨i1, i2, i3, i4, i5, i6, i7⟩ := yrs_i (Ψ := Ψ) (o := o) (dd := dd) hN hg k (by omega)
    show ((yrun Ψ o dd (nyr (yrs Ψ o dd (N, 0) k).1, 0) ((yrs Ψ o dd (N, 0) k).1 4).toNat).1, (yrs Ψ o dd (N, 0) k).2 + (yrun Ψ o dd (nyr (yrs Ψ o dd (N, 0) k).1, 0) ((yrs Ψ o dd (N, 0) k).1 4).toNat).2) = ((yrun Ψ o2 dd2 (nyr (yrs Ψ o2 dd2 (N, 0) k).1, 0) ((yrs Ψ o2 dd2 (N, 0) k).1 4).toNat).1, (yrs Ψ o2 dd2 (N, 0) k).2 + (yrun Ψ o2 dd2 (nyr (yrs Ψ o2 dd2 (N, 0) k).1, 0) ((yrs Ψ o2 dd2 (N, 0) k).1 4).toNat).2)
    rw [← ih (by omega)]
    have b4 := i1.2.1.2.2.2.1
    have e4 : nyr (yrs Ψ o dd (N, 0) k).1 4 = (yrs Ψ o dd (N, 0) k).1 4 := nup_ne (by decide)
    rw [yrun_e (o2 := o2) (dd2 := dd2) (nr_nyr i1 (by omega)) (logi_nyr i2) (Int.le_refl 0) (fun l l0 l1 => he l l0 (by rw [e4, i4] at l1; exact l1)) _ (by rw [e4]; omega)]
theorem ac_161 (hd : 24 ≤ d) (hbc : 4 ≤ bc) (hbs : 24 ≤ bs) (hE : E0 n K R) (hT : TI N h sp M) (hN : NR N) (hg : LOGI N) (hH : HIS A M) (hfw : FLW X LX n K R N h sp FI φ) (hI : FI M) (hk : M 1 15 = 0 ∨ (M 1 15 = 1 ∧ ENDS N h φ M)) (hrr : ∀ M M2 : gm_M, (∀ (x : Nat) (j : Int), x < 42 ∨ 199 < x → M2 x j = M x j) → FI M → FI M2) (hfw2 : ∀ p : Nat, p < 12 → FLW X LX n K (gm_uR R (44 + 13 * p) 8 (R 3 8)) N h sp FI φ) (hmo : ∀ p : Nat, p < 12 → ∀ N2, geo N N2 → NR N2 → MOW X LX n K (gm_uR R (44 + 13 * p) 8 (R 3 8)) N2 h sp FI (Ψ N2)) (hy : gm_ir y) (ho : ∀ l, 0 ≤ l → l < N 4 → OUTR N h φ l (o l) (dd l)) (q0 : ¬ (1 ≤ y ∧ y ≤ 50 ∧ y ≤ 299 - N 9) → Q (.inr 0) n K R M) (hq : 1 ≤ y ∧ y ≤ 50 ∧ y ≤ 299 - N 9 → ∀ (p : Nat) (M1 M2 : gm_M), p < 12 → (M 42 1 = (p : Int) ∧ M2 42 1 = ((p : Int) + 1) % 12) → HIS ((N :: A).take 12) M2 → FI M2 → M2 1 15 = 1 → M2 220 3 = N 4 → (∀ l, 0 ≤ l → l < N 4 → OUTR N h φ l (M2 221 (l * 2 + 0)) (M2 221 (l * 2 + 1))) → CST M2 → cs M2 3 = (yrs Ψ o dd (N, 0) y.toNat).1 → (∀ (x : Nat) (j : Int), x < 42 ∨ 199 < x → M1 x j = M x j) → fr [(206, some 2), (206, some 3), (206, some 4), (206, some 5), (206, some 6), (206, some 7), (206, some 8), (200, some 6), (204, none), (205, none), (220, some 3), (221, none), (1, some 15), (3, some 6), (11, none), (14, some 3), (15, none), (204, none)] M1 M2 → Q (.inl (some (gm_vi (yrs Ψ o dd (N, 0) y.toNat).2))) n K (gm_uR R (44 + 13 * p) 8 (R 3 8)) M2) : gm_Wp X LX d bc bs 161 0 (gm_ent 161 [gm_vr 1, gm_vi y]) [] n K R M Q := by
  obtain ⟨⟨⟨a0, b0⟩, ⟨a1, b1⟩, ⟨a10, b10⟩, ⟨a11, b11⟩, ⟨a12, b12⟩, a9, b9⟩, ⟨⟨a2, b2⟩, ⟨a5, b5⟩, ⟨a3, b3⟩, ⟨a4, b4⟩, ⟨a6, b6⟩, ⟨a14, b14⟩, ⟨a7, b7⟩, a13, b13⟩, rF, rP, rL⟩ := id hN
  refine gm_sz (gm_p_load (pc := 0) (i := .iload_n 1) (sr := 0) (j := 1) (by decide +kernel) rfl rfl rfl) ?_
  refine gm_sz (gm_p_const (pc := 1) (i := .iconst 1) (v := gm_vi 1) (by decide +kernel) (by decide +kernel)) ?_
  refine fw_ic (cc := .lt) (pc := 2) (off := 24) (by decide +kernel) (by decide) hy ⟨by decide, by decide⟩ (fun h2 => ?_) (fun h2 => ?_)
  · have h2 : y < 1 := h2
    exact gm_throw (ik := 121) (is := 272) (ic := 125) (x := 0) (id := 39) (lw := true) (by decide +kernel) (by decide +kernel) (by decide +kernel) (by decide +kernel) (by decide +kernel) (by decide +kernel) (by decide +kernel) (by decide +kernel) (Nat.le_of_ble_eq_true rfl) (by omega) (by omega) (by omega) (q0 (by omega))
  · have h2 : ¬ y < 1 := h2
    refine gm_sz (gm_p_load (pc := 5) (i := .iload_n 1) (sr := 0) (j := 1) (by decide +kernel) rfl rfl rfl) ?_
    refine gm_sz (gm_p_const (pc := 6) (i := .bipush 50) (v := gm_vi 50) (by decide +kernel) (by decide +kernel)) ?_
    refine fw_ic (cc := .gt) (pc := 8) (off := 18) (by decide +kernel) (by decide) hy ⟨by decide, by decide⟩ (fun h8 => ?_) (fun h8 => ?_)
    · have h8 : 50 < y := h8
      exact gm_throw (ik := 121) (is := 272) (ic := 125) (x := 0) (id := 39) (lw := true) (by decide +kernel) (by decide +kernel) (by decide +kernel) (by decide +kernel) (by decide +kernel) (by decide +kernel) (by decide +kernel) (by decide +kernel) (Nat.le_of_ble_eq_true rfl) (by omega) (by omega) (by omega) (q0 (by omega))
    · have h8 : ¬ 50 < y := h8
      refine gm_sz (gm_p_load (pc := 11) (i := .iload_n 1) (sr := 0) (j := 1) (by decide +kernel) rfl rfl rfl) ?_
      refine gm_sz (gm_p_const (pc := 12) (i := .sipush 299) (v := gm_vi 299) (by decide +kernel) (by decide +kernel)) ?_
      refine gm_sz (gm_p_load (pc := 15) (i := .aload_n 0) (sr := 2) (j := 0) (by decide +kernel) rfl rfl rfl) ?_
      refine gm_sz (fw_gr (pc := 16) (ix := 23) (ci := 0) (j := 3) (r := 3) (by decide +kernel) (e0k hE (k := 1) (c := 0) (by decide +kernel)) (by decide +kernel) (by decide +kernel) (e0r hE (k := 1) (j := 3) (r := 3) (by decide +kernel))) ?_
      refine gm_sz (fw_gi (pc := 19) (ix := 269) (ci := 1) (j := 6) (x := N 9) (by decide +kernel) (e0k hE (k := 3) (c := 1) (by decide +kernel)) (by decide +kernel) (by decide +kernel) (ti_now hT)) ?_
      refine gm_sz (gm_p_bin (pc := 22) (i := .isub) (f := fun x y => x - y) (by decide +kernel) rfl) ?_
      refine fw_ic (cc := .le) (pc := 23) (off := 14) (by decide +kernel) (by decide) hy ⟨by omega, by omega⟩ (fun h23 => ?_) (fun h23 => ?_)
      · have h23 : y ≤ (299 - (N 9)) := h23
        refine gm_sz (gm_p_load (pc := 37) (i := .aload_n 0) (sr := 2) (j := 0) (by decide +kernel) rfl rfl rfl) ?_
        refine gm_sz (fw_gr (pc := 38) (ix := 40) (ci := 0) (j := 7) (r := 42) (by decide +kernel) (e0k hE (k := 1) (c := 0) (by decide +kernel)) (by decide +kernel) (by decide +kernel) (e0r hE (k := 1) (j := 7) (r := 42) (by decide +kernel))) ?_
        refine gm_sz (gm_p_load (pc := 41) (i := .aload_n 0) (sr := 2) (j := 0) (by decide +kernel) rfl rfl rfl) ?_
        refine gm_sz (fw_gr (pc := 42) (ix := 23) (ci := 0) (j := 3) (r := 3) (by decide +kernel) (e0k hE (k := 1) (c := 0) (by decide +kernel)) (by decide +kernel) (by decide +kernel) (e0r hE (k := 1) (j := 3) (r := 3) (by decide +kernel))) ?_
        refine gm_c_virt (k := 42) (ci := 3) (mj := 154) (ix := 243) (pc := 45) (as := [gm_vr 3]) (st := []) (d' := d - 1) (bc' := 0) (bs' := 0) (by decide +kernel) (by decide +kernel) (by decide +kernel) (by decide +kernel) (e0k hE (k := 42) (c := 3) (by decide +kernel)).1 (e0k hE (k := 42) (c := 3) (by decide +kernel)).2 (by decide) (by decide +kernel) (show 1 = gm_na 154 by decide +kernel) (fw_c1 fw_sr) (show 2 ≤ gm_ml 154 by decide +kernel) (Nat.le_of_ble_eq_true rfl) (by omega) (Nat.zero_le _) (Nat.zero_le _) ?_
        refine rem_c154 (by omega) hE hT hN hH (fun p45 M45 hp45 hk45 hs45 ht45 hx45 => ?_)
        show gm_Wp X LX d _ _ 161 48 _ [] n K _ _ Q
        refine gm_sz (gm_p_load (pc := 48) (i := .aload_n 0) (sr := 2) (j := 0) (by decide +kernel) rfl rfl rfl) ?_
        refine gm_c_virt (k := 1) (ci := 0) (mj := 24) (ix := 254) (pc := 49) (as := []) (st := []) (d' := d - 1) (bc' := 0) (bs' := 0) (by decide +kernel) (by decide +kernel) (by decide +kernel) (by decide +kernel) (e0k hE (k := 1) (c := 0) (by decide +kernel)).1 (e0k hE (k := 1) (c := 0) (by decide +kernel)).2 (by decide) (by decide +kernel) (show 0 = gm_na 24 by decide +kernel) fw_c0 (show 1 ≤ gm_ml 24 by decide +kernel) (Nat.le_of_ble_eq_true rfl) (by omega) (Nat.zero_le _) (Nat.zero_le _) ?_
        refine en_c24 (by omega) (e0h hE (v := R 3 8) hp45) ht45 hN (hfw2 p45 hp45) (hrr M M45 hx45 hI) (by rw [hx45 1 15 (by decide)]; exact hk.elim (fun hk => by rw [hk]; exact ⟨by decide, by decide⟩) (fun hk => by rw [hk.1]; exact ⟨by decide, by decide⟩)) (fun hz => by rw [hx45 1 15 (by decide)] at hz ⊢; have hk2 := hk.resolve_left hz; exact ⟨hk2.1, ends_e hk2.2 (fun x j hx => hx45 x j (by omega))⟩) (fun M24 hf24 hI24 h24 he24 => ?_)
        show gm_Wp X LX d _ _ 161 52 _ [] n K _ _ Q
        refine gm_sz (gm_p_const (pc := 52) (i := .iconst 0) (v := gm_vi 0) (by decide +kernel) (by decide +kernel)) ?_
        refine gm_sz (gm_p_stor (pc := 53) (i := .istore_n 2) (sr := 0) (j := 2) (by decide +kernel) rfl (show 3 ≤ _ from Nat.le_of_ble_eq_true rfl) rfl) ?_
        refine gm_sz (gm_p_const (pc := 54) (i := .iconst 0) (v := gm_vi 0) (by decide +kernel) (by decide +kernel)) ?_
        refine gm_sz (gm_p_stor (pc := 55) (i := .istore_n 3) (sr := 0) (j := 3) (by decide +kernel) rfl (show 4 ≤ _ from Nat.le_of_ble_eq_true rfl) rfl) ?_
        have en : ENF N (fun l => M24 221 (l * 2 + 0)) (fun l => M24 221 (l * 2 + 1)) M24 := ⟨he24.1, fun l l0 l1 => ⟨rfl, rfl, OUTR_b (he24.2 l l0 l1) (rL l l0 l1).2.2.2.1.1⟩⟩
        have ey := yrs_e (Ψ := Ψ) (o := o) (dd := dd) (o2 := fun l => M24 221 (l * 2 + 0)) (dd2 := fun l => M24 221 (l * 2 + 1)) hN hg (fun l l0 l1 => by obtain ⟨a1, a2⟩ := OUTR_u (ho l l0 l1) (he24.2 l l0 l1); exact ⟨⟨a1, (OUTR_b (ho l l0 l1) (rL l l0 l1).2.2.2.1.1).1⟩, a2 (rL l l0 l1).2.2.2.1.1⟩) y.toNat (by omega)
        refine ys_l (Ψ := Ψ) (by omega) (e0h hE (v := R 3 8) hp45) (ti_fr (W := [(206, some 2), (206, some 3), (206, some 4), (206, some 5), (206, some 6), (206, some 7), (206, some 8), (200, some 6), (204, none), (205, none), (220, some 3), (221, none), (1, some 15)]) ht45 (fr_t fr_0 hf24 (by decide)) (by decide) (by decide +kernel)) hN hg (hfw2 p45 hp45).2.1 (hmo p45 hp45) hI24 en ⟨by omega, by omega, by omega⟩ (fun M2 hf2 hc2 => ?_) y.toNat 0 M24 (by omega) fr_0 (ti_fr (W := [(206, some 2), (206, some 3), (206, some 4), (206, some 5), (206, some 6), (206, some 7), (206, some 8), (200, some 6), (204, none), (205, none), (220, some 3), (221, none), (1, some 15)]) ht45 (fr_t fr_0 hf24 (by decide)) (by decide) (by decide +kernel)).2.1
        rw [← ey] at hc2 ⊢
        have hw2 : fr [(206, some 2), (206, some 3), (206, some 4), (206, some 5), (206, some 6), (206, some 7), (206, some 8), (200, some 6), (204, none), (205, none), (220, some 3), (221, none), (1, some 15), (3, some 6), (11, none), (14, some 3), (15, none), (204, none)] M45 M2 := fr_t (fr_t fr_0 hf24 (by decide)) hf2 (by decide)
        exact hq ⟨by omega, by omega, by omega⟩ p45 M45 M2 hp45 ⟨hk45.1, (fr_c hw2 (by decide)).trans hk45.2⟩ (his_w hs45 hw2 (by decide)) ((hfw2 p45 hp45).2.1 _ _ _ (by decide) hf2 hI24) ((fr_j hf2 (by decide)).trans h24) ((fr_c hf2 (by decide)).trans he24.1) (fun l l0 l1 => by rw [fr_c hf2 (show ([(3, some 6), (11, none), (14, some 3), (15, none), (204, none)]).all (fun w => !(w.1 == 221)) = true by decide), fr_c hf2 (show ([(3, some 6), (11, none), (14, some 3), (15, none), (204, none)]).all (fun w => !(w.1 == 221)) = true by decide)]; exact he24.2 l l0 l1) (cst_fr (ti_fr (W := [(206, some 2), (206, some 3), (206, some 4), (206, some 5), (206, some 6), (206, some 7), (206, some 8), (200, some 6), (204, none), (205, none), (220, some 3), (221, none), (1, some 15)]) ht45 (fr_t fr_0 hf24 (by decide)) (by decide) (by decide +kernel)).1 hf2 (by decide +kernel)) hc2 hx45 hw2
      · have h23 : ¬ y ≤ (299 - (N 9)) := h23
        exact gm_throw (ik := 121) (is := 272) (ic := 125) (x := 0) (id := 39) (lw := true) (by decide +kernel) (by decide +kernel) (by decide +kernel) (by decide +kernel) (by decide +kernel) (by decide +kernel) (by decide +kernel) (by decide +kernel) (Nat.le_of_ble_eq_true rfl) (by omega) (by omega) (by omega) (q0 (by omega))
theorem ac_54 (hd : 8 ≤ d) (hE : E0 n K R) (hT : TI N h sp M) (hN : NR N) (hH : HIS A M) (hA : ∀ N1 ∈ A, NR N1) (hq0 : A = [] → ∀ M2 : gm_M, fr [(1, some 15)] M M2 → M2 1 15 = 0 → Q (.inl (some (gm_vi 0))) n K R M2) (hq1 : ∀ (N0 : Int → Int) (A1 : List (Int → Int)) (p : Nat) (M2 : gm_M), A = N0 :: A1 → p < 12 → (M2 42 1 = (p : Int) ∧ M 42 1 = ((p : Int) + 1) % 12) → HIS A1 M2 → CST M2 → cs M2 3 = N0 → M2 1 15 = 0 → (∀ (x : Nat) (j : Int), x < 3 ∨ (15 < x ∧ ¬ x = 42) → ¬ (x = 1 ∧ j = 15) → M2 x j = M x j) → Q (.inl (some (gm_vi 1))) n K (gm_uR R 3 8 (R (44 + 13 * p) 8)) M2) : gm_Wp X LX d bc bs 54 0 (gm_ent 54 [gm_vr 1]) [] n K R M Q := by
  refine gm_sz (gm_p_load (pc := 0) (i := .aload_n 0) (sr := 2) (j := 0) (by decide +kernel) rfl rfl rfl) ?_
  refine gm_sz (gm_p_const (pc := 1) (i := .iconst 0) (v := gm_vi 0) (by decide +kernel) (by decide +kernel)) ?_
  refine gm_sz (fw_pz (pc := 2) (ix := 101) (ci := 0) (j := 15) (M' := gm_uM M 1 15 0) (by decide +kernel) (e0k hE (k := 1) (c := 0) (by decide +kernel)) (by decide +kernel) (by decide +kernel) (by decide +kernel) (Or.inl rfl) rfl) ?_
  refine gm_sz (gm_p_load (pc := 5) (i := .aload_n 0) (sr := 2) (j := 0) (by decide +kernel) rfl rfl rfl) ?_
  refine gm_sz (fw_gr (pc := 6) (ix := 40) (ci := 0) (j := 7) (r := 42) (by decide +kernel) (e0k hE (k := 1) (c := 0) (by decide +kernel)) (by decide +kernel) (by decide +kernel) (e0r hE (k := 1) (j := 7) (r := 42) (by decide +kernel))) ?_
  refine gm_sz (gm_p_load (pc := 9) (i := .aload_n 0) (sr := 2) (j := 0) (by decide +kernel) rfl rfl rfl) ?_
  refine gm_sz (fw_gr (pc := 10) (ix := 23) (ci := 0) (j := 3) (r := 3) (by decide +kernel) (e0k hE (k := 1) (c := 0) (by decide +kernel)) (by decide +kernel) (by decide +kernel) (e0r hE (k := 1) (j := 3) (r := 3) (by decide +kernel))) ?_
  refine gm_c_virt (k := 42) (ci := 3) (mj := 55) (ix := 419) (pc := 13) (as := [gm_vr 3]) (st := []) (d' := d - 1) (bc' := 0) (bs' := 0) (by decide +kernel) (by decide +kernel) (by decide +kernel) (by decide +kernel) (e0k hE (k := 42) (c := 3) (by decide +kernel)).1 (e0k hE (k := 42) (c := 3) (by decide +kernel)).2 (by decide) (by decide +kernel) (show 1 = gm_na 55 by decide +kernel) (fw_c1 fw_sr) (show 2 ≤ gm_ml 55 by decide +kernel) (Nat.le_of_ble_eq_true rfl) (by omega) (Nat.zero_le _) (Nat.zero_le _) ?_
  refine tb_c55 (by omega) hE (ti_fr (W := [(1, some 15)]) hT (fr_p fr_0 (Or.inr (by decide))) (by decide) (by decide +kernel)) (his_w (W := [(1, some 15)]) hH (fr_p fr_0 (Or.inr (by decide))) (by decide)) hA (fun ha9 => ?_) (fun N0 A1 p9 M9 ha9 hp9 hk9 hh9 hc9 hn9 hx9 => ?_)
  · show gm_Wp X LX d _ _ 54 16 _ [gm_vi 0] n K _ _ Q
    exact gm_r_int (pc := 16) (by decide +kernel) (Or.inr ⟨(by decide +kernel), Or.inl rfl⟩) (hq0 ha9 _ (fr_p fr_0 (Or.inr (by decide))) uM_at)
  · show gm_Wp X LX d _ _ 54 16 _ [gm_vi 1] n K _ _ Q
    exact gm_r_int (pc := 16) (by decide +kernel) (Or.inr ⟨(by decide +kernel), Or.inr rfl⟩) (hq1 N0 A1 p9 M9 ha9 hp9 ⟨hk9.1, (uM_ne (by decide)).symm.trans hk9.2⟩ hh9 hc9 hn9 ((hx9 1 15 (by decide)).trans uM_at) (fun x j hx h15 => (hx9 x j hx).trans (uM_ne (fun hh => h15 ⟨hh.1, hh.2⟩))))
theorem ac_60 (hd : 8 ≤ d) (hE : E0 n K R) (hT : TI N h sp M) (hN : NR N) (hb : M 1 6 = 0 ∨ M 1 6 = 1) (q0 : M 1 6 = 0 → Q (.inl (some (gm_vi 0))) n K R M) (hi : M 1 6 = 1 → cs M 29 = NI ∧ NR NI ∧ NS NI) (hq : M 1 6 = 1 → ∀ M2 : gm_M, TI NI (hts (NI 13)) (spd NI) M2 → M2 200 6 = 1 → M2 42 2 = 0 → M2 1 15 = 0 → (∀ (x : Nat) (j : Int), x < 3 ∨ 15 < x → ¬ x = 201 → ¬ x = 202 → ¬ x = 203 → ¬ (x = 200 ∧ j = 6) → ¬ (x = 42 ∧ j = 2) → ¬ (x = 1 ∧ j = 15) → M2 x j = M x j) → Q (.inl (some (gm_vi 1))) n K (gm_uR R 3 8 (R 29 8)) M2) : gm_Wp X LX d bc bs 60 0 (gm_ent 60 [gm_vr 1]) [] n K R M Q := by
  refine gm_sz (gm_p_load (pc := 0) (i := .aload_n 0) (sr := 2) (j := 0) (by decide +kernel) rfl rfl rfl) ?_
  refine gm_sz (fw_gi (pc := 1) (ix := 33) (ci := 0) (j := 6) (x := M 1 6) (by decide +kernel) (e0k hE (k := 1) (c := 0) (by decide +kernel)) (by decide +kernel) (by decide +kernel) rfl) ?_
  refine fw_if (cc := .ne) (pc := 4) (off := 5) (by decide +kernel) (by decide) (by rcases hb with h | h <;> rw [h] <;> exact ⟨by decide, by decide⟩) (fun h4 => ?_) (fun h4 => ?_)
  · have h4 : ¬ (M 1 6) = 0 := h4
    obtain ⟨i1, i2, i3⟩ := hi (by omega)
    refine gm_sz (gm_p_load (pc := 9) (i := .aload_n 0) (sr := 2) (j := 0) (by decide +kernel) rfl rfl rfl) ?_
    refine gm_sz (fw_gr (pc := 10) (ix := 23) (ci := 0) (j := 3) (r := 3) (by decide +kernel) (e0k hE (k := 1) (c := 0) (by decide +kernel)) (by decide +kernel) (by decide +kernel) (e0r hE (k := 1) (j := 3) (r := 3) (by decide +kernel))) ?_
    refine gm_sz (gm_p_load (pc := 13) (i := .aload_n 0) (sr := 2) (j := 0) (by decide +kernel) rfl rfl rfl) ?_
    refine gm_sz (fw_gr (pc := 14) (ix := 30) (ci := 0) (j := 5) (r := 29) (by decide +kernel) (e0k hE (k := 1) (c := 0) (by decide +kernel)) (by decide +kernel) (by decide +kernel) (e0r hE (k := 1) (j := 5) (r := 29) (by decide +kernel))) ?_
    refine gm_c_virt (k := 3) (ci := 1) (mj := 57) (ix := 114) (pc := 17) (as := [gm_vr 29]) (st := []) (d' := d - 1) (bc' := 0) (bs' := 0) (by decide +kernel) (by decide +kernel) (by decide +kernel) (by decide +kernel) (e0k hE (k := 3) (c := 1) (by decide +kernel)).1 (e0k hE (k := 3) (c := 1) (by decide +kernel)).2 (by decide) (by decide +kernel) (show 1 = gm_na 57 by decide +kernel) (fw_c1 fw_sr) (show 2 ≤ gm_ml 57 by decide +kernel) (Nat.le_of_ble_eq_true rfl) (by omega) (Nat.zero_le _) (Nat.zero_le _) ?_
    refine st_copy (b := 3) (s := 29) (by omega) (ks_3 hE) (ks_29 hE) (by omega) (mx_3 hT.1) (sz_cs i2 i1) (fun M9 hx9 hy9 hc9 => ?_)
    show gm_Wp X LX d _ _ 60 20 _ [] n K _ _ Q
    have t9 : TQ NI M9 := ⟨cst_cpy0 (List.all_eq_true.mp cst_cpf 3 (by decide)) hT.1 ⟨hx9, hy9, hc9⟩, hc9.trans i1⟩
    refine gm_sz (gm_p_load (pc := 20) (i := .aload_n 0) (sr := 2) (j := 0) (by decide +kernel) rfl rfl rfl) ?_
    refine gm_c_virt (k := 1) (ci := 0) (mj := 61) (ix := 136) (pc := 21) (as := []) (st := []) (d' := d - 1) (bc' := 0) (bs' := 0) (by decide +kernel) (by decide +kernel) (by decide +kernel) (by decide +kernel) (e0k hE (k := 1) (c := 0) (by decide +kernel)).1 (e0k hE (k := 1) (c := 0) (by decide +kernel)).2 (by decide) (by decide +kernel) (show 0 = gm_na 61 by decide +kernel) fw_c0 (show 1 ≤ gm_ml 61 by decide +kernel) (Nat.le_of_ble_eq_true rfl) (by omega) (Nat.zero_le _) (Nat.zero_le _) ?_
    refine fw_c61 (by omega) (e0h3 hE) t9 i2 i3 (fun M61 hf61 ht61 h6 h42 h15 => ?_)
    show gm_Wp X LX d _ _ 60 24 _ [] n K _ _ Q
    refine gm_sz (gm_p_const (pc := 24) (i := .iconst 1) (v := gm_vi 1) (by decide +kernel) (by decide +kernel)) ?_
    exact gm_r_int (pc := 25) (by decide +kernel) (Or.inr ⟨(by decide +kernel), Or.inr rfl⟩) (hq (by omega) M61 ht61 h6 h42 h15 (fun x j hx h1 h2 h3 h4 h5 h7 => (hf61 x j (by intro hm; simp at hm; omega) (by intro hm; simp at hm; omega)).trans (hx9 x j (by omega))))
  · have h4 : (M 1 6) = 0 := Classical.not_not.mp h4
    refine gm_sz (gm_p_const (pc := 7) (i := .iconst 0) (v := gm_vi 0) (by decide +kernel) (by decide +kernel)) ?_
    exact gm_r_int (pc := 8) (by decide +kernel) (Or.inr ⟨(by decide +kernel), Or.inl rfl⟩) (q0 (by omega))
end YS15
end
/-! 7a26.r5ac -/
section
/-! THE REFERENCE: what is refused, what is remembered, image, heats (laid by wip/core/r5.py). -/
section AR5
variable {X : Int → Int} {LX d bc bs n : Nat} {K : gm_K} {R : gm_R} {M : gm_M} {Q : gm_Q} {i x y z c v : Int} {N h : Int → Int} {A : List (Int → Int)}
theorem tf_1 (hE : E0 n K R) (hq : Q (.inl (some (gm_vi 1))) n K R (gm_uM M 226 0 c)) : gm_Wp X LX d bc bs 282 0 (gm_ent 282 [gm_vr 226, gm_vi 1, gm_vi c]) [] n K R M Q := by
  refine gm_sz (gm_p_load (pc := 0) (i := .iload_n 1) (sr := 0) (j := 1) (by decide +kernel) rfl rfl rfl) ?_
  refine fw_iffd (cc := .eq) (pc := 1) (off := 8) (by decide +kernel) (by decide) ⟨by decide, by decide⟩ (by decide) ?_
  refine gm_sz (gm_p_load (pc := 4) (i := .aload_n 0) (sr := 2) (j := 0) (by decide +kernel) rfl rfl rfl) ?_
  refine gm_sz (gm_p_load (pc := 5) (i := .iload_n 2) (sr := 0) (j := 2) (by decide +kernel) rfl rfl rfl) ?_
  refine gm_sz (fw_pi (pc := 6) (ix := 3) (ci := 11) (j := 0) (M' := gm_uM M 226 0 c) (by decide +kernel) (e0k hE (k := 226) (c := 11) (by decide +kernel)) (by decide +kernel) (by decide +kernel) (by decide +kernel) rfl) ?_
  refine gm_sz (gm_p_load (pc := 9) (i := .iload_n 1) (sr := 0) (j := 1) (by decide +kernel) rfl rfl rfl) ?_
  exact gm_r_int (pc := 10) (by decide +kernel) (Or.inr ⟨(by decide +kernel), Or.inr rfl⟩) hq
theorem tf_0 (hE : E0 n K R) (hq : Q (.inl (some (gm_vi 0))) n K R M) : gm_Wp X LX d bc bs 282 0 (gm_ent 282 [gm_vr 226, gm_vi 0, gm_vi c]) [] n K R M Q := by
  refine gm_sz (gm_p_load (pc := 0) (i := .iload_n 1) (sr := 0) (j := 1) (by decide +kernel) rfl rfl rfl) ?_
  refine fw_iftd (cc := .eq) (pc := 1) (off := 8) (by decide +kernel) (by decide) ⟨by decide, by decide⟩ (by decide) ?_
  refine gm_sz (gm_p_load (pc := 9) (i := .iload_n 1) (sr := 0) (j := 1) (by decide +kernel) rfl rfl rfl) ?_
  exact gm_r_int (pc := 10) (by decide +kernel) (Or.inr ⟨(by decide +kernel), Or.inl rfl⟩) hq
theorem in_286 (hx : gm_ir x) (hy : gm_ir y) (hz : gm_ir z) (q1 : y ≤ x → x ≤ z → Q (.inl (some (gm_vi 1))) n K R M) (q0 : ¬ (y ≤ x ∧ x ≤ z) → Q (.inl (some (gm_vi 0))) n K R M) : gm_Wp X LX d bc bs 286 0 (gm_ent 286 [gm_vi x, gm_vi y, gm_vi z]) [] n K R M Q := by
  refine gm_sz (gm_p_load (pc := 0) (i := .iload_n 0) (sr := 0) (j := 0) (by decide +kernel) rfl rfl rfl) ?_
  refine gm_sz (gm_p_load (pc := 1) (i := .iload_n 1) (sr := 0) (j := 1) (by decide +kernel) rfl rfl rfl) ?_
  refine fw_ic (cc := .lt) (pc := 2) (off := 12) (by decide +kernel) (by decide) hx hy (fun h2 => ?_) (fun h2 => ?_)
  · have h2 : x < y := h2
    refine gm_sz (gm_p_const (pc := 14) (i := .iconst 0) (v := gm_vi 0) (by decide +kernel) (by decide +kernel)) ?_
    exact gm_r_int (pc := 15) (by decide +kernel) (Or.inr ⟨(by decide +kernel), Or.inl rfl⟩) (q0 (by omega))
  · have h2 : ¬ x < y := h2
    refine gm_sz (gm_p_load (pc := 5) (i := .iload_n 0) (sr := 0) (j := 0) (by decide +kernel) rfl rfl rfl) ?_
    refine gm_sz (gm_p_load (pc := 6) (i := .iload_n 2) (sr := 0) (j := 2) (by decide +kernel) rfl rfl rfl) ?_
    refine fw_ic (cc := .gt) (pc := 7) (off := 7) (by decide +kernel) (by decide) hx hz (fun h7 => ?_) (fun h7 => ?_)
    · have h7 : z < x := h7
      refine gm_sz (gm_p_const (pc := 14) (i := .iconst 0) (v := gm_vi 0) (by decide +kernel) (by decide +kernel)) ?_
      exact gm_r_int (pc := 15) (by decide +kernel) (Or.inr ⟨(by decide +kernel), Or.inl rfl⟩) (q0 (by omega))
    · have h7 : ¬ z < x := h7
      refine gm_sz (gm_p_const (pc := 10) (i := .iconst 1) (v := gm_vi 1) (by decide +kernel) (by decide +kernel)) ?_
      refine gm_sz (gm_p_goto (pc := 11) (off := 4) (by decide +kernel) (by decide)) ?_
      exact gm_r_int (pc := 15) (by decide +kernel) (Or.inr ⟨(by decide +kernel), Or.inr rfl⟩) (q1 (by omega) (by omega))
theorem no_288 (hd : 1 ≤ d) (hE : E0 n K R) (hT : TR N h M) (hN : NR N) (hi : gm_ir i) (q1 : ¬ (0 ≤ i ∧ i < N 0) → Q (.inl (some (gm_vi 1))) n K R M) (q0 : 0 ≤ i ∧ i < N 0 → Q (.inl (some (gm_vi 0))) n K R M) : gm_Wp X LX d bc bs 288 0 (gm_ent 288 [gm_vr 226, gm_vi i]) [] n K R M Q := by
  obtain ⟨⟨⟨a0, b0⟩, ⟨a1, b1⟩, ⟨a10, b10⟩, ⟨a11, b11⟩, ⟨a12, b12⟩, a9, b9⟩, ⟨⟨a2, b2⟩, ⟨a5, b5⟩, ⟨a3, b3⟩, ⟨a4, b4⟩, ⟨a6, b6⟩, ⟨a14, b14⟩, ⟨a7, b7⟩, a13, b13⟩, rF, rP, rL⟩ := id hN
  refine gm_sz (gm_p_load (pc := 0) (i := .iload_n 1) (sr := 0) (j := 1) (by decide +kernel) rfl rfl rfl) ?_
  refine gm_sz (gm_p_const (pc := 1) (i := .iconst 0) (v := gm_vi 0) (by decide +kernel) (by decide +kernel)) ?_
  refine gm_sz (gm_p_load (pc := 2) (i := .aload_n 0) (sr := 2) (j := 0) (by decide +kernel) rfl rfl rfl) ?_
  refine gm_c_virt (k := 226) (ci := 11) (mj := 261) (ix := 86) (pc := 3) (as := []) (st := [gm_vi 0, gm_vi i]) (d' := d - 1) (bc' := 0) (bs' := 0) (by decide +kernel) (by decide +kernel) (by decide +kernel) (by decide +kernel) (e0k hE (k := 226) (c := 11) (by decide +kernel)).1 (e0k hE (k := 226) (c := 11) (by decide +kernel)).2 (by decide) (by decide +kernel) (show 0 = gm_na 261 by decide +kernel) fw_c0 (show 1 ≤ gm_ml 261 by decide +kernel) (Nat.le_of_ble_eq_true rfl) (by omega) (Nat.zero_le _) (Nat.zero_le _) ?_
  refine re_lan hE hT hN ?_
  show gm_Wp X LX d _ _ 288 6 _ [gm_vi (N 0), gm_vi 0, gm_vi i] n K _ _ Q
  refine gm_sz (gm_p_const (pc := 6) (i := .iconst 1) (v := gm_vi 1) (by decide +kernel) (by decide +kernel)) ?_
  refine gm_sz (gm_p_bin (pc := 7) (i := .isub) (f := fun x y => x - y) (by decide +kernel) rfl) ?_
  refine gm_c_stat (mj := 286) (ix := 90) (pc := 8) (as := [gm_vi i, gm_vi 0, gm_vi ((N 0) - 1)]) (st := []) (d' := d - 1) (bc' := 0) (bs' := 0) (by decide +kernel) (by decide +kernel) (by decide +kernel) (by decide +kernel) (show 3 = gm_na 286 by decide +kernel) (fw_c3 fw_si fw_si fw_si) (show 3 ≤ gm_ml 286 by decide +kernel) (Nat.le_of_ble_eq_true rfl) (by omega) (Nat.zero_le _) (Nat.zero_le _) ?_
  refine in_286 (x := i) (y := 0) (z := ((N 0) - 1)) hi ⟨by decide, by decide⟩ ⟨by omega, by omega⟩ (fun k8a k8 => ?_) (fun k8 => ?_)
  · show gm_Wp X LX d _ _ 288 11 _ [gm_vi 1] n K _ _ Q
    have k8a : 0 ≤ i := k8a
    have k8 : i ≤ ((N 0) - 1) := k8
    refine fw_iftd (cc := .ne) (pc := 11) (off := 7) (by decide +kernel) (by decide) ⟨by decide, by decide⟩ (by decide) ?_
    refine gm_sz (gm_p_const (pc := 18) (i := .iconst 0) (v := gm_vi 0) (by decide +kernel) (by decide +kernel)) ?_
    exact gm_r_int (pc := 19) (by decide +kernel) (Or.inr ⟨(by decide +kernel), Or.inl rfl⟩) (q0 (by omega))
  · show gm_Wp X LX d _ _ 288 11 _ [gm_vi 0] n K _ _ Q
    have k8 : ¬ (0 ≤ i ∧ i ≤ ((N 0) - 1)) := k8
    refine fw_iffd (cc := .ne) (pc := 11) (off := 7) (by decide +kernel) (by decide) ⟨by decide, by decide⟩ (by decide) ?_
    refine gm_sz (gm_p_const (pc := 14) (i := .iconst 1) (v := gm_vi 1) (by decide +kernel) (by decide +kernel)) ?_
    refine gm_sz (gm_p_goto (pc := 15) (off := 4) (by decide +kernel) (by decide)) ?_
    exact gm_r_int (pc := 19) (by decide +kernel) (Or.inr ⟨(by decide +kernel), Or.inr rfl⟩) (q1 (by omega))
theorem no_289 (hd : 1 ≤ d) (hE : E0 n K R) (hT : TR N h M) (hN : NR N) (hi : gm_ir i) (q1 : ¬ (0 ≤ i ∧ i < N 1) → Q (.inl (some (gm_vi 1))) n K R M) (q0 : 0 ≤ i ∧ i < N 1 → Q (.inl (some (gm_vi 0))) n K R M) : gm_Wp X LX d bc bs 289 0 (gm_ent 289 [gm_vr 226, gm_vi i]) [] n K R M Q := by
  obtain ⟨⟨⟨a0, b0⟩, ⟨a1, b1⟩, ⟨a10, b10⟩, ⟨a11, b11⟩, ⟨a12, b12⟩, a9, b9⟩, ⟨⟨a2, b2⟩, ⟨a5, b5⟩, ⟨a3, b3⟩, ⟨a4, b4⟩, ⟨a6, b6⟩, ⟨a14, b14⟩, ⟨a7, b7⟩, a13, b13⟩, rF, rP, rL⟩ := id hN
  refine gm_sz (gm_p_load (pc := 0) (i := .iload_n 1) (sr := 0) (j := 1) (by decide +kernel) rfl rfl rfl) ?_
  refine gm_sz (gm_p_const (pc := 1) (i := .iconst 0) (v := gm_vi 0) (by decide +kernel) (by decide +kernel)) ?_
  refine gm_sz (gm_p_load (pc := 2) (i := .aload_n 0) (sr := 2) (j := 0) (by decide +kernel) rfl rfl rfl) ?_
  refine gm_c_virt (k := 226) (ci := 11) (mj := 259) (ix := 94) (pc := 3) (as := []) (st := [gm_vi 0, gm_vi i]) (d' := d - 1) (bc' := 0) (bs' := 0) (by decide +kernel) (by decide +kernel) (by decide +kernel) (by decide +kernel) (e0k hE (k := 226) (c := 11) (by decide +kernel)).1 (e0k hE (k := 226) (c := 11) (by decide +kernel)).2 (by decide) (by decide +kernel) (show 0 = gm_na 259 by decide +kernel) fw_c0 (show 1 ≤ gm_ml 259 by decide +kernel) (Nat.le_of_ble_eq_true rfl) (by omega) (Nat.zero_le _) (Nat.zero_le _) ?_
  refine re_lip hE hT hN ?_
  show gm_Wp X LX d _ _ 289 6 _ [gm_vi (N 1), gm_vi 0, gm_vi i] n K _ _ Q
  refine gm_sz (gm_p_const (pc := 6) (i := .iconst 1) (v := gm_vi 1) (by decide +kernel) (by decide +kernel)) ?_
  refine gm_sz (gm_p_bin (pc := 7) (i := .isub) (f := fun x y => x - y) (by decide +kernel) rfl) ?_
  refine gm_c_stat (mj := 286) (ix := 90) (pc := 8) (as := [gm_vi i, gm_vi 0, gm_vi ((N 1) - 1)]) (st := []) (d' := d - 1) (bc' := 0) (bs' := 0) (by decide +kernel) (by decide +kernel) (by decide +kernel) (by decide +kernel) (show 3 = gm_na 286 by decide +kernel) (fw_c3 fw_si fw_si fw_si) (show 3 ≤ gm_ml 286 by decide +kernel) (Nat.le_of_ble_eq_true rfl) (by omega) (Nat.zero_le _) (Nat.zero_le _) ?_
  refine in_286 (x := i) (y := 0) (z := ((N 1) - 1)) hi ⟨by decide, by decide⟩ ⟨by omega, by omega⟩ (fun k8a k8 => ?_) (fun k8 => ?_)
  · show gm_Wp X LX d _ _ 289 11 _ [gm_vi 1] n K _ _ Q
    have k8a : 0 ≤ i := k8a
    have k8 : i ≤ ((N 1) - 1) := k8
    refine fw_iftd (cc := .ne) (pc := 11) (off := 7) (by decide +kernel) (by decide) ⟨by decide, by decide⟩ (by decide) ?_
    refine gm_sz (gm_p_const (pc := 18) (i := .iconst 0) (v := gm_vi 0) (by decide +kernel) (by decide +kernel)) ?_
    exact gm_r_int (pc := 19) (by decide +kernel) (Or.inr ⟨(by decide +kernel), Or.inl rfl⟩) (q0 (by omega))
  · show gm_Wp X LX d _ _ 289 11 _ [gm_vi 0] n K _ _ Q
    have k8 : ¬ (0 ≤ i ∧ i ≤ ((N 1) - 1)) := k8
    refine fw_iffd (cc := .ne) (pc := 11) (off := 7) (by decide +kernel) (by decide) ⟨by decide, by decide⟩ (by decide) ?_
    refine gm_sz (gm_p_const (pc := 14) (i := .iconst 1) (v := gm_vi 1) (by decide +kernel) (by decide +kernel)) ?_
    refine gm_sz (gm_p_goto (pc := 15) (off := 4) (by decide +kernel) (by decide)) ?_
    exact gm_r_int (pc := 19) (by decide +kernel) (Or.inr ⟨(by decide +kernel), Or.inr rfl⟩) (q1 (by omega))
theorem no_298 (hd : 1 ≤ d) (hE : E0 n K R) (hT : TR N h M) (hN : NR N) (hi : gm_ir i) (q1 : ¬ (0 ≤ i ∧ i < N 3) → Q (.inl (some (gm_vi 1))) n K R M) (q0 : 0 ≤ i ∧ i < N 3 → Q (.inl (some (gm_vi 0))) n K R M) : gm_Wp X LX d bc bs 298 0 (gm_ent 298 [gm_vr 226, gm_vi i]) [] n K R M Q := by
  obtain ⟨⟨⟨a0, b0⟩, ⟨a1, b1⟩, ⟨a10, b10⟩, ⟨a11, b11⟩, ⟨a12, b12⟩, a9, b9⟩, ⟨⟨a2, b2⟩, ⟨a5, b5⟩, ⟨a3, b3⟩, ⟨a4, b4⟩, ⟨a6, b6⟩, ⟨a14, b14⟩, ⟨a7, b7⟩, a13, b13⟩, rF, rP, rL⟩ := id hN
  refine gm_sz (gm_p_load (pc := 0) (i := .iload_n 1) (sr := 0) (j := 1) (by decide +kernel) rfl rfl rfl) ?_
  refine gm_sz (gm_p_const (pc := 1) (i := .iconst 0) (v := gm_vi 0) (by decide +kernel) (by decide +kernel)) ?_
  refine gm_sz (gm_p_load (pc := 2) (i := .aload_n 0) (sr := 2) (j := 0) (by decide +kernel) rfl rfl rfl) ?_
  refine gm_c_virt (k := 226) (ci := 11) (mj := 253) (ix := 97) (pc := 3) (as := []) (st := [gm_vi 0, gm_vi i]) (d' := d - 1) (bc' := 0) (bs' := 0) (by decide +kernel) (by decide +kernel) (by decide +kernel) (by decide +kernel) (e0k hE (k := 226) (c := 11) (by decide +kernel)).1 (e0k hE (k := 226) (c := 11) (by decide +kernel)).2 (by decide) (by decide +kernel) (show 0 = gm_na 253 by decide +kernel) fw_c0 (show 1 ≤ gm_ml 253 by decide +kernel) (Nat.le_of_ble_eq_true rfl) (by omega) (Nat.zero_le _) (Nat.zero_le _) ?_
  refine re_peo hE hT hN ?_
  show gm_Wp X LX d _ _ 298 6 _ [gm_vi (N 3), gm_vi 0, gm_vi i] n K _ _ Q
  refine gm_sz (gm_p_const (pc := 6) (i := .iconst 1) (v := gm_vi 1) (by decide +kernel) (by decide +kernel)) ?_
  refine gm_sz (gm_p_bin (pc := 7) (i := .isub) (f := fun x y => x - y) (by decide +kernel) rfl) ?_
  refine gm_c_stat (mj := 286) (ix := 90) (pc := 8) (as := [gm_vi i, gm_vi 0, gm_vi ((N 3) - 1)]) (st := []) (d' := d - 1) (bc' := 0) (bs' := 0) (by decide +kernel) (by decide +kernel) (by decide +kernel) (by decide +kernel) (show 3 = gm_na 286 by decide +kernel) (fw_c3 fw_si fw_si fw_si) (show 3 ≤ gm_ml 286 by decide +kernel) (Nat.le_of_ble_eq_true rfl) (by omega) (Nat.zero_le _) (Nat.zero_le _) ?_
  refine in_286 (x := i) (y := 0) (z := ((N 3) - 1)) hi ⟨by decide, by decide⟩ ⟨by omega, by omega⟩ (fun k8a k8 => ?_) (fun k8 => ?_)
  · show gm_Wp X LX d _ _ 298 11 _ [gm_vi 1] n K _ _ Q
    have k8a : 0 ≤ i := k8a
    have k8 : i ≤ ((N 3) - 1) := k8
    refine fw_iftd (cc := .ne) (pc := 11) (off := 7) (by decide +kernel) (by decide) ⟨by decide, by decide⟩ (by decide) ?_
    refine gm_sz (gm_p_const (pc := 18) (i := .iconst 0) (v := gm_vi 0) (by decide +kernel) (by decide +kernel)) ?_
    exact gm_r_int (pc := 19) (by decide +kernel) (Or.inr ⟨(by decide +kernel), Or.inl rfl⟩) (q0 (by omega))
  · show gm_Wp X LX d _ _ 298 11 _ [gm_vi 0] n K _ _ Q
    have k8 : ¬ (0 ≤ i ∧ i ≤ ((N 3) - 1)) := k8
    refine fw_iffd (cc := .ne) (pc := 11) (off := 7) (by decide +kernel) (by decide) ⟨by decide, by decide⟩ (by decide) ?_
    refine gm_sz (gm_p_const (pc := 14) (i := .iconst 1) (v := gm_vi 1) (by decide +kernel) (by decide +kernel)) ?_
    refine gm_sz (gm_p_goto (pc := 15) (off := 4) (by decide +kernel) (by decide)) ?_
    exact gm_r_int (pc := 19) (by decide +kernel) (Or.inr ⟨(by decide +kernel), Or.inr rfl⟩) (q1 (by omega))
theorem no_309 (hd : 1 ≤ d) (hE : E0 n K R) (hT : TR N h M) (hN : NR N) (hi : gm_ir i) (q1 : ¬ (0 ≤ i ∧ i < N 4) → Q (.inl (some (gm_vi 1))) n K R M) (q0 : 0 ≤ i ∧ i < N 4 → Q (.inl (some (gm_vi 0))) n K R M) : gm_Wp X LX d bc bs 309 0 (gm_ent 309 [gm_vr 226, gm_vi i]) [] n K R M Q := by
  obtain ⟨⟨⟨a0, b0⟩, ⟨a1, b1⟩, ⟨a10, b10⟩, ⟨a11, b11⟩, ⟨a12, b12⟩, a9, b9⟩, ⟨⟨a2, b2⟩, ⟨a5, b5⟩, ⟨a3, b3⟩, ⟨a4, b4⟩, ⟨a6, b6⟩, ⟨a14, b14⟩, ⟨a7, b7⟩, a13, b13⟩, rF, rP, rL⟩ := id hN
  refine gm_sz (gm_p_load (pc := 0) (i := .iload_n 1) (sr := 0) (j := 1) (by decide +kernel) rfl rfl rfl) ?_
  refine gm_sz (gm_p_const (pc := 1) (i := .iconst 0) (v := gm_vi 0) (by decide +kernel) (by decide +kernel)) ?_
  refine gm_sz (gm_p_load (pc := 2) (i := .aload_n 0) (sr := 2) (j := 0) (by decide +kernel) rfl rfl rfl) ?_
  refine gm_c_virt (k := 226) (ci := 11) (mj := 254) (ix := 100) (pc := 3) (as := []) (st := [gm_vi 0, gm_vi i]) (d' := d - 1) (bc' := 0) (bs' := 0) (by decide +kernel) (by decide +kernel) (by decide +kernel) (by decide +kernel) (e0k hE (k := 226) (c := 11) (by decide +kernel)).1 (e0k hE (k := 226) (c := 11) (by decide +kernel)).2 (by decide) (by decide +kernel) (show 0 = gm_na 254 by decide +kernel) fw_c0 (show 1 ≤ gm_ml 254 by decide +kernel) (Nat.le_of_ble_eq_true rfl) (by omega) (Nat.zero_le _) (Nat.zero_le _) ?_
  refine re_let hE hT hN ?_
  show gm_Wp X LX d _ _ 309 6 _ [gm_vi (N 4), gm_vi 0, gm_vi i] n K _ _ Q
  refine gm_sz (gm_p_const (pc := 6) (i := .iconst 1) (v := gm_vi 1) (by decide +kernel) (by decide +kernel)) ?_
  refine gm_sz (gm_p_bin (pc := 7) (i := .isub) (f := fun x y => x - y) (by decide +kernel) rfl) ?_
  refine gm_c_stat (mj := 286) (ix := 90) (pc := 8) (as := [gm_vi i, gm_vi 0, gm_vi ((N 4) - 1)]) (st := []) (d' := d - 1) (bc' := 0) (bs' := 0) (by decide +kernel) (by decide +kernel) (by decide +kernel) (by decide +kernel) (show 3 = gm_na 286 by decide +kernel) (fw_c3 fw_si fw_si fw_si) (show 3 ≤ gm_ml 286 by decide +kernel) (Nat.le_of_ble_eq_true rfl) (by omega) (Nat.zero_le _) (Nat.zero_le _) ?_
  refine in_286 (x := i) (y := 0) (z := ((N 4) - 1)) hi ⟨by decide, by decide⟩ ⟨by omega, by omega⟩ (fun k8a k8 => ?_) (fun k8 => ?_)
  · show gm_Wp X LX d _ _ 309 11 _ [gm_vi 1] n K _ _ Q
    have k8a : 0 ≤ i := k8a
    have k8 : i ≤ ((N 4) - 1) := k8
    refine fw_iftd (cc := .ne) (pc := 11) (off := 7) (by decide +kernel) (by decide) ⟨by decide, by decide⟩ (by decide) ?_
    refine gm_sz (gm_p_const (pc := 18) (i := .iconst 0) (v := gm_vi 0) (by decide +kernel) (by decide +kernel)) ?_
    exact gm_r_int (pc := 19) (by decide +kernel) (Or.inr ⟨(by decide +kernel), Or.inl rfl⟩) (q0 (by omega))
  · show gm_Wp X LX d _ _ 309 11 _ [gm_vi 0] n K _ _ Q
    have k8 : ¬ (0 ≤ i ∧ i ≤ ((N 4) - 1)) := k8
    refine fw_iffd (cc := .ne) (pc := 11) (off := 7) (by decide +kernel) (by decide) ⟨by decide, by decide⟩ (by decide) ?_
    refine gm_sz (gm_p_const (pc := 14) (i := .iconst 1) (v := gm_vi 1) (by decide +kernel) (by decide +kernel)) ?_
    refine gm_sz (gm_p_goto (pc := 15) (off := 4) (by decide +kernel) (by decide)) ?_
    exact gm_r_int (pc := 19) (by decide +kernel) (Or.inr ⟨(by decide +kernel), Or.inr rfl⟩) (q1 (by omega))
theorem rs_w (hw : ws (M 227) = N) {j : Int} (h0 : 0 ≤ j) (h1 : j < 395) (h8 : ¬ j = 8) : M 227 j = N j := by
  rw [← hw]
  unfold ws
  rw [if_pos ⟨h0, h1, h8⟩]
theorem wa_l (hE : E0 n K R) (hq : ∀ M2, fr [(234, none), (226, some 26)] M M2 → (∀ y, 0 ≤ y → y < 300 → M2 234 y = hts (N 13) y) → M2 226 26 = -1 → Q (.inl none) n K R M2) : ∀ (u k : Nat) (M1 : gm_M), k + u = 300 → fr [(234, none)] M M1 → (∀ y, 0 ≤ y → y < (k : Int) → M1 234 y = hts (N 13) y) → gm_Wp X LX d bc bs 235 10 [some (gm_vr 226), some (gm_vi (hnum (N 13) k)), some (gm_vi (k : Int))] [] n K R M1 Q := by
  intro u
  induction u with
  | zero =>
    intro k M1 hk hf hy
    refine gm_sz (gm_p_load (pc := 10) (i := .iload_n 2) (sr := 0) (j := 2) (by decide +kernel) rfl rfl rfl) ?_
    refine gm_sz (gm_p_const (pc := 11) (i := .sipush 300) (v := gm_vi 300) (by decide +kernel) (by decide +kernel)) ?_
    refine fw_ict (cc := .ge) (pc := 14) (off := 36) (by decide +kernel) (by decide) ⟨by omega, by omega⟩ ⟨by decide, by decide⟩ (show 300 ≤ (k : Int) by omega) ?_
    refine gm_sz (gm_p_load (pc := 50) (i := .aload_n 0) (sr := 2) (j := 0) (by decide +kernel) rfl rfl rfl) ?_
    refine gm_sz (gm_p_const (pc := 51) (i := .iconst (-1)) (v := gm_vi (-1)) (by decide +kernel) (by decide +kernel)) ?_
    refine gm_sz (fw_pi (pc := 52) (ix := 331) (ci := 11) (j := 26) (M' := gm_uM M1 226 26 (-1)) (by decide +kernel) (e0k hE (k := 226) (c := 11) (by decide +kernel)) (by decide +kernel) (by decide +kernel) (by decide +kernel) rfl) ?_
    refine gm_r_void (pc := 55) (by decide +kernel) (by decide +kernel) (hq _ (fr_p (fr_t fr_0 hf (by decide)) (Or.inr (by decide))) (fun y y0 y1 => ?_) uM_at)
    exact (uM_ne (by omega)).trans (hy y y0 (by omega))
  | succ u ih =>
    intro k M1 hk hf hy
    refine gm_sz (gm_p_load (pc := 10) (i := .iload_n 2) (sr := 0) (j := 2) (by decide +kernel) rfl rfl rfl) ?_
    refine gm_sz (gm_p_const (pc := 11) (i := .sipush 300) (v := gm_vi 300) (by decide +kernel) (by decide +kernel)) ?_
    refine fw_icf (cc := .ge) (pc := 14) (off := 36) (by decide +kernel) (by decide) ⟨by omega, by omega⟩ ⟨by decide, by decide⟩ (show ¬ 300 ≤ (k : Int) by omega) ?_
    refine gm_sz (gm_p_ldci (pc := 17) (i := .ldc_w 330) (ix := 330) (v := 1103515245) (by decide +kernel) (Or.inr rfl) (by decide +kernel)) ?_
    refine gm_sz (gm_p_load (pc := 20) (i := .iload_n 1) (sr := 0) (j := 1) (by decide +kernel) rfl rfl rfl) ?_
    refine gm_sz (gm_p_bin (pc := 21) (i := .imul) (f := fun x y => x * y) (by decide +kernel) rfl) ?_
    refine gm_sz (gm_p_const (pc := 22) (i := .sipush 12345) (v := gm_vi 12345) (by decide +kernel) (by decide +kernel)) ?_
    refine gm_sz (gm_p_bin (pc := 25) (i := .iadd) (f := fun x y => x + y) (by decide +kernel) rfl) ?_
    refine gm_sz (gm_p_stor (pc := 26) (i := .istore_n 1) (sr := 0) (j := 1) (by decide +kernel) rfl (show 2 ≤ _ from Nat.le_of_ble_eq_true rfl) rfl) ?_
    refine gm_sz (gm_p_load (pc := 27) (i := .aload_n 0) (sr := 2) (j := 0) (by decide +kernel) rfl rfl rfl) ?_
    refine gm_sz (fw_gr (pc := 28) (ix := 39) (ci := 11) (j := 24) (r := 234) (by decide +kernel) (e0k hE (k := 226) (c := 11) (by decide +kernel)) (by decide +kernel) (by decide +kernel) (e0r hE (k := 226) (j := 24) (r := 234) (by decide +kernel))) ?_
    refine gm_sz (gm_p_load (pc := 31) (i := .iload_n 2) (sr := 0) (j := 2) (by decide +kernel) rfl rfl rfl) ?_
    refine gm_sz (gm_p_load (pc := 32) (i := .iload_n 1) (sr := 0) (j := 1) (by decide +kernel) rfl rfl rfl) ?_
    refine gm_sz (gm_p_const (pc := 33) (i := .bipush 16) (v := gm_vi 16) (by decide +kernel) (by decide +kernel)) ?_
    refine gm_sz (gm_p_bin (pc := 35) (i := .ishr) (f := gm_shr) (by decide +kernel) rfl) ?_
    refine gm_sz (gm_p_const (pc := 36) (i := .sipush 32767) (v := gm_vi 32767) (by decide +kernel) (by decide +kernel)) ?_
    refine gm_sz (gm_p_bin (pc := 39) (i := .iand) (f := gm_and) (by decide +kernel) rfl) ?_
    have hb9 := and_b (x := gm_shr ((1103515245 * (hnum (N 13) k)) + 12345) 16)
    refine gm_sz (gm_p_const (pc := 40) (i := .bipush 10) (v := gm_vi 10) (by decide +kernel) (by decide +kernel)) ?_
    refine gm_sz (gm_p_rem (pc := 42) (by decide +kernel) (by decide)) ?_
    rw [fw_rem (a := gm_and (gm_shr ((1103515245 * (hnum (N 13) k)) + 12345) 16) 32767) (b := 10) (by omega) (by omega) (by decide)]
    refine gm_sz (fw_is (pc := 43) (k := 234) (len := 300) (e0 := (k : Int)) (x := (gm_and (gm_shr ((1103515245 * (hnum (N 13) k)) + 12345) 16) 32767) % 10) (M' := gm_uM M1 234 (k : Int) ((gm_and (gm_shr ((1103515245 * (hnum (N 13) k)) + 12345) 16) 32767) % 10)) (by decide +kernel) (e0a hE (k := 234) (q := (0, 300)) (by decide +kernel)).1 (e0a hE (k := 234) (q := (0, 300)) (by decide +kernel)).2 (by decide) ⟨by omega, by omega⟩ rfl) ?_
    refine gm_sz (gm_p_iinc (pc := 44) (j := 2) (z := 1) (by decide +kernel) rfl) ?_
    refine gm_sz (gm_p_goto (pc := 47) (off := (-37)) (by decide +kernel) (by decide)) ?_
    refine ih (k + 1) _ (by omega) (fr_p (fr_t fr_0 hf (by decide)) (Or.inl (by decide))) (fun y y0 y1 => ?_)
    by_cases e : y = (k : Int)
    · subst e
      rw [uM_at]
      unfold hts
      rw [show ((k : Int)).toNat = k from Int.toNat_natCast k]
      rfl
    · exact (uM_ne (fun hh => e hh.2)).trans (hy y y0 (by omega))
theorem wa_c235 (hE : E0 n K R) (hw : ws (M 227) = N) (hq : ∀ M2, fr [(234, none), (226, some 26)] M M2 → (∀ y, 0 ≤ y → y < 300 → M2 234 y = hts (N 13) y) → M2 226 26 = -1 → Q (.inl none) n K R M2) : gm_Wp X LX d bc bs 235 0 (gm_ent 235 [gm_vr 226]) [] n K R M Q := by
  refine gm_sz (gm_p_load (pc := 0) (i := .aload_n 0) (sr := 2) (j := 0) (by decide +kernel) rfl rfl rfl) ?_
  refine gm_sz (fw_gr (pc := 1) (ix := 13) (ci := 11) (j := 1) (r := 227) (by decide +kernel) (e0k hE (k := 226) (c := 11) (by decide +kernel)) (by decide +kernel) (by decide +kernel) (e0r hE (k := 226) (j := 1) (r := 227) (by decide +kernel))) ?_
  refine gm_sz (gm_p_const (pc := 4) (i := .bipush 13) (v := gm_vi 13) (by decide +kernel) (by decide +kernel)) ?_
  refine gm_sz (fw_ia (pc := 6) (k := 227) (len := 2093) (e0 := 13) (x := N 13) (by decide +kernel) (e0a hE (k := 227) (q := (0, 2093)) (by decide +kernel)).1 (e0a hE (k := 227) (q := (0, 2093)) (by decide +kernel)).2 (by decide) ⟨by omega, by omega⟩ (rs_w hw (by decide) (by decide) (by decide))) ?_
  refine gm_sz (gm_p_stor (pc := 7) (i := .istore_n 1) (sr := 0) (j := 1) (by decide +kernel) rfl (show 2 ≤ _ from Nat.le_of_ble_eq_true rfl) rfl) ?_
  refine gm_sz (gm_p_const (pc := 8) (i := .iconst 0) (v := gm_vi 0) (by decide +kernel) (by decide +kernel)) ?_
  refine gm_sz (gm_p_stor (pc := 9) (i := .istore_n 2) (sr := 0) (j := 2) (by decide +kernel) rfl (show 3 ≤ _ from Nat.le_of_ble_eq_true rfl) rfl) ?_
  exact wa_l hE hq 300 0 M rfl fr_0 (fun y y0 y1 => absurd y1 (by omega))
/-- a row copied as far as k -/
noncomputable def cpk (M : gm_M) (s d : Nat) (so do_ k : Int) : gm_M := fun c j => if c = d ∧ do_ ≤ j ∧ j < do_ + k then M s (so + (j - do_)) else M c j
theorem cpk_0 {s d : Nat} {so do_ : Int} : cpk M s d so do_ 0 = M := by
  funext c j
  unfold cpk
  rw [if_neg (fun h => by omega)]
theorem cpk_s {s d : Nat} {so do_ k e v : Int} (hk : 0 ≤ k) (he : e = do_ + k) (hv : v = M s (so + k)) : gm_uM (cpk M s d so do_ k) d e v = cpk M s d so do_ (k + 1) := by
  subst he hv
  funext c j
  unfold gm_uM cpk
  by_cases h1 : c = d ∧ j = do_ + k
  · obtain ⟨rfl, rfl⟩ := h1
    rw [if_pos ⟨rfl, rfl⟩, if_pos ⟨rfl, by omega, by omega⟩, show so + (do_ + k - do_) = so + k by omega]
  · rw [if_neg h1]
    by_cases h2 : c = d ∧ do_ ≤ j ∧ j < do_ + k
    · rw [if_pos h2, if_pos ⟨h2.1, h2.2.1, by omega⟩]
    · rw [if_neg h2, if_neg (fun h3 => h2 ⟨h3.1, h3.2.1, by have := h3.2.2; by_cases e : j = do_ + k; exact absurd ⟨h3.1, e⟩ h1; omega⟩)]
theorem cpk_o {s d c : Nat} {so do_ k j : Int} (h : ¬ (c = d ∧ do_ ≤ j ∧ j < do_ + k)) : cpk M s d so do_ k c j = M c j := if_neg h
theorem cpk_i {s d : Nat} {so do_ k j : Int} (h0 : do_ ≤ j) (h1 : j < do_ + k) : cpk M s d so do_ k d j = M s (so + (j - do_)) := if_pos ⟨rfl, h0, h1⟩
theorem cpk_fr {s d : Nat} {so do_ k : Int} : fr [(d, none)] M (cpk M s d so do_ k) := fun c j h1 _ => cpk_o (fun h => h1 (by rw [h.1]; exact List.mem_cons_self))
theorem cp_236 (hE : E0 n K R) (hq : gm_Wp X LX d bc bs 236 32 [some (gm_vr 226), some (gm_vi 1244)] [] n K R (cpk M 227 228 0 0 1244) Q) : ∀ (u : Nat) (k : Int), k + (u : Int) = 1244 → 0 ≤ k → gm_Wp X LX d bc bs 236 7 [some (gm_vr 226), some (gm_vi k)] [] n K R (cpk M 227 228 0 0 k) Q := by
  intro u
  induction u with
  | zero =>
    intro k hk k0
    have ek : k = 1244 := by omega
    subst ek
    refine gm_sz (gm_p_load (pc := 7) (i := .iload_n 1) (sr := 0) (j := 1) (by decide +kernel) rfl rfl rfl) ?_
    refine gm_sz (gm_p_const (pc := 8) (i := .sipush 1244) (v := gm_vi 1244) (by decide +kernel) (by decide +kernel)) ?_
    refine fw_ictd (cc := .ge) (pc := 11) (off := 21) (by decide +kernel) (by decide) ⟨by decide, by decide⟩ ⟨by decide, by decide⟩ (by decide) ?_
    exact hq
  | succ u ih =>
    intro k hk k0
    refine gm_sz (gm_p_load (pc := 7) (i := .iload_n 1) (sr := 0) (j := 1) (by decide +kernel) rfl rfl rfl) ?_
    refine gm_sz (gm_p_const (pc := 8) (i := .sipush 1244) (v := gm_vi 1244) (by decide +kernel) (by decide +kernel)) ?_
    refine fw_icf (cc := .ge) (pc := 11) (off := 21) (by decide +kernel) (by decide) ⟨by omega, by omega⟩ ⟨by decide, by decide⟩ (show ¬ 1244 ≤ k by omega) ?_
    refine gm_sz (gm_p_load (pc := 14) (i := .aload_n 0) (sr := 2) (j := 0) (by decide +kernel) rfl rfl rfl) ?_
    refine gm_sz (fw_gr (pc := 15) (ix := 17) (ci := 11) (j := 2) (r := 228) (by decide +kernel) (e0k hE (k := 226) (c := 11) (by decide +kernel)) (by decide +kernel) (by decide +kernel) (e0r hE (k := 226) (j := 2) (r := 228) (by decide +kernel))) ?_
    refine gm_sz (gm_p_load (pc := 18) (i := .iload_n 1) (sr := 0) (j := 1) (by decide +kernel) rfl rfl rfl) ?_
    refine gm_sz (gm_p_load (pc := 19) (i := .aload_n 0) (sr := 2) (j := 0) (by decide +kernel) rfl rfl rfl) ?_
    refine gm_sz (fw_gr (pc := 20) (ix := 13) (ci := 11) (j := 1) (r := 227) (by decide +kernel) (e0k hE (k := 226) (c := 11) (by decide +kernel)) (by decide +kernel) (by decide +kernel) (e0r hE (k := 226) (j := 1) (r := 227) (by decide +kernel))) ?_
    refine gm_sz (gm_p_load (pc := 23) (i := .iload_n 1) (sr := 0) (j := 1) (by decide +kernel) rfl rfl rfl) ?_
    refine gm_sz (fw_ia (pc := 24) (k := 227) (len := 2093) (e0 := k) (x := M 227 k) (by decide +kernel) (e0a hE (k := 227) (q := (0, 2093)) (by decide +kernel)).1 (e0a hE (k := 227) (q := (0, 2093)) (by decide +kernel)).2 (by decide) ⟨by omega, by omega⟩ (cpk_o (by omega))) ?_
    refine gm_sz (fw_is (pc := 25) (k := 228) (len := 1244) (e0 := k) (x := M 227 k) (M' := cpk M 227 228 0 0 (k + 1)) (by decide +kernel) (e0a hE (k := 228) (q := (0, 1244)) (by decide +kernel)).1 (e0a hE (k := 228) (q := (0, 1244)) (by decide +kernel)).2 (by decide) ⟨by omega, by omega⟩ (cpk_s k0 (by omega) (congrArg (M 227) (by omega)))) ?_
    refine gm_sz (gm_p_iinc (pc := 26) (j := 1) (z := 1) (by decide +kernel) rfl) ?_
    refine gm_sz (gm_p_goto (pc := 29) (off := (-22)) (by decide +kernel) (by decide)) ?_
    exact ih (k + 1) (by omega) (by omega)
theorem cp_236z (hE : E0 n K R) (hq : gm_Wp X LX d bc bs 236 32 [some (gm_vr 226), some (gm_vi 1244)] [] n K R (cpk M 227 228 0 0 1244) Q) : gm_Wp X LX d bc bs 236 7 [some (gm_vr 226), some (gm_vi 0)] [] n K R M Q := by
  have h9 := cp_236 hE  hq 1244 0 (by omega) (Int.le_refl _)
  rw [cpk_0] at h9
  exact h9
theorem cp_237 (hE : E0 n K R) (hq : gm_Wp X LX d bc bs 237 41 [some (gm_vr 226), some (gm_vi 1244)] [] n K R (cpk M 228 227 0 0 1244) Q) : ∀ (u : Nat) (k : Int), k + (u : Int) = 1244 → 0 ≤ k → gm_Wp X LX d bc bs 237 16 [some (gm_vr 226), some (gm_vi k)] [] n K R (cpk M 228 227 0 0 k) Q := by
  intro u
  induction u with
  | zero =>
    intro k hk k0
    have ek : k = 1244 := by omega
    subst ek
    refine gm_sz (gm_p_load (pc := 16) (i := .iload_n 1) (sr := 0) (j := 1) (by decide +kernel) rfl rfl rfl) ?_
    refine gm_sz (gm_p_const (pc := 17) (i := .sipush 1244) (v := gm_vi 1244) (by decide +kernel) (by decide +kernel)) ?_
    refine fw_ictd (cc := .ge) (pc := 20) (off := 21) (by decide +kernel) (by decide) ⟨by decide, by decide⟩ ⟨by decide, by decide⟩ (by decide) ?_
    exact hq
  | succ u ih =>
    intro k hk k0
    refine gm_sz (gm_p_load (pc := 16) (i := .iload_n 1) (sr := 0) (j := 1) (by decide +kernel) rfl rfl rfl) ?_
    refine gm_sz (gm_p_const (pc := 17) (i := .sipush 1244) (v := gm_vi 1244) (by decide +kernel) (by decide +kernel)) ?_
    refine fw_icf (cc := .ge) (pc := 20) (off := 21) (by decide +kernel) (by decide) ⟨by omega, by omega⟩ ⟨by decide, by decide⟩ (show ¬ 1244 ≤ k by omega) ?_
    refine gm_sz (gm_p_load (pc := 23) (i := .aload_n 0) (sr := 2) (j := 0) (by decide +kernel) rfl rfl rfl) ?_
    refine gm_sz (fw_gr (pc := 24) (ix := 13) (ci := 11) (j := 1) (r := 227) (by decide +kernel) (e0k hE (k := 226) (c := 11) (by decide +kernel)) (by decide +kernel) (by decide +kernel) (e0r hE (k := 226) (j := 1) (r := 227) (by decide +kernel))) ?_
    refine gm_sz (gm_p_load (pc := 27) (i := .iload_n 1) (sr := 0) (j := 1) (by decide +kernel) rfl rfl rfl) ?_
    refine gm_sz (gm_p_load (pc := 28) (i := .aload_n 0) (sr := 2) (j := 0) (by decide +kernel) rfl rfl rfl) ?_
    refine gm_sz (fw_gr (pc := 29) (ix := 17) (ci := 11) (j := 2) (r := 228) (by decide +kernel) (e0k hE (k := 226) (c := 11) (by decide +kernel)) (by decide +kernel) (by decide +kernel) (e0r hE (k := 226) (j := 2) (r := 228) (by decide +kernel))) ?_
    refine gm_sz (gm_p_load (pc := 32) (i := .iload_n 1) (sr := 0) (j := 1) (by decide +kernel) rfl rfl rfl) ?_
    refine gm_sz (fw_ia (pc := 33) (k := 228) (len := 1244) (e0 := k) (x := M 228 k) (by decide +kernel) (e0a hE (k := 228) (q := (0, 1244)) (by decide +kernel)).1 (e0a hE (k := 228) (q := (0, 1244)) (by decide +kernel)).2 (by decide) ⟨by omega, by omega⟩ (cpk_o (by omega))) ?_
    refine gm_sz (fw_is (pc := 34) (k := 227) (len := 2093) (e0 := k) (x := M 228 k) (M' := cpk M 228 227 0 0 (k + 1)) (by decide +kernel) (e0a hE (k := 227) (q := (0, 2093)) (by decide +kernel)).1 (e0a hE (k := 227) (q := (0, 2093)) (by decide +kernel)).2 (by decide) ⟨by omega, by omega⟩ (cpk_s k0 (by omega) (congrArg (M 228) (by omega)))) ?_
    refine gm_sz (gm_p_iinc (pc := 35) (j := 1) (z := 1) (by decide +kernel) rfl) ?_
    refine gm_sz (gm_p_goto (pc := 38) (off := (-22)) (by decide +kernel) (by decide)) ?_
    exact ih (k + 1) (by omega) (by omega)
theorem cp_237z (hE : E0 n K R) (hq : gm_Wp X LX d bc bs 237 41 [some (gm_vr 226), some (gm_vi 1244)] [] n K R (cpk M 228 227 0 0 1244) Q) : gm_Wp X LX d bc bs 237 16 [some (gm_vr 226), some (gm_vi 0)] [] n K R M Q := by
  have h9 := cp_237 hE  hq 1244 0 (by omega) (Int.le_refl _)
  rw [cpk_0] at h9
  exact h9
theorem cp_316a (hE : E0 n K R) (hq : gm_Wp X LX d bc bs 316 40 [some (gm_vr 226), some (gm_vi 4345)] [] n K R (cpk M 230 230 395 0 4345) Q) : ∀ (u : Nat) (k : Int), k + (u : Int) = 4345 → 0 ≤ k → gm_Wp X LX d bc bs 316 11 [some (gm_vr 226), some (gm_vi k)] [] n K R (cpk M 230 230 395 0 k) Q := by
  intro u
  induction u with
  | zero =>
    intro k hk k0
    have ek : k = 4345 := by omega
    subst ek
    refine gm_sz (gm_p_load (pc := 11) (i := .iload_n 1) (sr := 0) (j := 1) (by decide +kernel) rfl rfl rfl) ?_
    refine gm_sz (gm_p_const (pc := 12) (i := .sipush 4345) (v := gm_vi 4345) (by decide +kernel) (by decide +kernel)) ?_
    refine fw_ictd (cc := .ge) (pc := 15) (off := 25) (by decide +kernel) (by decide) ⟨by decide, by decide⟩ ⟨by decide, by decide⟩ (by decide) ?_
    exact hq
  | succ u ih =>
    intro k hk k0
    refine gm_sz (gm_p_load (pc := 11) (i := .iload_n 1) (sr := 0) (j := 1) (by decide +kernel) rfl rfl rfl) ?_
    refine gm_sz (gm_p_const (pc := 12) (i := .sipush 4345) (v := gm_vi 4345) (by decide +kernel) (by decide +kernel)) ?_
    refine fw_icf (cc := .ge) (pc := 15) (off := 25) (by decide +kernel) (by decide) ⟨by omega, by omega⟩ ⟨by decide, by decide⟩ (show ¬ 4345 ≤ k by omega) ?_
    refine gm_sz (gm_p_load (pc := 18) (i := .aload_n 0) (sr := 2) (j := 0) (by decide +kernel) rfl rfl rfl) ?_
    refine gm_sz (fw_gr (pc := 19) (ix := 23) (ci := 11) (j := 4) (r := 230) (by decide +kernel) (e0k hE (k := 226) (c := 11) (by decide +kernel)) (by decide +kernel) (by decide +kernel) (e0r hE (k := 226) (j := 4) (r := 230) (by decide +kernel))) ?_
    refine gm_sz (gm_p_load (pc := 22) (i := .iload_n 1) (sr := 0) (j := 1) (by decide +kernel) rfl rfl rfl) ?_
    refine gm_sz (gm_p_load (pc := 23) (i := .aload_n 0) (sr := 2) (j := 0) (by decide +kernel) rfl rfl rfl) ?_
    refine gm_sz (fw_gr (pc := 24) (ix := 23) (ci := 11) (j := 4) (r := 230) (by decide +kernel) (e0k hE (k := 226) (c := 11) (by decide +kernel)) (by decide +kernel) (by decide +kernel) (e0r hE (k := 226) (j := 4) (r := 230) (by decide +kernel))) ?_
    refine gm_sz (gm_p_load (pc := 27) (i := .iload_n 1) (sr := 0) (j := 1) (by decide +kernel) rfl rfl rfl) ?_
    refine gm_sz (gm_p_const (pc := 28) (i := .sipush 395) (v := gm_vi 395) (by decide +kernel) (by decide +kernel)) ?_
    refine gm_sz (gm_p_bin (pc := 31) (i := .iadd) (f := fun x y => x + y) (by decide +kernel) rfl) ?_
    refine gm_sz (fw_ia (pc := 32) (k := 230) (len := 4740) (e0 := k + 395) (x := M 230 (k + 395)) (by decide +kernel) (e0a hE (k := 230) (q := (0, 4740)) (by decide +kernel)).1 (e0a hE (k := 230) (q := (0, 4740)) (by decide +kernel)).2 (by decide) ⟨by omega, by omega⟩ (cpk_o (by omega))) ?_
    refine gm_sz (fw_is (pc := 33) (k := 230) (len := 4740) (e0 := k) (x := M 230 (k + 395)) (M' := cpk M 230 230 395 0 (k + 1)) (by decide +kernel) (e0a hE (k := 230) (q := (0, 4740)) (by decide +kernel)).1 (e0a hE (k := 230) (q := (0, 4740)) (by decide +kernel)).2 (by decide) ⟨by omega, by omega⟩ (cpk_s k0 (by omega) (congrArg (M 230) (by omega)))) ?_
    refine gm_sz (gm_p_iinc (pc := 34) (j := 1) (z := 1) (by decide +kernel) rfl) ?_
    refine gm_sz (gm_p_goto (pc := 37) (off := (-26)) (by decide +kernel) (by decide)) ?_
    exact ih (k + 1) (by omega) (by omega)
theorem cp_316az (hE : E0 n K R) (hq : gm_Wp X LX d bc bs 316 40 [some (gm_vr 226), some (gm_vi 4345)] [] n K R (cpk M 230 230 395 0 4345) Q) : gm_Wp X LX d bc bs 316 11 [some (gm_vr 226), some (gm_vi 0)] [] n K R M Q := by
  have h9 := cp_316a hE  hq 4345 0 (by omega) (Int.le_refl _)
  rw [cpk_0] at h9
  exact h9
theorem cp_316b (hE : E0 n K R) (h6 : M 226 6 = c) (hc : 1 ≤ c ∧ c ≤ 12) (hq : gm_Wp X LX d bc bs 316 91 [some (gm_vr 226), some (gm_vi 395)] [] n K R (cpk M 227 230 0 (395 * (c - 1)) 395) Q) : ∀ (u : Nat) (k : Int), k + (u : Int) = 395 → 0 ≤ k → gm_Wp X LX d bc bs 316 55 [some (gm_vr 226), some (gm_vi k)] [] n K R (cpk M 227 230 0 (395 * (c - 1)) k) Q := by
  intro u
  induction u with
  | zero =>
    intro k hk k0
    have ek : k = 395 := by omega
    subst ek
    refine gm_sz (gm_p_load (pc := 55) (i := .iload_n 1) (sr := 0) (j := 1) (by decide +kernel) rfl rfl rfl) ?_
    refine gm_sz (gm_p_const (pc := 56) (i := .sipush 395) (v := gm_vi 395) (by decide +kernel) (by decide +kernel)) ?_
    refine fw_ictd (cc := .ge) (pc := 59) (off := 32) (by decide +kernel) (by decide) ⟨by decide, by decide⟩ ⟨by decide, by decide⟩ (by decide) ?_
    exact hq
  | succ u ih =>
    intro k hk k0
    refine gm_sz (gm_p_load (pc := 55) (i := .iload_n 1) (sr := 0) (j := 1) (by decide +kernel) rfl rfl rfl) ?_
    refine gm_sz (gm_p_const (pc := 56) (i := .sipush 395) (v := gm_vi 395) (by decide +kernel) (by decide +kernel)) ?_
    refine fw_icf (cc := .ge) (pc := 59) (off := 32) (by decide +kernel) (by decide) ⟨by omega, by omega⟩ ⟨by decide, by decide⟩ (show ¬ 395 ≤ k by omega) ?_
    refine gm_sz (gm_p_load (pc := 62) (i := .aload_n 0) (sr := 2) (j := 0) (by decide +kernel) rfl rfl rfl) ?_
    refine gm_sz (fw_gr (pc := 63) (ix := 23) (ci := 11) (j := 4) (r := 230) (by decide +kernel) (e0k hE (k := 226) (c := 11) (by decide +kernel)) (by decide +kernel) (by decide +kernel) (e0r hE (k := 226) (j := 4) (r := 230) (by decide +kernel))) ?_
    refine gm_sz (gm_p_const (pc := 66) (i := .sipush 395) (v := gm_vi 395) (by decide +kernel) (by decide +kernel)) ?_
    refine gm_sz (gm_p_load (pc := 69) (i := .aload_n 0) (sr := 2) (j := 0) (by decide +kernel) rfl rfl rfl) ?_
    refine gm_sz (fw_gi (pc := 70) (ix := 79) (ci := 11) (j := 6) (x := c) (by decide +kernel) (e0k hE (k := 226) (c := 11) (by decide +kernel)) (by decide +kernel) (by decide +kernel) ((cpk_o (by omega)).trans h6)) ?_
    refine gm_sz (gm_p_const (pc := 73) (i := .iconst 1) (v := gm_vi 1) (by decide +kernel) (by decide +kernel)) ?_
    refine gm_sz (gm_p_bin (pc := 74) (i := .isub) (f := fun x y => x - y) (by decide +kernel) rfl) ?_
    refine gm_sz (gm_p_bin (pc := 75) (i := .imul) (f := fun x y => x * y) (by decide +kernel) rfl) ?_
    refine gm_sz (gm_p_load (pc := 76) (i := .iload_n 1) (sr := 0) (j := 1) (by decide +kernel) rfl rfl rfl) ?_
    refine gm_sz (gm_p_bin (pc := 77) (i := .iadd) (f := fun x y => x + y) (by decide +kernel) rfl) ?_
    refine gm_sz (gm_p_load (pc := 78) (i := .aload_n 0) (sr := 2) (j := 0) (by decide +kernel) rfl rfl rfl) ?_
    refine gm_sz (fw_gr (pc := 79) (ix := 13) (ci := 11) (j := 1) (r := 227) (by decide +kernel) (e0k hE (k := 226) (c := 11) (by decide +kernel)) (by decide +kernel) (by decide +kernel) (e0r hE (k := 226) (j := 1) (r := 227) (by decide +kernel))) ?_
    refine gm_sz (gm_p_load (pc := 82) (i := .iload_n 1) (sr := 0) (j := 1) (by decide +kernel) rfl rfl rfl) ?_
    refine gm_sz (fw_ia (pc := 83) (k := 227) (len := 2093) (e0 := k) (x := M 227 k) (by decide +kernel) (e0a hE (k := 227) (q := (0, 2093)) (by decide +kernel)).1 (e0a hE (k := 227) (q := (0, 2093)) (by decide +kernel)).2 (by decide) ⟨by omega, by omega⟩ (cpk_o (by omega))) ?_
    refine gm_sz (fw_is (pc := 84) (k := 230) (len := 4740) (e0 := (395 * (c - 1)) + k) (x := M 227 k) (M' := cpk M 227 230 0 (395 * (c - 1)) (k + 1)) (by decide +kernel) (e0a hE (k := 230) (q := (0, 4740)) (by decide +kernel)).1 (e0a hE (k := 230) (q := (0, 4740)) (by decide +kernel)).2 (by decide) ⟨by omega, by omega⟩ (cpk_s k0 (by omega) (congrArg (M 227) (by omega)))) ?_
    refine gm_sz (gm_p_iinc (pc := 85) (j := 1) (z := 1) (by decide +kernel) rfl) ?_
    refine gm_sz (gm_p_goto (pc := 88) (off := (-33)) (by decide +kernel) (by decide)) ?_
    exact ih (k + 1) (by omega) (by omega)
theorem cp_316bz (hE : E0 n K R) (h6 : M 226 6 = c) (hc : 1 ≤ c ∧ c ≤ 12) (hq : gm_Wp X LX d bc bs 316 91 [some (gm_vr 226), some (gm_vi 395)] [] n K R (cpk M 227 230 0 (395 * (c - 1)) 395) Q) : gm_Wp X LX d bc bs 316 55 [some (gm_vr 226), some (gm_vi 0)] [] n K R M Q := by
  have h9 := cp_316b hE h6 hc hq 395 0 (by omega) (Int.le_refl _)
  rw [cpk_0] at h9
  exact h9
theorem cp_238 (hE : E0 n K R) (h6 : M 226 6 = c) (hc : 0 ≤ c ∧ c ≤ 11) (hq : gm_Wp X LX d bc bs 238 60 [some (gm_vr 226), some (gm_vi 395)] [] n K R (cpk M 230 227 (395 * c) 0 395) Q) : ∀ (u : Nat) (k : Int), k + (u : Int) = 395 → 0 ≤ k → gm_Wp X LX d bc bs 238 26 [some (gm_vr 226), some (gm_vi k)] [] n K R (cpk M 230 227 (395 * c) 0 k) Q := by
  intro u
  induction u with
  | zero =>
    intro k hk k0
    have ek : k = 395 := by omega
    subst ek
    refine gm_sz (gm_p_load (pc := 26) (i := .iload_n 1) (sr := 0) (j := 1) (by decide +kernel) rfl rfl rfl) ?_
    refine gm_sz (gm_p_const (pc := 27) (i := .sipush 395) (v := gm_vi 395) (by decide +kernel) (by decide +kernel)) ?_
    refine fw_ictd (cc := .ge) (pc := 30) (off := 30) (by decide +kernel) (by decide) ⟨by decide, by decide⟩ ⟨by decide, by decide⟩ (by decide) ?_
    exact hq
  | succ u ih =>
    intro k hk k0
    refine gm_sz (gm_p_load (pc := 26) (i := .iload_n 1) (sr := 0) (j := 1) (by decide +kernel) rfl rfl rfl) ?_
    refine gm_sz (gm_p_const (pc := 27) (i := .sipush 395) (v := gm_vi 395) (by decide +kernel) (by decide +kernel)) ?_
    refine fw_icf (cc := .ge) (pc := 30) (off := 30) (by decide +kernel) (by decide) ⟨by omega, by omega⟩ ⟨by decide, by decide⟩ (show ¬ 395 ≤ k by omega) ?_
    refine gm_sz (gm_p_load (pc := 33) (i := .aload_n 0) (sr := 2) (j := 0) (by decide +kernel) rfl rfl rfl) ?_
    refine gm_sz (fw_gr (pc := 34) (ix := 13) (ci := 11) (j := 1) (r := 227) (by decide +kernel) (e0k hE (k := 226) (c := 11) (by decide +kernel)) (by decide +kernel) (by decide +kernel) (e0r hE (k := 226) (j := 1) (r := 227) (by decide +kernel))) ?_
    refine gm_sz (gm_p_load (pc := 37) (i := .iload_n 1) (sr := 0) (j := 1) (by decide +kernel) rfl rfl rfl) ?_
    refine gm_sz (gm_p_load (pc := 38) (i := .aload_n 0) (sr := 2) (j := 0) (by decide +kernel) rfl rfl rfl) ?_
    refine gm_sz (fw_gr (pc := 39) (ix := 23) (ci := 11) (j := 4) (r := 230) (by decide +kernel) (e0k hE (k := 226) (c := 11) (by decide +kernel)) (by decide +kernel) (by decide +kernel) (e0r hE (k := 226) (j := 4) (r := 230) (by decide +kernel))) ?_
    refine gm_sz (gm_p_const (pc := 42) (i := .sipush 395) (v := gm_vi 395) (by decide +kernel) (by decide +kernel)) ?_
    refine gm_sz (gm_p_load (pc := 45) (i := .aload_n 0) (sr := 2) (j := 0) (by decide +kernel) rfl rfl rfl) ?_
    refine gm_sz (fw_gi (pc := 46) (ix := 79) (ci := 11) (j := 6) (x := c) (by decide +kernel) (e0k hE (k := 226) (c := 11) (by decide +kernel)) (by decide +kernel) (by decide +kernel) ((cpk_o (by omega)).trans h6)) ?_
    refine gm_sz (gm_p_bin (pc := 49) (i := .imul) (f := fun x y => x * y) (by decide +kernel) rfl) ?_
    refine gm_sz (gm_p_load (pc := 50) (i := .iload_n 1) (sr := 0) (j := 1) (by decide +kernel) rfl rfl rfl) ?_
    refine gm_sz (gm_p_bin (pc := 51) (i := .iadd) (f := fun x y => x + y) (by decide +kernel) rfl) ?_
    refine gm_sz (fw_ia (pc := 52) (k := 230) (len := 4740) (e0 := (395 * c) + k) (x := M 230 ((395 * c) + k)) (by decide +kernel) (e0a hE (k := 230) (q := (0, 4740)) (by decide +kernel)).1 (e0a hE (k := 230) (q := (0, 4740)) (by decide +kernel)).2 (by decide) ⟨by omega, by omega⟩ (cpk_o (by omega))) ?_
    refine gm_sz (fw_is (pc := 53) (k := 227) (len := 2093) (e0 := k) (x := M 230 ((395 * c) + k)) (M' := cpk M 230 227 (395 * c) 0 (k + 1)) (by decide +kernel) (e0a hE (k := 227) (q := (0, 2093)) (by decide +kernel)).1 (e0a hE (k := 227) (q := (0, 2093)) (by decide +kernel)).2 (by decide) ⟨by omega, by omega⟩ (cpk_s k0 (by omega) (congrArg (M 230) (by omega)))) ?_
    refine gm_sz (gm_p_iinc (pc := 54) (j := 1) (z := 1) (by decide +kernel) rfl) ?_
    refine gm_sz (gm_p_goto (pc := 57) (off := (-31)) (by decide +kernel) (by decide)) ?_
    exact ih (k + 1) (by omega) (by omega)
theorem cp_238z (hE : E0 n K R) (h6 : M 226 6 = c) (hc : 0 ≤ c ∧ c ≤ 11) (hq : gm_Wp X LX d bc bs 238 60 [some (gm_vr 226), some (gm_vi 395)] [] n K R (cpk M 230 227 (395 * c) 0 395) Q) : gm_Wp X LX d bc bs 238 26 [some (gm_vr 226), some (gm_vi 0)] [] n K R M Q := by
  have h9 := cp_238 hE h6 hc hq 395 0 (by omega) (Int.le_refl _)
  rw [cpk_0] at h9
  exact h9
/-- what is remembered, the newest first -/
noncomputable def HISR (A : List (Int → Int)) (g8 : Int) (M : gm_M) : Prop := (M 226 6 = (A.length : Int) ∧ A.length ≤ 12) ∧ ∀ (i : Nat) (N1 : Int → Int), A[i]? = some N1 → ws (fun j => M 230 (395 * ((A.length : Int) - 1 - (i : Int)) + j)) = N1 ∧ M 230 (395 * ((A.length : Int) - 1 - (i : Int)) + 8) = g8
theorem ws_ext {W V : Int → Int} (h : ∀ j, 0 ≤ j → j < 395 → W j = V j) : ws W = ws V := by
  funext j
  unfold ws
  by_cases hj : 0 ≤ j ∧ j < 395 ∧ ¬ j = 8
  · rw [if_pos hj, if_pos hj, h j hj.1 hj.2.1]
  · rw [if_neg hj, if_neg hj]
theorem hisr_e {g8 : Int} {M2 : gm_M} (h : HISR A g8 M) (e6 : M2 226 6 = M 226 6) (e : ∀ j, M2 230 j = M 230 j) : HISR A g8 M2 := by
  refine ⟨by rw [e6]; exact h.1, fun i N1 hi => ?_⟩
  rw [show (fun j => M2 230 (395 * ((A.length : Int) - 1 - (i : Int)) + j)) = (fun j => M 230 (395 * ((A.length : Int) - 1 - (i : Int)) + j)) from funext fun j => e _, e]
  exact h.2 i N1 hi
theorem hisr_w {g8 : Int} {M2 : gm_M} {W : List (Nat × Option Int)} (h : HISR A g8 M) (hf : fr W M M2) (hw : W.all (fun w => !(w.1 == 230) && !(w.1 == 226 && (w.2 == none || w.2 == some 6))) = true) : HISR A g8 M2 := hisr_e h (hf 226 6 (fun hm => by have := List.all_eq_true.mp hw _ hm; simp at this) (fun hm => by have := List.all_eq_true.mp hw _ hm; simp at this)) (fun j => hf 230 j (fun hm => by have := List.all_eq_true.mp hw _ hm; simp at this) (fun hm => by have := List.all_eq_true.mp hw _ hm; simp at this))
theorem rm_c316 (hE : E0 n K R) (hw : ws (M 227) = N) (hH : HISR A (M 227 8) M) (hq : ∀ M2, fr [(226, some 6), (230, none)] M M2 → HISR ((N :: A).take 12) (M 227 8) M2 → Q (.inl none) n K R M2) : gm_Wp X LX d bc bs 316 0 (gm_ent 316 [gm_vr 226]) [] n K R M Q := by
  obtain ⟨⟨g6, h12⟩, hA⟩ := hH
  generalize hc : (A.length : Int) = c at g6
  have hc0 : 0 ≤ c ∧ c ≤ 12 := ⟨by omega, by omega⟩
  refine gm_sz (gm_p_load (pc := 0) (i := .aload_n 0) (sr := 2) (j := 0) (by decide +kernel) rfl rfl rfl) ?_
  refine gm_sz (fw_gi (pc := 1) (ix := 79) (ci := 11) (j := 6) (x := c) (by decide +kernel) (e0k hE (k := 226) (c := 11) (by decide +kernel)) (by decide +kernel) (by decide +kernel) g6) ?_
  refine gm_sz (gm_p_const (pc := 4) (i := .bipush 12) (v := gm_vi 12) (by decide +kernel) (by decide +kernel)) ?_
  refine fw_ic (cc := .ne) (pc := 6) (off := 37) (by decide +kernel) (by decide) ⟨by omega, by omega⟩ ⟨by decide, by decide⟩ (fun h6 => ?_) (fun h6 => ?_)
  · have h6 : ¬ c = 12 := h6
    refine gm_sz (gm_p_load (pc := 43) (i := .aload_n 0) (sr := 2) (j := 0) (by decide +kernel) rfl rfl rfl) ?_
    refine gm_sz (gm_p_dup (pc := 44) (by decide +kernel) fw_sr) ?_
    refine gm_sz (fw_gi (pc := 45) (ix := 79) (ci := 11) (j := 6) (x := c) (by decide +kernel) (e0k hE (k := 226) (c := 11) (by decide +kernel)) (by decide +kernel) (by decide +kernel) g6) ?_
    refine gm_sz (gm_p_const (pc := 48) (i := .iconst 1) (v := gm_vi 1) (by decide +kernel) (by decide +kernel)) ?_
    refine gm_sz (gm_p_bin (pc := 49) (i := .iadd) (f := fun x y => x + y) (by decide +kernel) rfl) ?_
    refine gm_sz (fw_pi (pc := 50) (ix := 79) (ci := 11) (j := 6) (M' := gm_uM M 226 6 (c + 1)) (by decide +kernel) (e0k hE (k := 226) (c := 11) (by decide +kernel)) (by decide +kernel) (by decide +kernel) (by decide +kernel) rfl) ?_
    refine gm_sz (gm_p_const (pc := 53) (i := .iconst 0) (v := gm_vi 0) (by decide +kernel) (by decide +kernel)) ?_
    refine gm_sz (gm_p_stor (pc := 54) (i := .istore_n 1) (sr := 0) (j := 1) (by decide +kernel) rfl (show 2 ≤ _ from Nat.le_of_ble_eq_true rfl) rfl) ?_
    have e12 : c < 12 := by omega
    refine cp_316bz (M := gm_uM M 226 6 (c + 1)) (Q := Q) (c := c + 1) hE uM_at ⟨by omega, by omega⟩ ?_
    refine gm_r_void (pc := 91) (by decide +kernel) (by decide +kernel) (hq _ (fr_t (fr_p fr_0 (Or.inr (by decide))) cpk_fr (by decide)) ⟨⟨?_, ?_⟩, fun i N1 hi => ?_⟩)
    · rw [List.length_take, List.length_cons]
      exact (cpk_o (by omega)).trans (uM_at.trans (by omega))
    · rw [List.length_take, List.length_cons]
      omega
    · rw [List.getElem?_take] at hi
      split at hi
      · rename_i hi2
        have el : (((N :: A).take 12).length : Int) = c + 1 := by rw [List.length_take, List.length_cons]; omega
        rw [el]
        cases i with
        | zero =>
          have e : N = N1 := by simpa using hi
          subst e
          constructor
          · rw [← hw]
            refine ws_ext (fun j j0 j1 => ?_)
            refine (cpk_i (by omega) (by omega)).trans ((uM_ne (by omega)).trans (congrArg (M 227) (by omega)))
          · exact (cpk_i (by omega) (by omega)).trans ((uM_ne (by omega)).trans (congrArg (M 227) (by omega)))
        | succ i =>
          have hi : A[i]? = some N1 := by simpa using hi
          obtain ⟨a1, a2⟩ := hA i N1 hi
          have hi9 : i < A.length := (List.getElem?_eq_some_iff.mp hi).1
          constructor
          · rw [← a1]
            refine ws_ext (fun j j0 j1 => ?_)
            exact (cpk_o (by omega)).trans ((uM_ne (by omega)).trans (congrArg (M 230) (by omega)))
          · rw [← a2]
            exact (cpk_o (by omega)).trans ((uM_ne (by omega)).trans (congrArg (M 230) (by omega)))
      · cases hi
  · have h6 : c = 12 := Classical.not_not.mp h6
    refine gm_sz (gm_p_const (pc := 9) (i := .iconst 0) (v := gm_vi 0) (by decide +kernel) (by decide +kernel)) ?_
    refine gm_sz (gm_p_stor (pc := 10) (i := .istore_n 1) (sr := 0) (j := 1) (by decide +kernel) rfl (show 2 ≤ _ from Nat.le_of_ble_eq_true rfl) rfl) ?_
    have e12 : c = 12 := by omega
    refine cp_316az (M := M) (Q := Q) hE ?_
    refine gm_sz (gm_p_goto (pc := 40) (off := 13) (by decide +kernel) (by decide)) ?_
    refine gm_sz (gm_p_const (pc := 53) (i := .iconst 0) (v := gm_vi 0) (by decide +kernel) (by decide +kernel)) ?_
    refine gm_sz (gm_p_stor (pc := 54) (i := .istore_n 1) (sr := 0) (j := 1) (by decide +kernel) rfl (show 2 ≤ _ from Nat.le_of_ble_eq_true rfl) rfl) ?_
    refine cp_316bz (M := cpk M 230 230 395 0 4345) (Q := Q) (c := 12) hE ((cpk_o (by omega)).trans (g6.trans e12)) ⟨by decide, by decide⟩ ?_
    refine gm_r_void (pc := 91) (by decide +kernel) (by decide +kernel) (hq _ (fr_t (fr_t fr_0 cpk_fr (by decide)) cpk_fr (by decide)) ⟨⟨?_, ?_⟩, fun i N1 hi => ?_⟩)
    · rw [List.length_take, List.length_cons]
      exact (cpk_o (by omega)).trans ((cpk_o (by omega)).trans (by rw [g6]; omega))
    · rw [List.length_take, List.length_cons]
      omega
    · rw [List.getElem?_take] at hi
      split at hi
      · rename_i hi2
        have el : (((N :: A).take 12).length : Int) = 12 := by rw [List.length_take, List.length_cons]; omega
        rw [el]
        cases i with
        | zero =>
          have e : N = N1 := by simpa using hi
          subst e
          constructor
          · rw [← hw]
            refine ws_ext (fun j j0 j1 => ?_)
            refine (cpk_i (by omega) (by omega)).trans ((cpk_o (by omega)).trans (congrArg (M 227) (by omega)))
          · exact (cpk_i (by omega) (by omega)).trans ((cpk_o (by omega)).trans (congrArg (M 227) (by omega)))
        | succ i =>
          have hi : A[i]? = some N1 := by simpa using hi
          obtain ⟨a1, a2⟩ := hA i N1 hi
          constructor
          · rw [← a1]
            refine ws_ext (fun j j0 j1 => ?_)
            exact (cpk_o (by omega)).trans ((cpk_i (by omega) (by omega)).trans (congrArg (M 230) (by omega)))
          · rw [← a2]
            exact (cpk_o (by omega)).trans ((cpk_i (by omega) (by omega)).trans (congrArg (M 230) (by omega)))
      · cases hi
theorem ud_c238 (hE : E0 n K R) {g8 : Int} (hH : HISR A g8 M) (q0 : A = [] → Q (.inl (some (gm_vi 0))) n K R (gm_uM M 226 0 0)) (q1 : ∀ (N0 : Int → Int) (A1 : List (Int → Int)) (M2 : gm_M), A = N0 :: A1 → HISR A1 g8 M2 → ws (M2 227) = N0 → M2 227 8 = g8 → (∀ j, 395 ≤ j → M2 227 j = M 227 j) → M2 226 0 = 0 → fr [(226, some 0), (226, some 6), (227, none)] M M2 → Q (.inl (some (gm_vi 1))) n K R M2) : gm_Wp X LX d bc bs 238 0 (gm_ent 238 [gm_vr 226]) [] n K R M Q := by
  obtain ⟨⟨g6, h12⟩, hA⟩ := hH
  generalize hc : (A.length : Int) = c at g6 hA
  have hc0 : 0 ≤ c ∧ c ≤ 12 := ⟨by omega, by omega⟩
  refine gm_sz (gm_p_load (pc := 0) (i := .aload_n 0) (sr := 2) (j := 0) (by decide +kernel) rfl rfl rfl) ?_
  refine gm_sz (gm_p_const (pc := 1) (i := .iconst 0) (v := gm_vi 0) (by decide +kernel) (by decide +kernel)) ?_
  refine gm_sz (fw_pi (pc := 2) (ix := 3) (ci := 11) (j := 0) (M' := gm_uM M 226 0 0) (by decide +kernel) (e0k hE (k := 226) (c := 11) (by decide +kernel)) (by decide +kernel) (by decide +kernel) (by decide +kernel) rfl) ?_
  refine gm_sz (gm_p_load (pc := 5) (i := .aload_n 0) (sr := 2) (j := 0) (by decide +kernel) rfl rfl rfl) ?_
  refine gm_sz (fw_gi (pc := 6) (ix := 79) (ci := 11) (j := 6) (x := c) (by decide +kernel) (e0k hE (k := 226) (c := 11) (by decide +kernel)) (by decide +kernel) (by decide +kernel) ((uM_ne (by omega)).trans g6)) ?_
  refine fw_if (cc := .ne) (pc := 9) (off := 5) (by decide +kernel) (by decide) ⟨by omega, by omega⟩ (fun h9 => ?_) (fun h9 => ?_)
  · have h9 : ¬ c = 0 := h9
    refine gm_sz (gm_p_load (pc := 14) (i := .aload_n 0) (sr := 2) (j := 0) (by decide +kernel) rfl rfl rfl) ?_
    refine gm_sz (gm_p_dup (pc := 15) (by decide +kernel) fw_sr) ?_
    refine gm_sz (fw_gi (pc := 16) (ix := 79) (ci := 11) (j := 6) (x := c) (by decide +kernel) (e0k hE (k := 226) (c := 11) (by decide +kernel)) (by decide +kernel) (by decide +kernel) ((uM_ne (by omega)).trans g6)) ?_
    refine gm_sz (gm_p_const (pc := 19) (i := .iconst 1) (v := gm_vi 1) (by decide +kernel) (by decide +kernel)) ?_
    refine gm_sz (gm_p_bin (pc := 20) (i := .isub) (f := fun x y => x - y) (by decide +kernel) rfl) ?_
    refine gm_sz (fw_pi (pc := 21) (ix := 79) (ci := 11) (j := 6) (M' := gm_uM (gm_uM M 226 0 0) 226 6 (c - 1)) (by decide +kernel) (e0k hE (k := 226) (c := 11) (by decide +kernel)) (by decide +kernel) (by decide +kernel) (by decide +kernel) rfl) ?_
    refine gm_sz (gm_p_const (pc := 24) (i := .iconst 0) (v := gm_vi 0) (by decide +kernel) (by decide +kernel)) ?_
    refine gm_sz (gm_p_stor (pc := 25) (i := .istore_n 1) (sr := 0) (j := 1) (by decide +kernel) rfl (show 2 ≤ _ from Nat.le_of_ble_eq_true rfl) rfl) ?_
    cases A with
    | nil => exact absurd hc (by show ¬ ((0 : Nat) : Int) = c; omega)
    | cons N0 A1 =>
      rw [List.length_cons] at hc h12
      obtain ⟨a1, a2⟩ := hA 0 N0 rfl
      refine cp_238z (M := gm_uM (gm_uM M 226 0 0) 226 6 (c - 1)) (Q := Q) (c := c - 1) hE uM_at ⟨by omega, by omega⟩ ?_
      refine gm_sz (gm_p_const (pc := 60) (i := .iconst 1) (v := gm_vi 1) (by decide +kernel) (by decide +kernel)) ?_
      refine gm_r_int (pc := 61) (by decide +kernel) (Or.inr ⟨(by decide +kernel), Or.inr rfl⟩) (q1 N0 A1 _ rfl ⟨⟨?_, by omega⟩, fun i N1 hi => ?_⟩ ?_ ?_ (fun j hj => ?_) ?_ (fr_t (fr_p (fr_p fr_0 (Or.inr (by decide))) (Or.inr (by decide))) cpk_fr (by decide)))
      · exact (cpk_o (by omega)).trans (uM_at.trans (by omega))
      · obtain ⟨b1, b2⟩ := hA (i + 1) N1 (by simpa using hi)
        have e9 : ∀ j, cpk (gm_uM (gm_uM M 226 0 0) 226 6 (c - 1)) 230 227 (395 * (c - 1)) 0 395 230 (395 * ((A1.length : Int) - 1 - (i : Int)) + j) = M 230 (395 * (c - 1 - ((i + 1 : Nat) : Int)) + j) := fun j => (cpk_o (by omega)).trans ((uM_ne (by omega)).trans ((uM_ne (by omega)).trans (congrArg (M 230) (by omega))))
        rw [← b1, ← b2, e9 8]
        exact ⟨ws_ext fun j _ _ => e9 j, rfl⟩
      · rw [← a1]
        refine ws_ext (fun j j0 j1 => (cpk_i (by omega) (by omega)).trans ((uM_ne (by omega)).trans ((uM_ne (by omega)).trans (congrArg (M 230) (by omega)))))
      · rw [← a2]
        exact (cpk_i (by omega) (by omega)).trans ((uM_ne (by omega)).trans ((uM_ne (by omega)).trans (congrArg (M 230) (by omega))))
      · exact (cpk_o (by omega)).trans ((uM_ne (by omega)).trans (uM_ne (by omega)))
      · exact (cpk_o (by omega)).trans ((uM_ne (by omega)).trans uM_at)
  · have h9 : c = 0 := Classical.not_not.mp h9
    refine gm_sz (gm_p_const (pc := 12) (i := .iconst 0) (v := gm_vi 0) (by decide +kernel) (by decide +kernel)) ?_
    exact gm_r_int (pc := 13) (by decide +kernel) (Or.inr ⟨(by decide +kernel), Or.inl rfl⟩) (q0 (List.eq_nil_of_length_eq_zero (by omega)))
theorem ig_c236 (hE : E0 n K R) (hq : ∀ M2, fr [(226, some 0), (226, some 5), (228, none)] M M2 → (∀ j, 0 ≤ j → j < 1244 → M2 228 j = M 227 j) → M2 226 5 = 1 → M2 226 0 = 0 → Q (.inl none) n K R M2) : gm_Wp X LX d bc bs 236 0 (gm_ent 236 [gm_vr 226]) [] n K R M Q := by
  refine gm_sz (gm_p_load (pc := 0) (i := .aload_n 0) (sr := 2) (j := 0) (by decide +kernel) rfl rfl rfl) ?_
  refine gm_sz (gm_p_const (pc := 1) (i := .iconst 0) (v := gm_vi 0) (by decide +kernel) (by decide +kernel)) ?_
  refine gm_sz (fw_pi (pc := 2) (ix := 3) (ci := 11) (j := 0) (M' := gm_uM M 226 0 0) (by decide +kernel) (e0k hE (k := 226) (c := 11) (by decide +kernel)) (by decide +kernel) (by decide +kernel) (by decide +kernel) rfl) ?_
  refine gm_sz (gm_p_const (pc := 5) (i := .iconst 0) (v := gm_vi 0) (by decide +kernel) (by decide +kernel)) ?_
  refine gm_sz (gm_p_stor (pc := 6) (i := .istore_n 1) (sr := 0) (j := 1) (by decide +kernel) rfl (show 2 ≤ _ from Nat.le_of_ble_eq_true rfl) rfl) ?_
  refine cp_236z (M := gm_uM M 226 0 0) (Q := Q) hE ?_
  refine gm_sz (gm_p_load (pc := 32) (i := .aload_n 0) (sr := 2) (j := 0) (by decide +kernel) rfl rfl rfl) ?_
  refine gm_sz (gm_p_const (pc := 33) (i := .iconst 1) (v := gm_vi 1) (by decide +kernel) (by decide +kernel)) ?_
  refine gm_sz (fw_pz (pc := 34) (ix := 75) (ci := 11) (j := 5) (M' := gm_uM (cpk (gm_uM M 226 0 0) 227 228 0 0 1244) 226 5 1) (by decide +kernel) (e0k hE (k := 226) (c := 11) (by decide +kernel)) (by decide +kernel) (by decide +kernel) (by decide +kernel) (Or.inr rfl) rfl) ?_
  refine gm_r_void (pc := 37) (by decide +kernel) (by decide +kernel) (hq _ (fr_p (fr_t (fr_p fr_0 (Or.inr (by decide))) cpk_fr (by decide)) (Or.inr (by decide))) (fun j j0 j1 => ?_) uM_at ?_)
  · exact (uM_ne (by omega)).trans ((cpk_i (by omega) (by omega)).trans ((uM_ne (by omega)).trans (congrArg (M 227) (by omega))))
  · exact (uM_ne (by omega)).trans ((cpk_o (by omega)).trans uM_at)
theorem bk_c237 (hd : 1 ≤ d) (hE : E0 n K R) (hb : M 226 5 = 0 ∨ M 226 5 = 1) {NI : Int → Int} (hi : M 226 5 = 1 → ws (M 228) = NI) (q0 : M 226 5 = 0 → Q (.inl (some (gm_vi 0))) n K R (gm_uM M 226 0 0)) (q1 : M 226 5 = 1 → ∀ M2 : gm_M, fr [(226, some 0), (226, some 6), (226, some 26), (227, none), (234, none)] M M2 → TR NI (hts (NI 13)) M2 → (∀ j, (395 ≤ j ∨ j = 8) → j < 1244 → M2 227 j = M 228 j) → (∀ j, 1244 ≤ j → M2 227 j = M 227 j) → M2 226 26 = -1 → M2 226 6 = 0 → M2 226 0 = 0 → Q (.inl (some (gm_vi 1))) n K R M2) : gm_Wp X LX d bc bs 237 0 (gm_ent 237 [gm_vr 226]) [] n K R M Q := by
  refine gm_sz (gm_p_load (pc := 0) (i := .aload_n 0) (sr := 2) (j := 0) (by decide +kernel) rfl rfl rfl) ?_
  refine gm_sz (gm_p_const (pc := 1) (i := .iconst 0) (v := gm_vi 0) (by decide +kernel) (by decide +kernel)) ?_
  refine gm_sz (fw_pi (pc := 2) (ix := 3) (ci := 11) (j := 0) (M' := gm_uM M 226 0 0) (by decide +kernel) (e0k hE (k := 226) (c := 11) (by decide +kernel)) (by decide +kernel) (by decide +kernel) (by decide +kernel) rfl) ?_
  refine gm_sz (gm_p_load (pc := 5) (i := .aload_n 0) (sr := 2) (j := 0) (by decide +kernel) rfl rfl rfl) ?_
  refine gm_sz (fw_gi (pc := 6) (ix := 75) (ci := 11) (j := 5) (x := M 226 5) (by decide +kernel) (e0k hE (k := 226) (c := 11) (by decide +kernel)) (by decide +kernel) (by decide +kernel) ((uM_ne (by omega)).trans rfl)) ?_
  refine fw_if (cc := .ne) (pc := 9) (off := 5) (by decide +kernel) (by decide) (by rcases hb with h | h <;> rw [h] <;> exact ⟨by decide, by decide⟩) (fun h9 => ?_) (fun h9 => ?_)
  · have h9 : ¬ (M 226 5) = 0 := h9
    refine gm_sz (gm_p_const (pc := 14) (i := .iconst 0) (v := gm_vi 0) (by decide +kernel) (by decide +kernel)) ?_
    refine gm_sz (gm_p_stor (pc := 15) (i := .istore_n 1) (sr := 0) (j := 1) (by decide +kernel) rfl (show 2 ≤ _ from Nat.le_of_ble_eq_true rfl) rfl) ?_
    have h1 : M 226 5 = 1 := by omega
    refine cp_237z (M := gm_uM M 226 0 0) (Q := Q) hE ?_
    have hw9 : ws (gm_uM (cpk (gm_uM M 226 0 0) 228 227 0 0 1244) 226 6 0 227) = NI := by
      rw [← hi h1]
      exact ws_ext fun j j0 j1 => (uM_ne (by omega)).trans ((cpk_i (by omega) (by omega)).trans ((uM_ne (by omega)).trans (congrArg (M 228) (by omega))))
    refine gm_sz (gm_p_load (pc := 41) (i := .aload_n 0) (sr := 2) (j := 0) (by decide +kernel) rfl rfl rfl) ?_
    refine gm_sz (gm_p_const (pc := 42) (i := .iconst 0) (v := gm_vi 0) (by decide +kernel) (by decide +kernel)) ?_
    refine gm_sz (fw_pi (pc := 43) (ix := 79) (ci := 11) (j := 6) (M' := gm_uM (cpk (gm_uM M 226 0 0) 228 227 0 0 1244) 226 6 0) (by decide +kernel) (e0k hE (k := 226) (c := 11) (by decide +kernel)) (by decide +kernel) (by decide +kernel) (by decide +kernel) rfl) ?_
    refine gm_sz (gm_p_load (pc := 46) (i := .aload_n 0) (sr := 2) (j := 0) (by decide +kernel) rfl rfl rfl) ?_
    refine gm_c_virt (k := 226) (ci := 11) (mj := 235) (ix := 72) (pc := 47) (as := []) (st := []) (d' := d - 1) (bc' := 0) (bs' := 0) (by decide +kernel) (by decide +kernel) (by decide +kernel) (by decide +kernel) (e0k hE (k := 226) (c := 11) (by decide +kernel)).1 (e0k hE (k := 226) (c := 11) (by decide +kernel)).2 (by decide) (by decide +kernel) (show 0 = gm_na 235 by decide +kernel) fw_c0 (show 1 ≤ gm_ml 235 by decide +kernel) (Nat.le_of_ble_eq_true rfl) (by omega) (Nat.zero_le _) (Nat.zero_le _) ?_
    refine wa_c235 hE hw9 (fun M235 hf235 hh235 h26 => ?_)
    show gm_Wp X LX d _ _ 237 50 _ [] n K _ _ Q
    refine gm_sz (gm_p_const (pc := 50) (i := .iconst 1) (v := gm_vi 1) (by decide +kernel) (by decide +kernel)) ?_
    refine gm_r_int (pc := 51) (by decide +kernel) (Or.inr ⟨(by decide +kernel), Or.inr rfl⟩) (q1 h1 _ (fr_t (fr_p (fr_t (fr_p fr_0 (Or.inr (by decide))) cpk_fr (by decide)) (Or.inr (by decide))) hf235 (by decide)) ⟨?_, fun y y0 y1 => ⟨hh235 y y0 y1, hts_b⟩⟩ (fun j hj hj2 => ?_) (fun j hj => ?_) h26 ?_ ?_)
    · rw [show M235 227 = gm_uM (cpk (gm_uM M 226 0 0) 228 227 0 0 1244) 226 6 0 227 from funext fun j => fr_c hf235 (by decide)]
      exact hw9
    · exact (fr_c hf235 (by decide)).trans ((uM_ne (by omega)).trans ((cpk_i (by omega) (by omega)).trans ((uM_ne (by omega)).trans (congrArg (M 228) (by omega)))))
    · exact (fr_c hf235 (by decide)).trans ((uM_ne (by omega)).trans ((cpk_o (by omega)).trans (uM_ne (by omega))))
    · exact (fr_j hf235 (by decide)).trans uM_at
    · exact (fr_j hf235 (by decide)).trans ((uM_ne (by omega)).trans ((cpk_o (by omega)).trans uM_at))
  · have h9 : (M 226 5) = 0 := Classical.not_not.mp h9
    refine gm_sz (gm_p_const (pc := 12) (i := .iconst 0) (v := gm_vi 0) (by decide +kernel) (by decide +kernel)) ?_
    exact gm_r_int (pc := 13) (by decide +kernel) (Or.inr ⟨(by decide +kernel), Or.inl rfl⟩) (q0 (by omega))
end AR5
end
/-! 7a27.r6ac -/
section
/-! THE REFERENCE'S ACTS (laid by wip/core/r6.py). -/
section AC6
variable {X : Int → Int} {LX d bc bs n : Nat} {K : gm_K} {R : gm_R} {M : gm_M} {Q : gm_Q} {l p f t v w y c : Int} {N h : Int → Int} {FI : gm_M → Prop} {φ : Int → Int → Int → Int} {Ψ : (Int → Int) → Int → Int → Int → Int → Prop} {o dd : Int → Int} {A : List (Int → Int)}
theorem re_let9 (hE : E0 n K R) (hv : M 227 4 = v) (hq : Q (.inl (some (gm_vi v))) n K R M) : gm_Wp X LX d bc bs 254 0 (gm_ent 254 [gm_vr 226]) [] n K R M Q := by
  refine gm_sz (gm_p_load (pc := 0) (i := .aload_n 0) (sr := 2) (j := 0) (by decide +kernel) rfl rfl rfl) ?_
  refine gm_sz (fw_gr (pc := 1) (ix := 13) (ci := 11) (j := 1) (r := 227) (by decide +kernel) (e0k hE (k := 226) (c := 11) (by decide +kernel)) (by decide +kernel) (by decide +kernel) (e0r hE (k := 226) (j := 1) (r := 227) (by decide +kernel))) ?_
  refine gm_sz (gm_p_const (pc := 4) (i := .iconst 4) (v := gm_vi 4) (by decide +kernel) (by decide +kernel)) ?_
  refine gm_sz (fw_ia (pc := 5) (k := 227) (len := 2093) (e0 := 4) (x := v) (by decide +kernel) (e0a hE (k := 227) (q := (0, 2093)) (by decide +kernel)).1 (e0a hE (k := 227) (q := (0, 2093)) (by decide +kernel)).2 (by decide) ⟨by omega, by omega⟩ hv) ?_
  exact gm_r_int (pc := 6) (by decide +kernel) (Or.inl (by decide +kernel)) hq
theorem re_ti (hd : 2 ≤ d) (hE : E0 n K R) (hT : TR N h M) (hN : NR N) (h4 : 0 ≤ N 4 ∧ N 4 < 24) (hq : ∀ M2, fr [(227, none)] M M2 → ws (M2 227) = nthr N f t l y → (∀ j, 395 ≤ j → M2 227 j = M 227 j) → M2 227 8 = M 227 8 → Q (.inl none) n K R M2) : gm_Wp X LX d bc bs 271 0 (gm_ent 271 [gm_vr 226, gm_vi f, gm_vi t, gm_vi l, gm_vi y]) [] n K R M Q := by
  obtain ⟨⟨⟨a0, b0⟩, ⟨a1, b1⟩, ⟨a10, b10⟩, ⟨a11, b11⟩, ⟨a12, b12⟩, a9, b9⟩, ⟨⟨a2, b2⟩, ⟨a5, b5⟩, ⟨a3, b3⟩, ⟨a4, b4⟩, ⟨a6, b6⟩, ⟨a14, b14⟩, ⟨a7, b7⟩, a13, b13⟩, rF, rP, rL⟩ := id hN
  refine gm_sz (gm_p_load (pc := 0) (i := .aload_n 0) (sr := 2) (j := 0) (by decide +kernel) rfl rfl rfl) ?_
  refine gm_c_virt (k := 226) (ci := 11) (mj := 254) (ix := 100) (pc := 1) (as := []) (st := []) (d' := d - 1) (bc' := 0) (bs' := 0) (by decide +kernel) (by decide +kernel) (by decide +kernel) (by decide +kernel) (e0k hE (k := 226) (c := 11) (by decide +kernel)).1 (e0k hE (k := 226) (c := 11) (by decide +kernel)).2 (by decide) (by decide +kernel) (show 0 = gm_na 254 by decide +kernel) fw_c0 (show 1 ≤ gm_ml 254 by decide +kernel) (Nat.le_of_ble_eq_true rfl) (by omega) (Nat.zero_le _) (Nat.zero_le _) ?_
  refine re_let9 hE (tr_w hT (by decide) (by decide) (by decide)) ?_
  show gm_Wp X LX d _ _ 271 4 _ [gm_vi (N 4)] n K _ _ Q
  refine gm_sz (gm_p_stor (pc := 4) (i := .istore 5) (sr := 0) (j := 5) (by decide +kernel) rfl (show 6 ≤ _ from Nat.le_of_ble_eq_true rfl) rfl) ?_
  refine gm_sz (gm_p_load (pc := 6) (i := .aload_n 0) (sr := 2) (j := 0) (by decide +kernel) rfl rfl rfl) ?_
  refine gm_sz (gm_p_load (pc := 7) (i := .iload 5) (sr := 0) (j := 5) (by decide +kernel) rfl rfl rfl) ?_
  refine gm_sz (gm_p_const (pc := 9) (i := .iconst 0) (v := gm_vi 0) (by decide +kernel) (by decide +kernel)) ?_
  refine gm_sz (gm_p_load (pc := 10) (i := .iload_n 1) (sr := 0) (j := 1) (by decide +kernel) rfl rfl rfl) ?_
  refine gm_c_virt (k := 226) (ci := 11) (mj := 272) (ix := 173) (pc := 11) (as := [gm_vi (N 4), gm_vi 0, gm_vi f]) (st := []) (d' := d - 1) (bc' := 0) (bs' := 0) (by decide +kernel) (by decide +kernel) (by decide +kernel) (by decide +kernel) (e0k hE (k := 226) (c := 11) (by decide +kernel)).1 (e0k hE (k := 226) (c := 11) (by decide +kernel)).2 (by decide) (by decide +kernel) (show 3 = gm_na 272 by decide +kernel) (fw_c3 fw_si fw_si fw_si) (show 4 ≤ gm_ml 272 by decide +kernel) (Nat.le_of_ble_eq_true rfl) (by omega) (Nat.zero_le _) (Nat.zero_le _) ?_
  refine re_sl272 hE ⟨by omega, by omega⟩ ⟨by omega, by omega⟩ ?_
  show gm_Wp X LX d _ _ 271 14 _ [] n K _ _ Q
  refine gm_sz (gm_p_load (pc := 14) (i := .aload_n 0) (sr := 2) (j := 0) (by decide +kernel) rfl rfl rfl) ?_
  refine gm_sz (gm_p_load (pc := 15) (i := .iload 5) (sr := 0) (j := 5) (by decide +kernel) rfl rfl rfl) ?_
  refine gm_sz (gm_p_const (pc := 17) (i := .iconst 1) (v := gm_vi 1) (by decide +kernel) (by decide +kernel)) ?_
  refine gm_sz (gm_p_load (pc := 18) (i := .iload_n 2) (sr := 0) (j := 2) (by decide +kernel) rfl rfl rfl) ?_
  refine gm_c_virt (k := 226) (ci := 11) (mj := 272) (ix := 173) (pc := 19) (as := [gm_vi (N 4), gm_vi 1, gm_vi t]) (st := []) (d' := d - 1) (bc' := 0) (bs' := 0) (by decide +kernel) (by decide +kernel) (by decide +kernel) (by decide +kernel) (e0k hE (k := 226) (c := 11) (by decide +kernel)).1 (e0k hE (k := 226) (c := 11) (by decide +kernel)).2 (by decide) (by decide +kernel) (show 3 = gm_na 272 by decide +kernel) (fw_c3 fw_si fw_si fw_si) (show 4 ≤ gm_ml 272 by decide +kernel) (Nat.le_of_ble_eq_true rfl) (by omega) (Nat.zero_le _) (Nat.zero_le _) ?_
  refine re_sl272 hE ⟨by omega, by omega⟩ ⟨by omega, by omega⟩ ?_
  show gm_Wp X LX d _ _ 271 22 _ [] n K _ _ Q
  refine gm_sz (gm_p_load (pc := 22) (i := .aload_n 0) (sr := 2) (j := 0) (by decide +kernel) rfl rfl rfl) ?_
  refine gm_sz (gm_p_load (pc := 23) (i := .iload 5) (sr := 0) (j := 5) (by decide +kernel) rfl rfl rfl) ?_
  refine gm_sz (gm_p_const (pc := 25) (i := .iconst 2) (v := gm_vi 2) (by decide +kernel) (by decide +kernel)) ?_
  refine gm_sz (gm_p_load (pc := 26) (i := .iload_n 3) (sr := 0) (j := 3) (by decide +kernel) rfl rfl rfl) ?_
  refine gm_c_virt (k := 226) (ci := 11) (mj := 272) (ix := 173) (pc := 27) (as := [gm_vi (N 4), gm_vi 2, gm_vi l]) (st := []) (d' := d - 1) (bc' := 0) (bs' := 0) (by decide +kernel) (by decide +kernel) (by decide +kernel) (by decide +kernel) (e0k hE (k := 226) (c := 11) (by decide +kernel)).1 (e0k hE (k := 226) (c := 11) (by decide +kernel)).2 (by decide) (by decide +kernel) (show 3 = gm_na 272 by decide +kernel) (fw_c3 fw_si fw_si fw_si) (show 4 ≤ gm_ml 272 by decide +kernel) (Nat.le_of_ble_eq_true rfl) (by omega) (Nat.zero_le _) (Nat.zero_le _) ?_
  refine re_sl272 hE ⟨by omega, by omega⟩ ⟨by omega, by omega⟩ ?_
  show gm_Wp X LX d _ _ 271 30 _ [] n K _ _ Q
  refine gm_sz (gm_p_load (pc := 30) (i := .aload_n 0) (sr := 2) (j := 0) (by decide +kernel) rfl rfl rfl) ?_
  refine gm_sz (gm_p_load (pc := 31) (i := .iload 5) (sr := 0) (j := 5) (by decide +kernel) rfl rfl rfl) ?_
  refine gm_sz (gm_p_const (pc := 33) (i := .iconst 3) (v := gm_vi 3) (by decide +kernel) (by decide +kernel)) ?_
  refine gm_sz (gm_p_load (pc := 34) (i := .aload_n 0) (sr := 2) (j := 0) (by decide +kernel) rfl rfl rfl) ?_
  refine gm_c_virt (k := 226) (ci := 11) (mj := 266) (ix := 162) (pc := 35) (as := []) (st := [gm_vi 3, gm_vi (N 4), gm_vr 226]) (d' := d - 1) (bc' := 0) (bs' := 0) (by decide +kernel) (by decide +kernel) (by decide +kernel) (by decide +kernel) (e0k hE (k := 226) (c := 11) (by decide +kernel)).1 (e0k hE (k := 226) (c := 11) (by decide +kernel)).2 (by decide) (by decide +kernel) (show 0 = gm_na 266 by decide +kernel) fw_c0 (show 1 ≤ gm_ml 266 by decide +kernel) (Nat.le_of_ble_eq_true rfl) (by omega) (Nat.zero_le _) (Nat.zero_le _) ?_
  refine re_now9 hE ((uM_ne (by omega)).trans ((uM_ne (by omega)).trans ((uM_ne (by omega)).trans (tr_w hT (by decide) (by decide) (by decide))))) ?_
  show gm_Wp X LX d _ _ 271 38 _ [gm_vi (N 9), gm_vi 3, gm_vi (N 4), gm_vr 226] n K _ _ Q
  refine gm_c_virt (k := 226) (ci := 11) (mj := 272) (ix := 173) (pc := 38) (as := [gm_vi (N 4), gm_vi 3, gm_vi (N 9)]) (st := []) (d' := d - 1) (bc' := 0) (bs' := 0) (by decide +kernel) (by decide +kernel) (by decide +kernel) (by decide +kernel) (e0k hE (k := 226) (c := 11) (by decide +kernel)).1 (e0k hE (k := 226) (c := 11) (by decide +kernel)).2 (by decide) (by decide +kernel) (show 3 = gm_na 272 by decide +kernel) (fw_c3 fw_si fw_si fw_si) (show 4 ≤ gm_ml 272 by decide +kernel) (Nat.le_of_ble_eq_true rfl) (by omega) (Nat.zero_le _) (Nat.zero_le _) ?_
  refine re_sl272 hE ⟨by omega, by omega⟩ ⟨by omega, by omega⟩ ?_
  show gm_Wp X LX d _ _ 271 41 _ [] n K _ _ Q
  refine gm_sz (gm_p_load (pc := 41) (i := .aload_n 0) (sr := 2) (j := 0) (by decide +kernel) rfl rfl rfl) ?_
  refine gm_sz (gm_p_load (pc := 42) (i := .iload 5) (sr := 0) (j := 5) (by decide +kernel) rfl rfl rfl) ?_
  refine gm_sz (gm_p_const (pc := 44) (i := .iconst 4) (v := gm_vi 4) (by decide +kernel) (by decide +kernel)) ?_
  refine gm_sz (gm_p_load (pc := 45) (i := .iload 4) (sr := 0) (j := 4) (by decide +kernel) rfl rfl rfl) ?_
  refine gm_c_virt (k := 226) (ci := 11) (mj := 272) (ix := 173) (pc := 47) (as := [gm_vi (N 4), gm_vi 4, gm_vi y]) (st := []) (d' := d - 1) (bc' := 0) (bs' := 0) (by decide +kernel) (by decide +kernel) (by decide +kernel) (by decide +kernel) (e0k hE (k := 226) (c := 11) (by decide +kernel)).1 (e0k hE (k := 226) (c := 11) (by decide +kernel)).2 (by decide) (by decide +kernel) (show 3 = gm_na 272 by decide +kernel) (fw_c3 fw_si fw_si fw_si) (show 4 ≤ gm_ml 272 by decide +kernel) (Nat.le_of_ble_eq_true rfl) (by omega) (Nat.zero_le _) (Nat.zero_le _) ?_
  refine re_sl272 hE ⟨by omega, by omega⟩ ⟨by omega, by omega⟩ ?_
  show gm_Wp X LX d _ _ 271 50 _ [] n K _ _ Q
  refine gm_sz (gm_p_load (pc := 50) (i := .aload_n 0) (sr := 2) (j := 0) (by decide +kernel) rfl rfl rfl) ?_
  refine gm_sz (gm_p_load (pc := 51) (i := .iload 5) (sr := 0) (j := 5) (by decide +kernel) rfl rfl rfl) ?_
  refine gm_sz (gm_p_const (pc := 53) (i := .iconst 5) (v := gm_vi 5) (by decide +kernel) (by decide +kernel)) ?_
  refine gm_sz (gm_p_const (pc := 54) (i := .iconst (-1)) (v := gm_vi (-1)) (by decide +kernel) (by decide +kernel)) ?_
  refine gm_c_virt (k := 226) (ci := 11) (mj := 272) (ix := 173) (pc := 55) (as := [gm_vi (N 4), gm_vi 5, gm_vi (-1)]) (st := []) (d' := d - 1) (bc' := 0) (bs' := 0) (by decide +kernel) (by decide +kernel) (by decide +kernel) (by decide +kernel) (e0k hE (k := 226) (c := 11) (by decide +kernel)).1 (e0k hE (k := 226) (c := 11) (by decide +kernel)).2 (by decide) (by decide +kernel) (show 3 = gm_na 272 by decide +kernel) (fw_c3 fw_si fw_si fw_si) (show 4 ≤ gm_ml 272 by decide +kernel) (Nat.le_of_ble_eq_true rfl) (by omega) (Nat.zero_le _) (Nat.zero_le _) ?_
  refine re_sl272 hE ⟨by omega, by omega⟩ ⟨by omega, by omega⟩ ?_
  show gm_Wp X LX d _ _ 271 58 _ [] n K _ _ Q
  refine gm_sz (gm_p_load (pc := 58) (i := .aload_n 0) (sr := 2) (j := 0) (by decide +kernel) rfl rfl rfl) ?_
  refine gm_sz (gm_p_load (pc := 59) (i := .iload 5) (sr := 0) (j := 5) (by decide +kernel) rfl rfl rfl) ?_
  refine gm_sz (gm_p_const (pc := 61) (i := .bipush 6) (v := gm_vi 6) (by decide +kernel) (by decide +kernel)) ?_
  refine gm_sz (gm_p_const (pc := 63) (i := .iconst (-1)) (v := gm_vi (-1)) (by decide +kernel) (by decide +kernel)) ?_
  refine gm_c_virt (k := 226) (ci := 11) (mj := 272) (ix := 173) (pc := 64) (as := [gm_vi (N 4), gm_vi 6, gm_vi (-1)]) (st := []) (d' := d - 1) (bc' := 0) (bs' := 0) (by decide +kernel) (by decide +kernel) (by decide +kernel) (by decide +kernel) (e0k hE (k := 226) (c := 11) (by decide +kernel)).1 (e0k hE (k := 226) (c := 11) (by decide +kernel)).2 (by decide) (by decide +kernel) (show 3 = gm_na 272 by decide +kernel) (fw_c3 fw_si fw_si fw_si) (show 4 ≤ gm_ml 272 by decide +kernel) (Nat.le_of_ble_eq_true rfl) (by omega) (Nat.zero_le _) (Nat.zero_le _) ?_
  refine re_sl272 hE ⟨by omega, by omega⟩ ⟨by omega, by omega⟩ ?_
  show gm_Wp X LX d _ _ 271 67 _ [] n K _ _ Q
  refine gm_sz (gm_p_load (pc := 67) (i := .aload_n 0) (sr := 2) (j := 0) (by decide +kernel) rfl rfl rfl) ?_
  refine gm_sz (fw_gr (pc := 68) (ix := 13) (ci := 11) (j := 1) (r := 227) (by decide +kernel) (e0k hE (k := 226) (c := 11) (by decide +kernel)) (by decide +kernel) (by decide +kernel) (e0r hE (k := 226) (j := 1) (r := 227) (by decide +kernel))) ?_
  refine gm_sz (gm_p_const (pc := 71) (i := .iconst 4) (v := gm_vi 4) (by decide +kernel) (by decide +kernel)) ?_
  refine gm_sz (gm_p_dup2 (pc := 72) (by decide +kernel) fw_si fw_sr) ?_
  refine gm_sz (fw_ia (pc := 73) (k := 227) (len := 2093) (e0 := 4) (x := N 4) (by decide +kernel) (e0a hE (k := 227) (q := (0, 2093)) (by decide +kernel)).1 (e0a hE (k := 227) (q := (0, 2093)) (by decide +kernel)).2 (by decide) ⟨by omega, by omega⟩ ((uM_ne (by omega)).trans ((uM_ne (by omega)).trans ((uM_ne (by omega)).trans ((uM_ne (by omega)).trans ((uM_ne (by omega)).trans ((uM_ne (by omega)).trans ((uM_ne (by omega)).trans (tr_w hT (by decide) (by decide) (by decide)))))))))) ?_
  refine gm_sz (gm_p_const (pc := 74) (i := .iconst 1) (v := gm_vi 1) (by decide +kernel) (by decide +kernel)) ?_
  refine gm_sz (gm_p_bin (pc := 75) (i := .iadd) (f := fun x y => x + y) (by decide +kernel) rfl) ?_
  refine gm_sz (fw_is (pc := 76) (k := 227) (len := 2093) (e0 := 4) (x := (N 4) + 1) (M' := gm_uM (gm_uM (gm_uM (gm_uM (gm_uM (gm_uM (gm_uM (gm_uM M 227 ((119 + (7 * (N 4))) + 0) f) 227 ((119 + (7 * (N 4))) + 1) t) 227 ((119 + (7 * (N 4))) + 2) l) 227 ((119 + (7 * (N 4))) + 3) (N 9)) 227 ((119 + (7 * (N 4))) + 4) y) 227 ((119 + (7 * (N 4))) + 5) (-1)) 227 ((119 + (7 * (N 4))) + 6) (-1)) 227 4 ((N 4) + 1)) (by decide +kernel) (e0a hE (k := 227) (q := (0, 2093)) (by decide +kernel)).1 (e0a hE (k := 227) (q := (0, 2093)) (by decide +kernel)).2 (by decide) ⟨by omega, by omega⟩ rfl) ?_
  have e1 : (gm_uM (gm_uM (gm_uM (gm_uM (gm_uM (gm_uM (gm_uM (gm_uM M 227 ((119 + (7 * (N 4))) + 0) f) 227 ((119 + (7 * (N 4))) + 1) t) 227 ((119 + (7 * (N 4))) + 2) l) 227 ((119 + (7 * (N 4))) + 3) (N 9)) 227 ((119 + (7 * (N 4))) + 4) y) 227 ((119 + (7 * (N 4))) + 5) (-1)) 227 ((119 + (7 * (N 4))) + 6) (-1)) 227 4 ((N 4) + 1)) 227 = nup (nup (nup (nup (nup (nup (nup (nup (M 227) ((119 + (7 * (N 4))) + 0) (f)) ((119 + (7 * (N 4))) + 1) (t)) ((119 + (7 * (N 4))) + 2) (l)) ((119 + (7 * (N 4))) + 3) (N 9)) ((119 + (7 * (N 4))) + 4) (y)) ((119 + (7 * (N 4))) + 5) ((-1))) ((119 + (7 * (N 4))) + 6) ((-1))) (4) ((N 4) + 1) := by
    exact (nup_s (nup_s (nup_s (nup_s (nup_s (nup_s (nup_s (nup_s rfl))))))))
  have e2 : ws (nup (nup (nup (nup (nup (nup (nup (nup (M 227) ((119 + (7 * (N 4))) + 0) (f)) ((119 + (7 * (N 4))) + 1) (t)) ((119 + (7 * (N 4))) + 2) (l)) ((119 + (7 * (N 4))) + 3) (N 9)) ((119 + (7 * (N 4))) + 4) (y)) ((119 + (7 * (N 4))) + 5) ((-1))) ((119 + (7 * (N 4))) + 6) ((-1))) (4) ((N 4) + 1)) = nup (nup (nup (nup (nup (nup (nup (nup (ws (M 227)) (119 + (N 4 * 7 + 0)) (f)) (119 + (N 4 * 7 + 1)) (t)) (119 + (N 4 * 7 + 2)) (l)) (119 + (N 4 * 7 + 3)) (N 9)) (119 + (N 4 * 7 + 4)) (y)) (119 + (N 4 * 7 + 5)) (-1)) (119 + (N 4 * 7 + 6)) (-1)) (4) (N 4 + 1) := by
    rw [ws_put (k := 4) ⟨by omega, by omega, by omega⟩, ws_put (k := (119 + (7 * (N 4))) + 6) ⟨by omega, by omega, by omega⟩, ws_put (k := (119 + (7 * (N 4))) + 5) ⟨by omega, by omega, by omega⟩, ws_put (k := (119 + (7 * (N 4))) + 4) ⟨by omega, by omega, by omega⟩, ws_put (k := (119 + (7 * (N 4))) + 3) ⟨by omega, by omega, by omega⟩, ws_put (k := (119 + (7 * (N 4))) + 2) ⟨by omega, by omega, by omega⟩, ws_put (k := (119 + (7 * (N 4))) + 1) ⟨by omega, by omega, by omega⟩, ws_put (k := (119 + (7 * (N 4))) + 0) ⟨by omega, by omega, by omega⟩]
    rw [show (119 + (7 * (N 4))) + 0 = 119 + (N 4 * 7 + 0) by omega, show (119 + (7 * (N 4))) + 1 = 119 + (N 4 * 7 + 1) by omega, show (119 + (7 * (N 4))) + 2 = 119 + (N 4 * 7 + 2) by omega, show (119 + (7 * (N 4))) + 3 = 119 + (N 4 * 7 + 3) by omega, show (119 + (7 * (N 4))) + 4 = 119 + (N 4 * 7 + 4) by omega, show (119 + (7 * (N 4))) + 5 = 119 + (N 4 * 7 + 5) by omega, show (119 + (7 * (N 4))) + 6 = 119 + (N 4 * 7 + 6) by omega]
  have e3 : ws ((gm_uM (gm_uM (gm_uM (gm_uM (gm_uM (gm_uM (gm_uM (gm_uM M 227 ((119 + (7 * (N 4))) + 0) f) 227 ((119 + (7 * (N 4))) + 1) t) 227 ((119 + (7 * (N 4))) + 2) l) 227 ((119 + (7 * (N 4))) + 3) (N 9)) 227 ((119 + (7 * (N 4))) + 4) y) 227 ((119 + (7 * (N 4))) + 5) (-1)) 227 ((119 + (7 * (N 4))) + 6) (-1)) 227 4 ((N 4) + 1)) 227) = nthr N f t l y := by
    rw [e1, e2, hT.1]
    funext i
    unfold nthr
    by_cases h4 : i = 4
    · subst h4
      rw [nup_at, nup_ne (by omega), nup_ne (by omega), nup_ne (by omega), nup_ne (by omega), nup_ne (by omega), nup_ne (by omega), nup_ne (by omega), nup_at]
    · rw [nup_ne h4]
      unfold nup
      try dsimp only
      rw [if_neg h4]
  exact gm_r_void (pc := 77) (by decide +kernel) (by decide +kernel) (hq (gm_uM (gm_uM (gm_uM (gm_uM (gm_uM (gm_uM (gm_uM (gm_uM M 227 ((119 + (7 * (N 4))) + 0) f) 227 ((119 + (7 * (N 4))) + 1) t) 227 ((119 + (7 * (N 4))) + 2) l) 227 ((119 + (7 * (N 4))) + 3) (N 9)) 227 ((119 + (7 * (N 4))) + 4) y) 227 ((119 + (7 * (N 4))) + 5) (-1)) 227 ((119 + (7 * (N 4))) + 6) (-1)) 227 4 ((N 4) + 1)) (fr_p (fr_p (fr_p (fr_p (fr_p (fr_p (fr_p (fr_p fr_0 (Or.inl (by decide))) (Or.inl (by decide))) (Or.inl (by decide))) (Or.inl (by decide))) (Or.inl (by decide))) (Or.inl (by decide))) (Or.inl (by decide))) (Or.inl (by decide))) e3 (fun j hj => ((uM_ne (by omega)).trans ((uM_ne (by omega)).trans ((uM_ne (by omega)).trans ((uM_ne (by omega)).trans ((uM_ne (by omega)).trans ((uM_ne (by omega)).trans ((uM_ne (by omega)).trans ((uM_ne (by omega)).trans rfl))))))))) ((uM_ne (by omega)).trans ((uM_ne (by omega)).trans ((uM_ne (by omega)).trans ((uM_ne (by omega)).trans ((uM_ne (by omega)).trans ((uM_ne (by omega)).trans ((uM_ne (by omega)).trans ((uM_ne (by omega)).trans rfl)))))))))
theorem nthr_4 (h0 : 0 ≤ N 4) {M2 : gm_M} (h9 : ws (M2 227) = nthr N f t l y) : M2 227 4 = N 4 + 1 := by
  have e1 : M2 227 4 = ws (M2 227) 4 := rfl
  rw [e1, h9]
  unfold nthr
  rw [nup_ne (by omega), nup_ne (by omega), nup_ne (by omega), nup_ne (by omega), nup_ne (by omega), nup_ne (by omega), nup_ne (by omega), nup_at]
theorem ra_315 (hd : 6 ≤ d) (hE : E0 n K R) (hT : TR N h M) (hN : NR N) (hH : HISR A (M 227 8) M) (hf : gm_ir f) (ht : gm_ir t) (q3 : ¬ ((0 ≤ f ∧ f < N 3) ∧ (0 ≤ t ∧ t < N 3)) → ∀ M2, fr [(226, some 0)] M M2 → M2 226 0 = 1 → Q (.inl (some (gm_vi 0))) n K R M2) (q0 : 0 ≤ f ∧ f < N 3 → 0 ≤ t ∧ t < N 3 → f = t → ∀ M2, fr [(226, some 0)] M M2 → M2 226 0 = 2 → Q (.inl (some (gm_vi 0))) n K R M2) (q1 : 0 ≤ f ∧ f < N 3 → 0 ≤ t ∧ t < N 3 → ¬ f = t → N 4 = 24 → ∀ M2, fr [(226, some 0)] M M2 → M2 226 0 = 3 → Q (.inl (some (gm_vi 0))) n K R M2) (hq : 0 ≤ f ∧ f < N 3 → 0 ≤ t ∧ t < N 3 → ¬ f = t → N 4 < 24 → ∀ M2 : gm_M, fr [(226, some 0), (226, some 6), (230, none), (227, none)] M M2 → HISR ((N :: A).take 12) (M 227 8) M2 → ws (M2 227) = nthr N f t ((N (95 + (f * 3 + 0)))) ((N (95 + (f * 3 + 1)))) → (∀ j, 395 ≤ j → M2 227 j = M 227 j) → M2 227 8 = M 227 8 → M2 226 0 = 0 → Q (.inl (some (gm_vi (N 4)))) n K R M2) : gm_Wp X LX d bc bs 315 0 (gm_ent 315 [gm_vr 226, gm_vi f, gm_vi t]) [] n K R M Q := by
  obtain ⟨⟨⟨a0, b0⟩, ⟨a1, b1⟩, ⟨a10, b10⟩, ⟨a11, b11⟩, ⟨a12, b12⟩, a9, b9⟩, ⟨⟨a2, b2⟩, ⟨a5, b5⟩, ⟨a3, b3⟩, ⟨a4, b4⟩, ⟨a6, b6⟩, ⟨a14, b14⟩, ⟨a7, b7⟩, a13, b13⟩, rF, rP, rL⟩ := id hN
  refine gm_sz (gm_p_load (pc := 0) (i := .aload_n 0) (sr := 2) (j := 0) (by decide +kernel) rfl rfl rfl) ?_
  refine gm_sz (gm_p_const (pc := 1) (i := .iconst 0) (v := gm_vi 0) (by decide +kernel) (by decide +kernel)) ?_
  refine gm_sz (fw_pi (pc := 2) (ix := 3) (ci := 11) (j := 0) (M' := gm_uM M 226 0 0) (by decide +kernel) (e0k hE (k := 226) (c := 11) (by decide +kernel)) (by decide +kernel) (by decide +kernel) (by decide +kernel) rfl) ?_
  refine gm_sz (gm_p_load (pc := 5) (i := .aload_n 0) (sr := 2) (j := 0) (by decide +kernel) rfl rfl rfl) ?_
  refine gm_sz (gm_p_load (pc := 6) (i := .aload_n 0) (sr := 2) (j := 0) (by decide +kernel) rfl rfl rfl) ?_
  refine gm_sz (gm_p_load (pc := 7) (i := .iload_n 1) (sr := 0) (j := 1) (by decide +kernel) rfl rfl rfl) ?_
  refine gm_c_virt (k := 226) (ci := 11) (mj := 298) (ix := 393) (pc := 8) (as := [gm_vi f]) (st := [gm_vr 226]) (d' := d - 1) (bc' := 0) (bs' := 0) (by decide +kernel) (by decide +kernel) (by decide +kernel) (by decide +kernel) (e0k hE (k := 226) (c := 11) (by decide +kernel)).1 (e0k hE (k := 226) (c := 11) (by decide +kernel)).2 (by decide) (by decide +kernel) (show 1 = gm_na 298 by decide +kernel) (fw_c1 fw_si) (show 2 ≤ gm_ml 298 by decide +kernel) (Nat.le_of_ble_eq_true rfl) (by omega) (Nat.zero_le _) (Nat.zero_le _) ?_
  refine no_298 (i := f) (by omega) hE (tr_fr (W := [(226, some 0)]) hT (fr_p fr_0 (Or.inr (by decide))) (by decide)) hN hf (fun n8 => ?_) (fun n8 => ?_)
  · show gm_Wp X LX d _ _ 315 11 _ [gm_vi 1, gm_vr 226] n K _ _ Q
    have n8 : ¬ (0 ≤ f ∧ f < N 3) := n8
    refine fw_iftd (cc := .ne) (pc := 11) (off := 11) (by decide +kernel) (by decide) ⟨by decide, by decide⟩ (by decide) ?_
    refine gm_sz (gm_p_const (pc := 22) (i := .iconst 1) (v := gm_vi 1) (by decide +kernel) (by decide +kernel)) ?_
    refine gm_sz (gm_p_goto (pc := 23) (off := 4) (by decide +kernel) (by decide)) ?_
    refine gm_sz (gm_p_const (pc := 27) (i := .iconst 1) (v := gm_vi 1) (by decide +kernel) (by decide +kernel)) ?_
    refine gm_c_virt (k := 226) (ci := 11) (mj := 282) (ix := 300) (pc := 28) (as := [gm_vi 1, gm_vi 1]) (st := []) (d' := d - 1) (bc' := 0) (bs' := 0) (by decide +kernel) (by decide +kernel) (by decide +kernel) (by decide +kernel) (e0k hE (k := 226) (c := 11) (by decide +kernel)).1 (e0k hE (k := 226) (c := 11) (by decide +kernel)).2 (by decide) (by decide +kernel) (show 2 = gm_na 282 by decide +kernel) (fw_c2 fw_si fw_si) (show 3 ≤ gm_ml 282 by decide +kernel) (Nat.le_of_ble_eq_true rfl) (by omega) (Nat.zero_le _) (Nat.zero_le _) ?_
    refine tf_1 hE ?_
    show gm_Wp X LX d _ _ 315 31 _ [gm_vi 1] n K _ _ Q
    refine fw_iftd (cc := .ne) (pc := 31) (off := 43) (by decide +kernel) (by decide) ⟨by decide, by decide⟩ (by decide) ?_
    refine gm_sz (gm_p_const (pc := 74) (i := .iconst 0) (v := gm_vi 0) (by decide +kernel) (by decide +kernel)) ?_
    exact gm_r_int (pc := 75) (by decide +kernel) (Or.inl (by decide +kernel)) (q3 (by omega) (gm_uM (gm_uM M 226 0 0) 226 0 1) (fr_p (fr_p fr_0 (Or.inr (by decide))) (Or.inr (by decide))) uM_at)
  · show gm_Wp X LX d _ _ 315 11 _ [gm_vi 0, gm_vr 226] n K _ _ Q
    have n8 : 0 ≤ f ∧ f < N 3 := n8
    refine fw_iffd (cc := .ne) (pc := 11) (off := 11) (by decide +kernel) (by decide) ⟨by decide, by decide⟩ (by decide) ?_
    refine gm_sz (gm_p_load (pc := 14) (i := .aload_n 0) (sr := 2) (j := 0) (by decide +kernel) rfl rfl rfl) ?_
    refine gm_sz (gm_p_load (pc := 15) (i := .iload_n 2) (sr := 0) (j := 2) (by decide +kernel) rfl rfl rfl) ?_
    refine gm_c_virt (k := 226) (ci := 11) (mj := 298) (ix := 393) (pc := 16) (as := [gm_vi t]) (st := [gm_vr 226]) (d' := d - 1) (bc' := 0) (bs' := 0) (by decide +kernel) (by decide +kernel) (by decide +kernel) (by decide +kernel) (e0k hE (k := 226) (c := 11) (by decide +kernel)).1 (e0k hE (k := 226) (c := 11) (by decide +kernel)).2 (by decide) (by decide +kernel) (show 1 = gm_na 298 by decide +kernel) (fw_c1 fw_si) (show 2 ≤ gm_ml 298 by decide +kernel) (Nat.le_of_ble_eq_true rfl) (by omega) (Nat.zero_le _) (Nat.zero_le _) ?_
    refine no_298 (i := t) (by omega) hE (tr_fr (W := [(226, some 0)]) hT (fr_p fr_0 (Or.inr (by decide))) (by decide)) hN ht (fun n16 => ?_) (fun n16 => ?_)
    · show gm_Wp X LX d _ _ 315 19 _ [gm_vi 1, gm_vr 226] n K _ _ Q
      have n16 : ¬ (0 ≤ t ∧ t < N 3) := n16
      refine fw_iffd (cc := .eq) (pc := 19) (off := 7) (by decide +kernel) (by decide) ⟨by decide, by decide⟩ (by decide) ?_
      refine gm_sz (gm_p_const (pc := 22) (i := .iconst 1) (v := gm_vi 1) (by decide +kernel) (by decide +kernel)) ?_
      refine gm_sz (gm_p_goto (pc := 23) (off := 4) (by decide +kernel) (by decide)) ?_
      refine gm_sz (gm_p_const (pc := 27) (i := .iconst 1) (v := gm_vi 1) (by decide +kernel) (by decide +kernel)) ?_
      refine gm_c_virt (k := 226) (ci := 11) (mj := 282) (ix := 300) (pc := 28) (as := [gm_vi 1, gm_vi 1]) (st := []) (d' := d - 1) (bc' := 0) (bs' := 0) (by decide +kernel) (by decide +kernel) (by decide +kernel) (by decide +kernel) (e0k hE (k := 226) (c := 11) (by decide +kernel)).1 (e0k hE (k := 226) (c := 11) (by decide +kernel)).2 (by decide) (by decide +kernel) (show 2 = gm_na 282 by decide +kernel) (fw_c2 fw_si fw_si) (show 3 ≤ gm_ml 282 by decide +kernel) (Nat.le_of_ble_eq_true rfl) (by omega) (Nat.zero_le _) (Nat.zero_le _) ?_
      refine tf_1 hE ?_
      show gm_Wp X LX d _ _ 315 31 _ [gm_vi 1] n K _ _ Q
      refine fw_iftd (cc := .ne) (pc := 31) (off := 43) (by decide +kernel) (by decide) ⟨by decide, by decide⟩ (by decide) ?_
      refine gm_sz (gm_p_const (pc := 74) (i := .iconst 0) (v := gm_vi 0) (by decide +kernel) (by decide +kernel)) ?_
      exact gm_r_int (pc := 75) (by decide +kernel) (Or.inl (by decide +kernel)) (q3 (by omega) (gm_uM (gm_uM M 226 0 0) 226 0 1) (fr_p (fr_p fr_0 (Or.inr (by decide))) (Or.inr (by decide))) uM_at)
    · show gm_Wp X LX d _ _ 315 19 _ [gm_vi 0, gm_vr 226] n K _ _ Q
      have n16 : 0 ≤ t ∧ t < N 3 := n16
      refine fw_iftd (cc := .eq) (pc := 19) (off := 7) (by decide +kernel) (by decide) ⟨by decide, by decide⟩ (by decide) ?_
      refine gm_sz (gm_p_const (pc := 26) (i := .iconst 0) (v := gm_vi 0) (by decide +kernel) (by decide +kernel)) ?_
      refine gm_sz (gm_p_const (pc := 27) (i := .iconst 1) (v := gm_vi 1) (by decide +kernel) (by decide +kernel)) ?_
      refine gm_c_virt (k := 226) (ci := 11) (mj := 282) (ix := 300) (pc := 28) (as := [gm_vi 0, gm_vi 1]) (st := []) (d' := d - 1) (bc' := 0) (bs' := 0) (by decide +kernel) (by decide +kernel) (by decide +kernel) (by decide +kernel) (e0k hE (k := 226) (c := 11) (by decide +kernel)).1 (e0k hE (k := 226) (c := 11) (by decide +kernel)).2 (by decide) (by decide +kernel) (show 2 = gm_na 282 by decide +kernel) (fw_c2 fw_si fw_si) (show 3 ≤ gm_ml 282 by decide +kernel) (Nat.le_of_ble_eq_true rfl) (by omega) (Nat.zero_le _) (Nat.zero_le _) ?_
      refine tf_0 hE ?_
      show gm_Wp X LX d _ _ 315 31 _ [gm_vi 0] n K _ _ Q
      refine fw_iffd (cc := .ne) (pc := 31) (off := 43) (by decide +kernel) (by decide) ⟨by decide, by decide⟩ (by decide) ?_
      refine gm_sz (gm_p_load (pc := 34) (i := .aload_n 0) (sr := 2) (j := 0) (by decide +kernel) rfl rfl rfl) ?_
      refine gm_sz (gm_p_load (pc := 35) (i := .iload_n 1) (sr := 0) (j := 1) (by decide +kernel) rfl rfl rfl) ?_
      refine gm_sz (gm_p_load (pc := 36) (i := .iload_n 2) (sr := 0) (j := 2) (by decide +kernel) rfl rfl rfl) ?_
      refine fw_ic (cc := .ne) (pc := 37) (off := 7) (by decide +kernel) (by decide) hf ht (fun h37 => ?_) (fun h37 => ?_)
      · have h37 : ¬ f = t := h37
        refine gm_sz (gm_p_const (pc := 44) (i := .iconst 0) (v := gm_vi 0) (by decide +kernel) (by decide +kernel)) ?_
        refine gm_sz (gm_p_const (pc := 45) (i := .iconst 2) (v := gm_vi 2) (by decide +kernel) (by decide +kernel)) ?_
        refine gm_c_virt (k := 226) (ci := 11) (mj := 282) (ix := 300) (pc := 46) (as := [gm_vi 0, gm_vi 2]) (st := []) (d' := d - 1) (bc' := 0) (bs' := 0) (by decide +kernel) (by decide +kernel) (by decide +kernel) (by decide +kernel) (e0k hE (k := 226) (c := 11) (by decide +kernel)).1 (e0k hE (k := 226) (c := 11) (by decide +kernel)).2 (by decide) (by decide +kernel) (show 2 = gm_na 282 by decide +kernel) (fw_c2 fw_si fw_si) (show 3 ≤ gm_ml 282 by decide +kernel) (Nat.le_of_ble_eq_true rfl) (by omega) (Nat.zero_le _) (Nat.zero_le _) ?_
        refine tf_0 hE ?_
        show gm_Wp X LX d _ _ 315 49 _ [gm_vi 0] n K _ _ Q
        refine fw_iffd (cc := .ne) (pc := 49) (off := 25) (by decide +kernel) (by decide) ⟨by decide, by decide⟩ (by decide) ?_
        refine gm_sz (gm_p_load (pc := 52) (i := .aload_n 0) (sr := 2) (j := 0) (by decide +kernel) rfl rfl rfl) ?_
        refine gm_sz (gm_p_load (pc := 53) (i := .aload_n 0) (sr := 2) (j := 0) (by decide +kernel) rfl rfl rfl) ?_
        refine gm_c_virt (k := 226) (ci := 11) (mj := 254) (ix := 100) (pc := 54) (as := []) (st := [gm_vr 226]) (d' := d - 1) (bc' := 0) (bs' := 0) (by decide +kernel) (by decide +kernel) (by decide +kernel) (by decide +kernel) (e0k hE (k := 226) (c := 11) (by decide +kernel)).1 (e0k hE (k := 226) (c := 11) (by decide +kernel)).2 (by decide) (by decide +kernel) (show 0 = gm_na 254 by decide +kernel) fw_c0 (show 1 ≤ gm_ml 254 by decide +kernel) (Nat.le_of_ble_eq_true rfl) (by omega) (Nat.zero_le _) (Nat.zero_le _) ?_
        refine re_let9 hE ((uM_ne (by omega)).trans (tr_w hT (by decide) (by decide) (by decide))) ?_
        show gm_Wp X LX d _ _ 315 57 _ [gm_vi (N 4), gm_vr 226] n K _ _ Q
        refine gm_sz (gm_p_const (pc := 57) (i := .bipush 24) (v := gm_vi 24) (by decide +kernel) (by decide +kernel)) ?_
        refine fw_ic (cc := .ne) (pc := 59) (off := 7) (by decide +kernel) (by decide) ⟨by omega, by omega⟩ ⟨by decide, by decide⟩ (fun h59 => ?_) (fun h59 => ?_)
        · have h59 : ¬ (N 4) = 24 := h59
          refine gm_sz (gm_p_const (pc := 66) (i := .iconst 0) (v := gm_vi 0) (by decide +kernel) (by decide +kernel)) ?_
          refine gm_sz (gm_p_const (pc := 67) (i := .iconst 3) (v := gm_vi 3) (by decide +kernel) (by decide +kernel)) ?_
          refine gm_c_virt (k := 226) (ci := 11) (mj := 282) (ix := 300) (pc := 68) (as := [gm_vi 0, gm_vi 3]) (st := []) (d' := d - 1) (bc' := 0) (bs' := 0) (by decide +kernel) (by decide +kernel) (by decide +kernel) (by decide +kernel) (e0k hE (k := 226) (c := 11) (by decide +kernel)).1 (e0k hE (k := 226) (c := 11) (by decide +kernel)).2 (by decide) (by decide +kernel) (show 2 = gm_na 282 by decide +kernel) (fw_c2 fw_si fw_si) (show 3 ≤ gm_ml 282 by decide +kernel) (Nat.le_of_ble_eq_true rfl) (by omega) (Nat.zero_le _) (Nat.zero_le _) ?_
          refine tf_0 hE ?_
          show gm_Wp X LX d _ _ 315 71 _ [gm_vi 0] n K _ _ Q
          refine fw_iftd (cc := .eq) (pc := 71) (off := 5) (by decide +kernel) (by decide) ⟨by decide, by decide⟩ (by decide) ?_
          refine gm_sz (gm_p_load (pc := 76) (i := .aload_n 0) (sr := 2) (j := 0) (by decide +kernel) rfl rfl rfl) ?_
          refine gm_c_virt (k := 226) (ci := 11) (mj := 316) (ix := 411) (pc := 77) (as := []) (st := []) (d' := d - 1) (bc' := 0) (bs' := 0) (by decide +kernel) (by decide +kernel) (by decide +kernel) (by decide +kernel) (e0k hE (k := 226) (c := 11) (by decide +kernel)).1 (e0k hE (k := 226) (c := 11) (by decide +kernel)).2 (by decide) (by decide +kernel) (show 0 = gm_na 316 by decide +kernel) fw_c0 (show 1 ≤ gm_ml 316 by decide +kernel) (Nat.le_of_ble_eq_true rfl) (by omega) (Nat.zero_le _) (Nat.zero_le _) ?_
          refine rm_c316 hE (tr_fr (W := [(226, some 0)]) hT (fr_p fr_0 (Or.inr (by decide))) (by decide)).1 (by have h9 : HISR A (M 227 8) (gm_uM M 226 0 0) := hisr_w (W := [(226, some 0)]) hH (fr_p fr_0 (Or.inr (by decide))) (by decide); rwa [show M 227 8 = (gm_uM M 226 0 0) 227 8 from ((uM_ne (by omega))).symm] at h9) (fun M77 hf77 hs77 => ?_)
          show gm_Wp X LX d _ _ 315 80 _ [] n K _ _ Q
          refine gm_sz (gm_p_load (pc := 80) (i := .aload_n 0) (sr := 2) (j := 0) (by decide +kernel) rfl rfl rfl) ?_
          refine gm_sz (gm_p_load (pc := 81) (i := .iload_n 1) (sr := 0) (j := 1) (by decide +kernel) rfl rfl rfl) ?_
          refine gm_sz (gm_p_load (pc := 82) (i := .iload_n 2) (sr := 0) (j := 2) (by decide +kernel) rfl rfl rfl) ?_
          refine gm_sz (gm_p_load (pc := 83) (i := .aload_n 0) (sr := 2) (j := 0) (by decide +kernel) rfl rfl rfl) ?_
          refine gm_sz (gm_p_load (pc := 84) (i := .iload_n 1) (sr := 0) (j := 1) (by decide +kernel) rfl rfl rfl) ?_
          refine gm_sz (gm_p_const (pc := 85) (i := .iconst 0) (v := gm_vi 0) (by decide +kernel) (by decide +kernel)) ?_
          refine gm_c_virt (k := 226) (ci := 11) (mj := 299) (ix := 396) (pc := 86) (as := [gm_vi f, gm_vi 0]) (st := [gm_vi t, gm_vi f, gm_vr 226]) (d' := d - 1) (bc' := 0) (bs' := 0) (by decide +kernel) (by decide +kernel) (by decide +kernel) (by decide +kernel) (e0k hE (k := 226) (c := 11) (by decide +kernel)).1 (e0k hE (k := 226) (c := 11) (by decide +kernel)).2 (by decide) (by decide +kernel) (show 2 = gm_na 299 by decide +kernel) (fw_c2 fw_si fw_si) (show 3 ≤ gm_ml 299 by decide +kernel) (Nat.le_of_ble_eq_true rfl) (by omega) (Nat.zero_le _) (Nat.zero_le _) ?_
          refine re_of hE (tr_fr (W := [(226, some 0), (226, some 6), (230, none)]) hT (fr_t (fr_p fr_0 (Or.inr (by decide))) hf77 (by decide)) (by decide)) hN ⟨by omega, by omega⟩ ⟨by omega, by omega⟩ ?_
          show gm_Wp X LX d _ _ 315 89 _ [gm_vi (N (95 + (f * 3 + 0))), gm_vi t, gm_vi f, gm_vr 226] n K _ _ Q
          refine gm_sz (gm_p_load (pc := 89) (i := .aload_n 0) (sr := 2) (j := 0) (by decide +kernel) rfl rfl rfl) ?_
          refine gm_sz (gm_p_load (pc := 90) (i := .iload_n 1) (sr := 0) (j := 1) (by decide +kernel) rfl rfl rfl) ?_
          refine gm_sz (gm_p_const (pc := 91) (i := .iconst 1) (v := gm_vi 1) (by decide +kernel) (by decide +kernel)) ?_
          refine gm_c_virt (k := 226) (ci := 11) (mj := 299) (ix := 396) (pc := 92) (as := [gm_vi f, gm_vi 1]) (st := [gm_vi (N (95 + (f * 3 + 0))), gm_vi t, gm_vi f, gm_vr 226]) (d' := d - 1) (bc' := 0) (bs' := 0) (by decide +kernel) (by decide +kernel) (by decide +kernel) (by decide +kernel) (e0k hE (k := 226) (c := 11) (by decide +kernel)).1 (e0k hE (k := 226) (c := 11) (by decide +kernel)).2 (by decide) (by decide +kernel) (show 2 = gm_na 299 by decide +kernel) (fw_c2 fw_si fw_si) (show 3 ≤ gm_ml 299 by decide +kernel) (Nat.le_of_ble_eq_true rfl) (by omega) (Nat.zero_le _) (Nat.zero_le _) ?_
          refine re_of hE (tr_fr (W := [(226, some 0), (226, some 6), (230, none)]) hT (fr_t (fr_p fr_0 (Or.inr (by decide))) hf77 (by decide)) (by decide)) hN ⟨by omega, by omega⟩ ⟨by omega, by omega⟩ ?_
          show gm_Wp X LX d _ _ 315 95 _ [gm_vi (N (95 + (f * 3 + 1))), gm_vi (N (95 + (f * 3 + 0))), gm_vi t, gm_vi f, gm_vr 226] n K _ _ Q
          refine gm_c_virt (k := 226) (ci := 11) (mj := 271) (ix := 177) (pc := 95) (as := [gm_vi f, gm_vi t, gm_vi (N (95 + (f * 3 + 0))), gm_vi (N (95 + (f * 3 + 1)))]) (st := []) (d' := d - 1) (bc' := 0) (bs' := 0) (by decide +kernel) (by decide +kernel) (by decide +kernel) (by decide +kernel) (e0k hE (k := 226) (c := 11) (by decide +kernel)).1 (e0k hE (k := 226) (c := 11) (by decide +kernel)).2 (by decide) (by decide +kernel) (show 4 = gm_na 271 by decide +kernel) (fw_c4 fw_si fw_si fw_si fw_si) (show 5 ≤ gm_ml 271 by decide +kernel) (Nat.le_of_ble_eq_true rfl) (by omega) (Nat.zero_le _) (Nat.zero_le _) ?_
          refine re_ti (by omega) hE (tr_fr (W := [(226, some 0), (226, some 6), (230, none)]) hT (fr_t (fr_p fr_0 (Or.inr (by decide))) hf77 (by decide)) (by decide)) hN ⟨by omega, by omega⟩ (fun M95 hf95 hw95 hg95 h895 => ?_)
          show gm_Wp X LX d _ _ 315 98 _ [] n K _ _ Q
          refine gm_sz (gm_p_load (pc := 98) (i := .aload_n 0) (sr := 2) (j := 0) (by decide +kernel) rfl rfl rfl) ?_
          refine gm_c_virt (k := 226) (ci := 11) (mj := 254) (ix := 100) (pc := 99) (as := []) (st := []) (d' := d - 1) (bc' := 0) (bs' := 0) (by decide +kernel) (by decide +kernel) (by decide +kernel) (by decide +kernel) (e0k hE (k := 226) (c := 11) (by decide +kernel)).1 (e0k hE (k := 226) (c := 11) (by decide +kernel)).2 (by decide) (by decide +kernel) (show 0 = gm_na 254 by decide +kernel) fw_c0 (show 1 ≤ gm_ml 254 by decide +kernel) (Nat.le_of_ble_eq_true rfl) (by omega) (Nat.zero_le _) (Nat.zero_le _) ?_
          refine re_let9 hE (nthr_4 (by omega) hw95) ?_
          show gm_Wp X LX d _ _ 315 102 _ [gm_vi (N 4 + 1)] n K _ _ Q
          refine gm_sz (gm_p_const (pc := 102) (i := .iconst 1) (v := gm_vi 1) (by decide +kernel) (by decide +kernel)) ?_
          refine gm_sz (gm_p_bin (pc := 103) (i := .isub) (f := fun x y => x - y) (by decide +kernel) rfl) ?_
          rw [show (N 4 + 1) - 1 = N 4 by omega]
          have h9 := hisr_w (W := [(227, none)]) hs77 hf95 (by decide)
          rw [show gm_uM M 226 0 0 227 8 = M 227 8 from uM_ne (by omega)] at h9
          exact gm_r_int (pc := 104) (by decide +kernel) (Or.inl (by decide +kernel)) (hq (by omega) (by omega) (by omega) (by omega) M95 (fr_t (fr_t (fr_p fr_0 (Or.inr (by decide))) hf77 (by decide)) hf95 (by decide)) h9 hw95 (fun j hj => (hg95 j hj).trans ((fr_c hf77 (by decide)).trans (uM_ne (by omega)))) (h895.trans ((fr_c hf77 (by decide)).trans (uM_ne (by omega)))) ((fr_c hf95 (by decide)).trans ((fr_j hf77 (by decide)).trans uM_at)))
        · have h59 : (N 4) = 24 := Classical.not_not.mp h59
          refine gm_sz (gm_p_const (pc := 62) (i := .iconst 1) (v := gm_vi 1) (by decide +kernel) (by decide +kernel)) ?_
          refine gm_sz (gm_p_goto (pc := 63) (off := 4) (by decide +kernel) (by decide)) ?_
          refine gm_sz (gm_p_const (pc := 67) (i := .iconst 3) (v := gm_vi 3) (by decide +kernel) (by decide +kernel)) ?_
          refine gm_c_virt (k := 226) (ci := 11) (mj := 282) (ix := 300) (pc := 68) (as := [gm_vi 1, gm_vi 3]) (st := []) (d' := d - 1) (bc' := 0) (bs' := 0) (by decide +kernel) (by decide +kernel) (by decide +kernel) (by decide +kernel) (e0k hE (k := 226) (c := 11) (by decide +kernel)).1 (e0k hE (k := 226) (c := 11) (by decide +kernel)).2 (by decide) (by decide +kernel) (show 2 = gm_na 282 by decide +kernel) (fw_c2 fw_si fw_si) (show 3 ≤ gm_ml 282 by decide +kernel) (Nat.le_of_ble_eq_true rfl) (by omega) (Nat.zero_le _) (Nat.zero_le _) ?_
          refine tf_1 hE ?_
          show gm_Wp X LX d _ _ 315 71 _ [gm_vi 1] n K _ _ Q
          refine fw_iffd (cc := .eq) (pc := 71) (off := 5) (by decide +kernel) (by decide) ⟨by decide, by decide⟩ (by decide) ?_
          refine gm_sz (gm_p_const (pc := 74) (i := .iconst 0) (v := gm_vi 0) (by decide +kernel) (by decide +kernel)) ?_
          exact gm_r_int (pc := 75) (by decide +kernel) (Or.inl (by decide +kernel)) (q1 (by omega) (by omega) (by omega) (by omega) (gm_uM (gm_uM M 226 0 0) 226 0 3) (fr_p (fr_p fr_0 (Or.inr (by decide))) (Or.inr (by decide))) uM_at)
      · have h37 : f = t := Classical.not_not.mp h37
        refine gm_sz (gm_p_const (pc := 40) (i := .iconst 1) (v := gm_vi 1) (by decide +kernel) (by decide +kernel)) ?_
        refine gm_sz (gm_p_goto (pc := 41) (off := 4) (by decide +kernel) (by decide)) ?_
        refine gm_sz (gm_p_const (pc := 45) (i := .iconst 2) (v := gm_vi 2) (by decide +kernel) (by decide +kernel)) ?_
        refine gm_c_virt (k := 226) (ci := 11) (mj := 282) (ix := 300) (pc := 46) (as := [gm_vi 1, gm_vi 2]) (st := []) (d' := d - 1) (bc' := 0) (bs' := 0) (by decide +kernel) (by decide +kernel) (by decide +kernel) (by decide +kernel) (e0k hE (k := 226) (c := 11) (by decide +kernel)).1 (e0k hE (k := 226) (c := 11) (by decide +kernel)).2 (by decide) (by decide +kernel) (show 2 = gm_na 282 by decide +kernel) (fw_c2 fw_si fw_si) (show 3 ≤ gm_ml 282 by decide +kernel) (Nat.le_of_ble_eq_true rfl) (by omega) (Nat.zero_le _) (Nat.zero_le _) ?_
        refine tf_1 hE ?_
        show gm_Wp X LX d _ _ 315 49 _ [gm_vi 1] n K _ _ Q
        refine fw_iftd (cc := .ne) (pc := 49) (off := 25) (by decide +kernel) (by decide) ⟨by decide, by decide⟩ (by decide) ?_
        refine gm_sz (gm_p_const (pc := 74) (i := .iconst 0) (v := gm_vi 0) (by decide +kernel) (by decide +kernel)) ?_
        exact gm_r_int (pc := 75) (by decide +kernel) (Or.inl (by decide +kernel)) (q0 (by omega) (by omega) (by omega) (gm_uM (gm_uM M 226 0 0) 226 0 2) (fr_p (fr_p fr_0 (Or.inr (by decide))) (Or.inr (by decide))) uM_at)
theorem ra_317 (hd : 6 ≤ d) (hE : E0 n K R) (hT : TR N h M) (hN : NR N) (hH : HISR A (M 227 8) M) (hf : gm_ir p) (ht : gm_ir l) (q3 : ¬ ((0 ≤ p ∧ p < N 3) ∧ (l = -1 ∨ (0 ≤ l ∧ l < N 0))) → ∀ M2, fr [(226, some 0)] M M2 → M2 226 0 = 1 → Q (.inl (some (gm_vi 0))) n K R M2) (hq : 0 ≤ p ∧ p < N 3 → (l = -1 ∨ (0 ≤ l ∧ l < N 0)) → ∀ M2 : gm_M, fr [(226, some 0), (226, some 6), (230, none), (227, none)] M M2 → HISR ((N :: A).take 12) (M 227 8) M2 → ws (M2 227) = nwat N p l → (∀ j, 395 ≤ j → M2 227 j = M 227 j) → M2 227 8 = M 227 8 → M2 226 0 = 0 → Q (.inl (some (gm_vi ((N (95 + (p * 3 + 2))))))) n K R M2) : gm_Wp X LX d bc bs 317 0 (gm_ent 317 [gm_vr 226, gm_vi p, gm_vi l]) [] n K R M Q := by
  obtain ⟨⟨⟨a0, b0⟩, ⟨a1, b1⟩, ⟨a10, b10⟩, ⟨a11, b11⟩, ⟨a12, b12⟩, a9, b9⟩, ⟨⟨a2, b2⟩, ⟨a5, b5⟩, ⟨a3, b3⟩, ⟨a4, b4⟩, ⟨a6, b6⟩, ⟨a14, b14⟩, ⟨a7, b7⟩, a13, b13⟩, rF, rP, rL⟩ := id hN
  refine gm_sz (gm_p_load (pc := 0) (i := .aload_n 0) (sr := 2) (j := 0) (by decide +kernel) rfl rfl rfl) ?_
  refine gm_sz (gm_p_const (pc := 1) (i := .iconst 0) (v := gm_vi 0) (by decide +kernel) (by decide +kernel)) ?_
  refine gm_sz (fw_pi (pc := 2) (ix := 3) (ci := 11) (j := 0) (M' := gm_uM M 226 0 0) (by decide +kernel) (e0k hE (k := 226) (c := 11) (by decide +kernel)) (by decide +kernel) (by decide +kernel) (by decide +kernel) rfl) ?_
  refine gm_sz (gm_p_load (pc := 5) (i := .aload_n 0) (sr := 2) (j := 0) (by decide +kernel) rfl rfl rfl) ?_
  refine gm_sz (gm_p_load (pc := 6) (i := .aload_n 0) (sr := 2) (j := 0) (by decide +kernel) rfl rfl rfl) ?_
  refine gm_sz (gm_p_load (pc := 7) (i := .iload_n 1) (sr := 0) (j := 1) (by decide +kernel) rfl rfl rfl) ?_
  refine gm_c_virt (k := 226) (ci := 11) (mj := 298) (ix := 393) (pc := 8) (as := [gm_vi p]) (st := [gm_vr 226]) (d' := d - 1) (bc' := 0) (bs' := 0) (by decide +kernel) (by decide +kernel) (by decide +kernel) (by decide +kernel) (e0k hE (k := 226) (c := 11) (by decide +kernel)).1 (e0k hE (k := 226) (c := 11) (by decide +kernel)).2 (by decide) (by decide +kernel) (show 1 = gm_na 298 by decide +kernel) (fw_c1 fw_si) (show 2 ≤ gm_ml 298 by decide +kernel) (Nat.le_of_ble_eq_true rfl) (by omega) (Nat.zero_le _) (Nat.zero_le _) ?_
  refine no_298 (i := p) (by omega) hE (tr_fr (W := [(226, some 0)]) hT (fr_p fr_0 (Or.inr (by decide))) (by decide)) hN hf (fun n8 => ?_) (fun n8 => ?_)
  · show gm_Wp X LX d _ _ 317 11 _ [gm_vi 1, gm_vr 226] n K _ _ Q
    have n8 : ¬ (0 ≤ p ∧ p < N 3) := n8
    refine fw_iftd (cc := .ne) (pc := 11) (off := 16) (by decide +kernel) (by decide) ⟨by decide, by decide⟩ (by decide) ?_
    refine gm_sz (gm_p_const (pc := 27) (i := .iconst 1) (v := gm_vi 1) (by decide +kernel) (by decide +kernel)) ?_
    refine gm_sz (gm_p_goto (pc := 28) (off := 4) (by decide +kernel) (by decide)) ?_
    refine gm_sz (gm_p_const (pc := 32) (i := .iconst 1) (v := gm_vi 1) (by decide +kernel) (by decide +kernel)) ?_
    refine gm_c_virt (k := 226) (ci := 11) (mj := 282) (ix := 300) (pc := 33) (as := [gm_vi 1, gm_vi 1]) (st := []) (d' := d - 1) (bc' := 0) (bs' := 0) (by decide +kernel) (by decide +kernel) (by decide +kernel) (by decide +kernel) (e0k hE (k := 226) (c := 11) (by decide +kernel)).1 (e0k hE (k := 226) (c := 11) (by decide +kernel)).2 (by decide) (by decide +kernel) (show 2 = gm_na 282 by decide +kernel) (fw_c2 fw_si fw_si) (show 3 ≤ gm_ml 282 by decide +kernel) (Nat.le_of_ble_eq_true rfl) (by omega) (Nat.zero_le _) (Nat.zero_le _) ?_
    refine tf_1 hE ?_
    show gm_Wp X LX d _ _ 317 36 _ [gm_vi 1] n K _ _ Q
    refine fw_iffd (cc := .eq) (pc := 36) (off := 5) (by decide +kernel) (by decide) ⟨by decide, by decide⟩ (by decide) ?_
    refine gm_sz (gm_p_const (pc := 39) (i := .iconst 0) (v := gm_vi 0) (by decide +kernel) (by decide +kernel)) ?_
    exact gm_r_int (pc := 40) (by decide +kernel) (Or.inl (by decide +kernel)) (q3 (by omega) (gm_uM (gm_uM M 226 0 0) 226 0 1) (fr_p (fr_p fr_0 (Or.inr (by decide))) (Or.inr (by decide))) uM_at)
  · show gm_Wp X LX d _ _ 317 11 _ [gm_vi 0, gm_vr 226] n K _ _ Q
    have n8 : 0 ≤ p ∧ p < N 3 := n8
    refine fw_iffd (cc := .ne) (pc := 11) (off := 16) (by decide +kernel) (by decide) ⟨by decide, by decide⟩ (by decide) ?_
    refine gm_sz (gm_p_load (pc := 14) (i := .iload_n 2) (sr := 0) (j := 2) (by decide +kernel) rfl rfl rfl) ?_
    refine gm_sz (gm_p_const (pc := 15) (i := .iconst (-1)) (v := gm_vi (-1)) (by decide +kernel) (by decide +kernel)) ?_
    refine fw_ic (cc := .eq) (pc := 16) (off := 15) (by decide +kernel) (by decide) ht ⟨by decide, by decide⟩ (fun h16 => ?_) (fun h16 => ?_)
    · have h16 : l = (-1) := h16
      refine gm_sz (gm_p_const (pc := 31) (i := .iconst 0) (v := gm_vi 0) (by decide +kernel) (by decide +kernel)) ?_
      refine gm_sz (gm_p_const (pc := 32) (i := .iconst 1) (v := gm_vi 1) (by decide +kernel) (by decide +kernel)) ?_
      refine gm_c_virt (k := 226) (ci := 11) (mj := 282) (ix := 300) (pc := 33) (as := [gm_vi 0, gm_vi 1]) (st := []) (d' := d - 1) (bc' := 0) (bs' := 0) (by decide +kernel) (by decide +kernel) (by decide +kernel) (by decide +kernel) (e0k hE (k := 226) (c := 11) (by decide +kernel)).1 (e0k hE (k := 226) (c := 11) (by decide +kernel)).2 (by decide) (by decide +kernel) (show 2 = gm_na 282 by decide +kernel) (fw_c2 fw_si fw_si) (show 3 ≤ gm_ml 282 by decide +kernel) (Nat.le_of_ble_eq_true rfl) (by omega) (Nat.zero_le _) (Nat.zero_le _) ?_
      refine tf_0 hE ?_
      show gm_Wp X LX d _ _ 317 36 _ [gm_vi 0] n K _ _ Q
      refine fw_iftd (cc := .eq) (pc := 36) (off := 5) (by decide +kernel) (by decide) ⟨by decide, by decide⟩ (by decide) ?_
      refine gm_sz (gm_p_load (pc := 41) (i := .aload_n 0) (sr := 2) (j := 0) (by decide +kernel) rfl rfl rfl) ?_
      refine gm_c_virt (k := 226) (ci := 11) (mj := 316) (ix := 411) (pc := 42) (as := []) (st := []) (d' := d - 1) (bc' := 0) (bs' := 0) (by decide +kernel) (by decide +kernel) (by decide +kernel) (by decide +kernel) (e0k hE (k := 226) (c := 11) (by decide +kernel)).1 (e0k hE (k := 226) (c := 11) (by decide +kernel)).2 (by decide) (by decide +kernel) (show 0 = gm_na 316 by decide +kernel) fw_c0 (show 1 ≤ gm_ml 316 by decide +kernel) (Nat.le_of_ble_eq_true rfl) (by omega) (Nat.zero_le _) (Nat.zero_le _) ?_
      refine rm_c316 hE (tr_fr (W := [(226, some 0)]) hT (fr_p fr_0 (Or.inr (by decide))) (by decide)).1 (by have h9 : HISR A (M 227 8) (gm_uM M 226 0 0) := hisr_w (W := [(226, some 0)]) hH (fr_p fr_0 (Or.inr (by decide))) (by decide); rwa [show M 227 8 = (gm_uM M 226 0 0) 227 8 from ((uM_ne (by omega))).symm] at h9) (fun M42 hf42 hs42 => ?_)
      show gm_Wp X LX d _ _ 317 45 _ [] n K _ _ Q
      refine gm_sz (gm_p_load (pc := 45) (i := .aload_n 0) (sr := 2) (j := 0) (by decide +kernel) rfl rfl rfl) ?_
      refine gm_sz (gm_p_load (pc := 46) (i := .iload_n 1) (sr := 0) (j := 1) (by decide +kernel) rfl rfl rfl) ?_
      refine gm_sz (gm_p_const (pc := 47) (i := .iconst 2) (v := gm_vi 2) (by decide +kernel) (by decide +kernel)) ?_
      refine gm_c_virt (k := 226) (ci := 11) (mj := 299) (ix := 396) (pc := 48) (as := [gm_vi p, gm_vi 2]) (st := []) (d' := d - 1) (bc' := 0) (bs' := 0) (by decide +kernel) (by decide +kernel) (by decide +kernel) (by decide +kernel) (e0k hE (k := 226) (c := 11) (by decide +kernel)).1 (e0k hE (k := 226) (c := 11) (by decide +kernel)).2 (by decide) (by decide +kernel) (show 2 = gm_na 299 by decide +kernel) (fw_c2 fw_si fw_si) (show 3 ≤ gm_ml 299 by decide +kernel) (Nat.le_of_ble_eq_true rfl) (by omega) (Nat.zero_le _) (Nat.zero_le _) ?_
      refine re_of hE (tr_fr (W := [(226, some 0), (226, some 6), (230, none)]) hT (fr_t (fr_p fr_0 (Or.inr (by decide))) hf42 (by decide)) (by decide)) hN ⟨by omega, by omega⟩ ⟨by omega, by omega⟩ ?_
      show gm_Wp X LX d _ _ 317 51 _ [gm_vi (N (95 + (p * 3 + 2)))] n K _ _ Q
      refine gm_sz (gm_p_stor (pc := 51) (i := .istore_n 3) (sr := 0) (j := 3) (by decide +kernel) rfl (show 4 ≤ _ from Nat.le_of_ble_eq_true rfl) rfl) ?_
      refine gm_sz (gm_p_load (pc := 52) (i := .aload_n 0) (sr := 2) (j := 0) (by decide +kernel) rfl rfl rfl) ?_
      refine gm_sz (fw_gr (pc := 53) (ix := 13) (ci := 11) (j := 1) (r := 227) (by decide +kernel) (e0k hE (k := 226) (c := 11) (by decide +kernel)) (by decide +kernel) (by decide +kernel) (e0r hE (k := 226) (j := 1) (r := 227) (by decide +kernel))) ?_
      refine gm_sz (gm_p_const (pc := 56) (i := .bipush 95) (v := gm_vi 95) (by decide +kernel) (by decide +kernel)) ?_
      refine gm_sz (gm_p_const (pc := 58) (i := .iconst 3) (v := gm_vi 3) (by decide +kernel) (by decide +kernel)) ?_
      refine gm_sz (gm_p_load (pc := 59) (i := .iload_n 1) (sr := 0) (j := 1) (by decide +kernel) rfl rfl rfl) ?_
      refine gm_sz (gm_p_bin (pc := 60) (i := .imul) (f := fun x y => x * y) (by decide +kernel) rfl) ?_
      refine gm_sz (gm_p_bin (pc := 61) (i := .iadd) (f := fun x y => x + y) (by decide +kernel) rfl) ?_
      refine gm_sz (gm_p_const (pc := 62) (i := .iconst 2) (v := gm_vi 2) (by decide +kernel) (by decide +kernel)) ?_
      refine gm_sz (gm_p_bin (pc := 63) (i := .iadd) (f := fun x y => x + y) (by decide +kernel) rfl) ?_
      refine gm_sz (gm_p_load (pc := 64) (i := .iload_n 2) (sr := 0) (j := 2) (by decide +kernel) rfl rfl rfl) ?_
      refine gm_sz (fw_is (pc := 65) (k := 227) (len := 2093) (e0 := (95 + (3 * p)) + 2) (x := l) (M' := gm_uM M42 227 ((95 + (3 * p)) + 2) l) (by decide +kernel) (e0a hE (k := 227) (q := (0, 2093)) (by decide +kernel)).1 (e0a hE (k := 227) (q := (0, 2093)) (by decide +kernel)).2 (by decide) ⟨by omega, by omega⟩ rfl) ?_
      refine gm_sz (gm_p_load (pc := 66) (i := .iload_n 3) (sr := 0) (j := 3) (by decide +kernel) rfl rfl rfl) ?_
      have t9 := (tr_fr (W := [(226, some 0), (226, some 6), (230, none)]) hT (fr_t (fr_p fr_0 (Or.inr (by decide))) hf42 (by decide)) (by decide))
      have w9 : ws ((gm_uM M42 227 ((95 + (3 * p)) + 2) l) 227) = nwat N p l := by
        have e1 : (gm_uM M42 227 ((95 + (3 * p)) + 2) l) 227 = nup (M42 227) ((95 + (3 * p)) + 2) l := nup_s rfl
        rw [e1, ws_put (k := (95 + (3 * p)) + 2) ⟨by omega, by omega, by omega⟩, t9.1]
        unfold nwat
        rw [show (95 + (3 * p)) + 2 = 95 + (p * 3 + 2) by omega]
      have h9 := hisr_w (W := [(227, none)]) hs42 (show fr [(227, none)] M42 (gm_uM M42 227 ((95 + (3 * p)) + 2) l) from fr_p fr_0 (Or.inl (by decide))) (by decide)
      rw [show gm_uM M 226 0 0 227 8 = M 227 8 from uM_ne (by omega)] at h9
      exact gm_r_int (pc := 67) (by decide +kernel) (Or.inl (by decide +kernel)) (hq (by omega) (by omega) (gm_uM M42 227 ((95 + (3 * p)) + 2) l) (fr_p (fr_t (fr_p fr_0 (Or.inr (by decide))) hf42 (by decide)) (Or.inl (by decide))) h9 w9 (fun j hj => (uM_ne (by omega)).trans ((fr_c hf42 (by decide)).trans (uM_ne (by omega)))) ((uM_ne (by omega)).trans ((fr_c hf42 (by decide)).trans (uM_ne (by omega)))) ((uM_ne (by omega)).trans ((fr_j hf42 (by decide)).trans uM_at)))
    · have h16 : ¬ l = (-1) := h16
      refine gm_sz (gm_p_load (pc := 19) (i := .aload_n 0) (sr := 2) (j := 0) (by decide +kernel) rfl rfl rfl) ?_
      refine gm_sz (gm_p_load (pc := 20) (i := .iload_n 2) (sr := 0) (j := 2) (by decide +kernel) rfl rfl rfl) ?_
      refine gm_c_virt (k := 226) (ci := 11) (mj := 288) (ix := 356) (pc := 21) (as := [gm_vi l]) (st := [gm_vr 226]) (d' := d - 1) (bc' := 0) (bs' := 0) (by decide +kernel) (by decide +kernel) (by decide +kernel) (by decide +kernel) (e0k hE (k := 226) (c := 11) (by decide +kernel)).1 (e0k hE (k := 226) (c := 11) (by decide +kernel)).2 (by decide) (by decide +kernel) (show 1 = gm_na 288 by decide +kernel) (fw_c1 fw_si) (show 2 ≤ gm_ml 288 by decide +kernel) (Nat.le_of_ble_eq_true rfl) (by omega) (Nat.zero_le _) (Nat.zero_le _) ?_
      refine no_288 (i := l) (by omega) hE (tr_fr (W := [(226, some 0)]) hT (fr_p fr_0 (Or.inr (by decide))) (by decide)) hN ht (fun n21 => ?_) (fun n21 => ?_)
      · show gm_Wp X LX d _ _ 317 24 _ [gm_vi 1, gm_vr 226] n K _ _ Q
        have n21 : ¬ (0 ≤ l ∧ l < N 0) := n21
        refine fw_iffd (cc := .eq) (pc := 24) (off := 7) (by decide +kernel) (by decide) ⟨by decide, by decide⟩ (by decide) ?_
        refine gm_sz (gm_p_const (pc := 27) (i := .iconst 1) (v := gm_vi 1) (by decide +kernel) (by decide +kernel)) ?_
        refine gm_sz (gm_p_goto (pc := 28) (off := 4) (by decide +kernel) (by decide)) ?_
        refine gm_sz (gm_p_const (pc := 32) (i := .iconst 1) (v := gm_vi 1) (by decide +kernel) (by decide +kernel)) ?_
        refine gm_c_virt (k := 226) (ci := 11) (mj := 282) (ix := 300) (pc := 33) (as := [gm_vi 1, gm_vi 1]) (st := []) (d' := d - 1) (bc' := 0) (bs' := 0) (by decide +kernel) (by decide +kernel) (by decide +kernel) (by decide +kernel) (e0k hE (k := 226) (c := 11) (by decide +kernel)).1 (e0k hE (k := 226) (c := 11) (by decide +kernel)).2 (by decide) (by decide +kernel) (show 2 = gm_na 282 by decide +kernel) (fw_c2 fw_si fw_si) (show 3 ≤ gm_ml 282 by decide +kernel) (Nat.le_of_ble_eq_true rfl) (by omega) (Nat.zero_le _) (Nat.zero_le _) ?_
        refine tf_1 hE ?_
        show gm_Wp X LX d _ _ 317 36 _ [gm_vi 1] n K _ _ Q
        refine fw_iffd (cc := .eq) (pc := 36) (off := 5) (by decide +kernel) (by decide) ⟨by decide, by decide⟩ (by decide) ?_
        refine gm_sz (gm_p_const (pc := 39) (i := .iconst 0) (v := gm_vi 0) (by decide +kernel) (by decide +kernel)) ?_
        exact gm_r_int (pc := 40) (by decide +kernel) (Or.inl (by decide +kernel)) (q3 (by omega) (gm_uM (gm_uM M 226 0 0) 226 0 1) (fr_p (fr_p fr_0 (Or.inr (by decide))) (Or.inr (by decide))) uM_at)
      · show gm_Wp X LX d _ _ 317 24 _ [gm_vi 0, gm_vr 226] n K _ _ Q
        have n21 : 0 ≤ l ∧ l < N 0 := n21
        refine fw_iftd (cc := .eq) (pc := 24) (off := 7) (by decide +kernel) (by decide) ⟨by decide, by decide⟩ (by decide) ?_
        refine gm_sz (gm_p_const (pc := 31) (i := .iconst 0) (v := gm_vi 0) (by decide +kernel) (by decide +kernel)) ?_
        refine gm_sz (gm_p_const (pc := 32) (i := .iconst 1) (v := gm_vi 1) (by decide +kernel) (by decide +kernel)) ?_
        refine gm_c_virt (k := 226) (ci := 11) (mj := 282) (ix := 300) (pc := 33) (as := [gm_vi 0, gm_vi 1]) (st := []) (d' := d - 1) (bc' := 0) (bs' := 0) (by decide +kernel) (by decide +kernel) (by decide +kernel) (by decide +kernel) (e0k hE (k := 226) (c := 11) (by decide +kernel)).1 (e0k hE (k := 226) (c := 11) (by decide +kernel)).2 (by decide) (by decide +kernel) (show 2 = gm_na 282 by decide +kernel) (fw_c2 fw_si fw_si) (show 3 ≤ gm_ml 282 by decide +kernel) (Nat.le_of_ble_eq_true rfl) (by omega) (Nat.zero_le _) (Nat.zero_le _) ?_
        refine tf_0 hE ?_
        show gm_Wp X LX d _ _ 317 36 _ [gm_vi 0] n K _ _ Q
        refine fw_iftd (cc := .eq) (pc := 36) (off := 5) (by decide +kernel) (by decide) ⟨by decide, by decide⟩ (by decide) ?_
        refine gm_sz (gm_p_load (pc := 41) (i := .aload_n 0) (sr := 2) (j := 0) (by decide +kernel) rfl rfl rfl) ?_
        refine gm_c_virt (k := 226) (ci := 11) (mj := 316) (ix := 411) (pc := 42) (as := []) (st := []) (d' := d - 1) (bc' := 0) (bs' := 0) (by decide +kernel) (by decide +kernel) (by decide +kernel) (by decide +kernel) (e0k hE (k := 226) (c := 11) (by decide +kernel)).1 (e0k hE (k := 226) (c := 11) (by decide +kernel)).2 (by decide) (by decide +kernel) (show 0 = gm_na 316 by decide +kernel) fw_c0 (show 1 ≤ gm_ml 316 by decide +kernel) (Nat.le_of_ble_eq_true rfl) (by omega) (Nat.zero_le _) (Nat.zero_le _) ?_
        refine rm_c316 hE (tr_fr (W := [(226, some 0)]) hT (fr_p fr_0 (Or.inr (by decide))) (by decide)).1 (by have h9 : HISR A (M 227 8) (gm_uM M 226 0 0) := hisr_w (W := [(226, some 0)]) hH (fr_p fr_0 (Or.inr (by decide))) (by decide); rwa [show M 227 8 = (gm_uM M 226 0 0) 227 8 from ((uM_ne (by omega))).symm] at h9) (fun M42 hf42 hs42 => ?_)
        show gm_Wp X LX d _ _ 317 45 _ [] n K _ _ Q
        refine gm_sz (gm_p_load (pc := 45) (i := .aload_n 0) (sr := 2) (j := 0) (by decide +kernel) rfl rfl rfl) ?_
        refine gm_sz (gm_p_load (pc := 46) (i := .iload_n 1) (sr := 0) (j := 1) (by decide +kernel) rfl rfl rfl) ?_
        refine gm_sz (gm_p_const (pc := 47) (i := .iconst 2) (v := gm_vi 2) (by decide +kernel) (by decide +kernel)) ?_
        refine gm_c_virt (k := 226) (ci := 11) (mj := 299) (ix := 396) (pc := 48) (as := [gm_vi p, gm_vi 2]) (st := []) (d' := d - 1) (bc' := 0) (bs' := 0) (by decide +kernel) (by decide +kernel) (by decide +kernel) (by decide +kernel) (e0k hE (k := 226) (c := 11) (by decide +kernel)).1 (e0k hE (k := 226) (c := 11) (by decide +kernel)).2 (by decide) (by decide +kernel) (show 2 = gm_na 299 by decide +kernel) (fw_c2 fw_si fw_si) (show 3 ≤ gm_ml 299 by decide +kernel) (Nat.le_of_ble_eq_true rfl) (by omega) (Nat.zero_le _) (Nat.zero_le _) ?_
        refine re_of hE (tr_fr (W := [(226, some 0), (226, some 6), (230, none)]) hT (fr_t (fr_p fr_0 (Or.inr (by decide))) hf42 (by decide)) (by decide)) hN ⟨by omega, by omega⟩ ⟨by omega, by omega⟩ ?_
        show gm_Wp X LX d _ _ 317 51 _ [gm_vi (N (95 + (p * 3 + 2)))] n K _ _ Q
        refine gm_sz (gm_p_stor (pc := 51) (i := .istore_n 3) (sr := 0) (j := 3) (by decide +kernel) rfl (show 4 ≤ _ from Nat.le_of_ble_eq_true rfl) rfl) ?_
        refine gm_sz (gm_p_load (pc := 52) (i := .aload_n 0) (sr := 2) (j := 0) (by decide +kernel) rfl rfl rfl) ?_
        refine gm_sz (fw_gr (pc := 53) (ix := 13) (ci := 11) (j := 1) (r := 227) (by decide +kernel) (e0k hE (k := 226) (c := 11) (by decide +kernel)) (by decide +kernel) (by decide +kernel) (e0r hE (k := 226) (j := 1) (r := 227) (by decide +kernel))) ?_
        refine gm_sz (gm_p_const (pc := 56) (i := .bipush 95) (v := gm_vi 95) (by decide +kernel) (by decide +kernel)) ?_
        refine gm_sz (gm_p_const (pc := 58) (i := .iconst 3) (v := gm_vi 3) (by decide +kernel) (by decide +kernel)) ?_
        refine gm_sz (gm_p_load (pc := 59) (i := .iload_n 1) (sr := 0) (j := 1) (by decide +kernel) rfl rfl rfl) ?_
        refine gm_sz (gm_p_bin (pc := 60) (i := .imul) (f := fun x y => x * y) (by decide +kernel) rfl) ?_
        refine gm_sz (gm_p_bin (pc := 61) (i := .iadd) (f := fun x y => x + y) (by decide +kernel) rfl) ?_
        refine gm_sz (gm_p_const (pc := 62) (i := .iconst 2) (v := gm_vi 2) (by decide +kernel) (by decide +kernel)) ?_
        refine gm_sz (gm_p_bin (pc := 63) (i := .iadd) (f := fun x y => x + y) (by decide +kernel) rfl) ?_
        refine gm_sz (gm_p_load (pc := 64) (i := .iload_n 2) (sr := 0) (j := 2) (by decide +kernel) rfl rfl rfl) ?_
        refine gm_sz (fw_is (pc := 65) (k := 227) (len := 2093) (e0 := (95 + (3 * p)) + 2) (x := l) (M' := gm_uM M42 227 ((95 + (3 * p)) + 2) l) (by decide +kernel) (e0a hE (k := 227) (q := (0, 2093)) (by decide +kernel)).1 (e0a hE (k := 227) (q := (0, 2093)) (by decide +kernel)).2 (by decide) ⟨by omega, by omega⟩ rfl) ?_
        refine gm_sz (gm_p_load (pc := 66) (i := .iload_n 3) (sr := 0) (j := 3) (by decide +kernel) rfl rfl rfl) ?_
        have t9 := (tr_fr (W := [(226, some 0), (226, some 6), (230, none)]) hT (fr_t (fr_p fr_0 (Or.inr (by decide))) hf42 (by decide)) (by decide))
        have w9 : ws ((gm_uM M42 227 ((95 + (3 * p)) + 2) l) 227) = nwat N p l := by
          have e1 : (gm_uM M42 227 ((95 + (3 * p)) + 2) l) 227 = nup (M42 227) ((95 + (3 * p)) + 2) l := nup_s rfl
          rw [e1, ws_put (k := (95 + (3 * p)) + 2) ⟨by omega, by omega, by omega⟩, t9.1]
          unfold nwat
          rw [show (95 + (3 * p)) + 2 = 95 + (p * 3 + 2) by omega]
        have h9 := hisr_w (W := [(227, none)]) hs42 (show fr [(227, none)] M42 (gm_uM M42 227 ((95 + (3 * p)) + 2) l) from fr_p fr_0 (Or.inl (by decide))) (by decide)
        rw [show gm_uM M 226 0 0 227 8 = M 227 8 from uM_ne (by omega)] at h9
        exact gm_r_int (pc := 67) (by decide +kernel) (Or.inl (by decide +kernel)) (hq (by omega) (by omega) (gm_uM M42 227 ((95 + (3 * p)) + 2) l) (fr_p (fr_t (fr_p fr_0 (Or.inr (by decide))) hf42 (by decide)) (Or.inl (by decide))) h9 w9 (fun j hj => (uM_ne (by omega)).trans ((fr_c hf42 (by decide)).trans (uM_ne (by omega)))) ((uM_ne (by omega)).trans ((fr_c hf42 (by decide)).trans (uM_ne (by omega)))) ((uM_ne (by omega)).trans ((fr_j hf42 (by decide)).trans uM_at)))
theorem re_ol9 (hE : E0 n K R) (h1 : 0 ≤ l ∧ l < 24) (h2 : 0 ≤ c ∧ c < 7) (hv : M 227 (119 + (7 * l) + c) = v) (hq : Q (.inl (some (gm_vi v))) n K R M) : gm_Wp X LX d bc bs 301 0 (gm_ent 301 [gm_vr 226, gm_vi l, gm_vi c]) [] n K R M Q := by
  refine gm_sz (gm_p_load (pc := 0) (i := .aload_n 0) (sr := 2) (j := 0) (by decide +kernel) rfl rfl rfl) ?_
  refine gm_sz (fw_gr (pc := 1) (ix := 13) (ci := 11) (j := 1) (r := 227) (by decide +kernel) (e0k hE (k := 226) (c := 11) (by decide +kernel)) (by decide +kernel) (by decide +kernel) (e0r hE (k := 226) (j := 1) (r := 227) (by decide +kernel))) ?_
  refine gm_sz (gm_p_const (pc := 4) (i := .bipush 119) (v := gm_vi 119) (by decide +kernel) (by decide +kernel)) ?_
  refine gm_sz (gm_p_const (pc := 6) (i := .bipush 7) (v := gm_vi 7) (by decide +kernel) (by decide +kernel)) ?_
  refine gm_sz (gm_p_load (pc := 8) (i := .iload_n 1) (sr := 0) (j := 1) (by decide +kernel) rfl rfl rfl) ?_
  refine gm_sz (gm_p_bin (pc := 9) (i := .imul) (f := fun x y => x * y) (by decide +kernel) rfl) ?_
  refine gm_sz (gm_p_bin (pc := 10) (i := .iadd) (f := fun x y => x + y) (by decide +kernel) rfl) ?_
  refine gm_sz (gm_p_load (pc := 11) (i := .iload_n 2) (sr := 0) (j := 2) (by decide +kernel) rfl rfl rfl) ?_
  refine gm_sz (gm_p_bin (pc := 12) (i := .iadd) (f := fun x y => x + y) (by decide +kernel) rfl) ?_
  refine gm_sz (fw_ia (pc := 13) (k := 227) (len := 2093) (e0 := (119 + (7 * l)) + c) (x := v) (by decide +kernel) (e0a hE (k := 227) (q := (0, 2093)) (by decide +kernel)).1 (e0a hE (k := 227) (q := (0, 2093)) (by decide +kernel)).2 (by decide) ⟨by omega, by omega⟩ hv) ?_
  exact gm_r_int (pc := 14) (by decide +kernel) (Or.inl (by decide +kernel)) hq
theorem nopn_9 {M2 : gm_M} (h9 : ws (M2 227) = nopn N l p) (hN : NR N) (hg : LOGI N) (hl : 0 ≤ l ∧ l < N 4) (h5 : (N (119 + (l * 7 + 5))) = -1) : M2 227 9 = N 9 := by
  have e1 : M2 227 9 = ws (M2 227) 9 := rfl
  have b4 := hN.2.1.2.2.2.1
  rw [e1, h9]
  exact nopn_o (by decide) (by decide) ⟨hl.1, by omega⟩ (logi_lt hN hg hl h5)
theorem nopn_y {M2 : gm_M} (h9 : ws (M2 227) = nopn N l p) (hN : NR N) (hg : LOGI N) (hl : 0 ≤ l ∧ l < N 4) (h5 : (N (119 + (l * 7 + 5))) = -1) {j : Int} (hj : j = 119 + (l * 7 + 3)) : M2 227 j = (N (119 + (l * 7 + 3))) := by
  have b4 := hN.2.1.2.2.2.1
  have e1 : M2 227 j = ws (M2 227) j := by
    unfold ws
    rw [if_pos ⟨by omega, by omega, by omega⟩]
  rw [e1, h9, hj]
  have h := nopn_L (N := N) (l := l) (p := p) (k := l) (c := 3) ⟨hl.1, by omega⟩ (logi_lt hN hg hl h5) ⟨hl.1, by omega⟩ (by decide)
  rw [if_neg (by omega), if_neg (by omega)] at h
  exact h
theorem ra_318 (hd : 20 ≤ d) (hE : E0 n K R) (hT : TR N h M) (hN : NR N) (hg : LOGI N) (hH : HISR A (M 227 8) M) (hfw : FLR X LX n K R N h FI φ) (hI : FI M) (hl : gm_ir l) (ho : 0 ≤ l ∧ l < N 4 → OUTR N h φ l (o l) (dd l)) (q3 : ¬ (0 ≤ l ∧ l < N 4) → ∀ M2, fr [(226, some 0)] M M2 → M2 226 0 = 1 → Q (.inl (some (gm_vi 0))) n K R M2) (q2 : 0 ≤ l ∧ l < N 4 → ¬ WTS N l (o l) → ∀ M2, fr [(226, some 0), (226, some 29), (226, some 30), (226, some 26), (226, some 17), (226, some 18), (226, some 19), (226, some 20), (226, some 21), (226, some 22), (226, some 23), (235, none), (233, none), (236, none), (237, none)] M M2 → FI M2 → M2 226 0 = 2 → Q (.inl (some (gm_vi 0))) n K R M2) (hq : 0 ≤ l ∧ l < N 4 → WTS N l (o l) → ∀ M1 M2 : gm_M, FI M1 → fr [(226, some 6), (230, none), (227, none)] M1 M2 → fr [(226, some 0), (226, some 29), (226, some 30), (226, some 26), (226, some 17), (226, some 18), (226, some 19), (226, some 20), (226, some 21), (226, some 22), (226, some 23), (235, none), (233, none), (236, none), (237, none), (226, some 6), (230, none), (227, none)] M M2 → HISR ((N :: A).take 12) (M 227 8) M2 → ws (M2 227) = nopn N l ((N (119 + (l * 7 + 1)))) → (∀ j, 395 ≤ j → M2 227 j = M 227 j) → M2 227 8 = M 227 8 → M2 226 0 = 0 → Q (.inl (some (gm_vi (N 9 - (N (119 + (l * 7 + 3))))))) n K R M2) : gm_Wp X LX d bc bs 318 0 (gm_ent 318 [gm_vr 226, gm_vi l]) [] n K R M Q := by
  obtain ⟨⟨⟨a0, b0⟩, ⟨a1, b1⟩, ⟨a10, b10⟩, ⟨a11, b11⟩, ⟨a12, b12⟩, a9, b9⟩, ⟨⟨a2, b2⟩, ⟨a5, b5⟩, ⟨a3, b3⟩, ⟨a4, b4⟩, ⟨a6, b6⟩, ⟨a14, b14⟩, ⟨a7, b7⟩, a13, b13⟩, rF, rP, rL⟩ := id hN
  refine gm_sz (gm_p_load (pc := 0) (i := .aload_n 0) (sr := 2) (j := 0) (by decide +kernel) rfl rfl rfl) ?_
  refine gm_sz (gm_p_const (pc := 1) (i := .iconst 0) (v := gm_vi 0) (by decide +kernel) (by decide +kernel)) ?_
  refine gm_sz (fw_pi (pc := 2) (ix := 3) (ci := 11) (j := 0) (M' := gm_uM M 226 0 0) (by decide +kernel) (e0k hE (k := 226) (c := 11) (by decide +kernel)) (by decide +kernel) (by decide +kernel) (by decide +kernel) rfl) ?_
  refine gm_sz (gm_p_load (pc := 5) (i := .aload_n 0) (sr := 2) (j := 0) (by decide +kernel) rfl rfl rfl) ?_
  refine gm_sz (gm_p_load (pc := 6) (i := .aload_n 0) (sr := 2) (j := 0) (by decide +kernel) rfl rfl rfl) ?_
  refine gm_sz (gm_p_load (pc := 7) (i := .iload_n 1) (sr := 0) (j := 1) (by decide +kernel) rfl rfl rfl) ?_
  refine gm_c_virt (k := 226) (ci := 11) (mj := 309) (ix := 405) (pc := 8) (as := [gm_vi l]) (st := [gm_vr 226]) (d' := d - 1) (bc' := 0) (bs' := 0) (by decide +kernel) (by decide +kernel) (by decide +kernel) (by decide +kernel) (e0k hE (k := 226) (c := 11) (by decide +kernel)).1 (e0k hE (k := 226) (c := 11) (by decide +kernel)).2 (by decide) (by decide +kernel) (show 1 = gm_na 309 by decide +kernel) (fw_c1 fw_si) (show 2 ≤ gm_ml 309 by decide +kernel) (Nat.le_of_ble_eq_true rfl) (by omega) (Nat.zero_le _) (Nat.zero_le _) ?_
  refine no_309 (i := l) (by omega) hE (tr_fr (W := [(226, some 0)]) hT (fr_p fr_0 (Or.inr (by decide))) (by decide)) hN hl (fun n8 => ?_) (fun n8 => ?_)
  · show gm_Wp X LX d _ _ 318 11 _ [gm_vi 1, gm_vr 226] n K _ _ Q
    have n8 : ¬ (0 ≤ l ∧ l < N 4) := n8
    refine gm_sz (gm_p_const (pc := 11) (i := .iconst 1) (v := gm_vi 1) (by decide +kernel) (by decide +kernel)) ?_
    refine gm_c_virt (k := 226) (ci := 11) (mj := 282) (ix := 300) (pc := 12) (as := [gm_vi 1, gm_vi 1]) (st := []) (d' := d - 1) (bc' := 0) (bs' := 0) (by decide +kernel) (by decide +kernel) (by decide +kernel) (by decide +kernel) (e0k hE (k := 226) (c := 11) (by decide +kernel)).1 (e0k hE (k := 226) (c := 11) (by decide +kernel)).2 (by decide) (by decide +kernel) (show 2 = gm_na 282 by decide +kernel) (fw_c2 fw_si fw_si) (show 3 ≤ gm_ml 282 by decide +kernel) (Nat.le_of_ble_eq_true rfl) (by omega) (Nat.zero_le _) (Nat.zero_le _) ?_
    refine tf_1 hE ?_
    show gm_Wp X LX d _ _ 318 15 _ [gm_vi 1] n K _ _ Q
    refine fw_iftd (cc := .ne) (pc := 15) (off := 24) (by decide +kernel) (by decide) ⟨by decide, by decide⟩ (by decide) ?_
    refine gm_sz (gm_p_const (pc := 39) (i := .iconst 0) (v := gm_vi 0) (by decide +kernel) (by decide +kernel)) ?_
    exact gm_r_int (pc := 40) (by decide +kernel) (Or.inl (by decide +kernel)) (q3 (by omega) (gm_uM (gm_uM M 226 0 0) 226 0 1) (fr_p (fr_p fr_0 (Or.inr (by decide))) (Or.inr (by decide))) uM_at)
  · show gm_Wp X LX d _ _ 318 11 _ [gm_vi 0, gm_vr 226] n K _ _ Q
    have n8 : 0 ≤ l ∧ l < N 4 := n8
    refine gm_sz (gm_p_const (pc := 11) (i := .iconst 1) (v := gm_vi 1) (by decide +kernel) (by decide +kernel)) ?_
    refine gm_c_virt (k := 226) (ci := 11) (mj := 282) (ix := 300) (pc := 12) (as := [gm_vi 0, gm_vi 1]) (st := []) (d' := d - 1) (bc' := 0) (bs' := 0) (by decide +kernel) (by decide +kernel) (by decide +kernel) (by decide +kernel) (e0k hE (k := 226) (c := 11) (by decide +kernel)).1 (e0k hE (k := 226) (c := 11) (by decide +kernel)).2 (by decide) (by decide +kernel) (show 2 = gm_na 282 by decide +kernel) (fw_c2 fw_si fw_si) (show 3 ≤ gm_ml 282 by decide +kernel) (Nat.le_of_ble_eq_true rfl) (by omega) (Nat.zero_le _) (Nat.zero_le _) ?_
    refine tf_0 hE ?_
    show gm_Wp X LX d _ _ 318 15 _ [gm_vi 0] n K _ _ Q
    refine fw_iffd (cc := .ne) (pc := 15) (off := 24) (by decide +kernel) (by decide) ⟨by decide, by decide⟩ (by decide) ?_
    refine gm_sz (gm_p_load (pc := 18) (i := .aload_n 0) (sr := 2) (j := 0) (by decide +kernel) rfl rfl rfl) ?_
    refine gm_sz (gm_p_load (pc := 19) (i := .aload_n 0) (sr := 2) (j := 0) (by decide +kernel) rfl rfl rfl) ?_
    refine gm_sz (gm_p_load (pc := 20) (i := .iload_n 1) (sr := 0) (j := 1) (by decide +kernel) rfl rfl rfl) ?_
    refine gm_c_virt (k := 226) (ci := 11) (mj := 302) (ix := 390) (pc := 21) (as := [gm_vi l]) (st := [gm_vr 226]) (d' := d - 1) (bc' := 0) (bs' := 0) (by decide +kernel) (by decide +kernel) (by decide +kernel) (by decide +kernel) (e0k hE (k := 226) (c := 11) (by decide +kernel)).1 (e0k hE (k := 226) (c := 11) (by decide +kernel)).2 (by decide) (by decide +kernel) (show 1 = gm_na 302 by decide +kernel) (fw_c1 fw_si) (show 2 ≤ gm_ml 302 by decide +kernel) (Nat.le_of_ble_eq_true rfl) (by omega) (Nat.zero_le _) (Nat.zero_le _) ?_
    refine rw_c302 (o := o) (dd := dd) (by omega) hE (tr_fr (W := [(226, some 0)]) hT (fr_p fr_0 (Or.inr (by decide))) (by decide)) hN hfw (hfw.2.1 [(226, some 0)] _ _ (by decide) (fr_p fr_0 (Or.inr (by decide))) hI) n8 (ho n8) (fun v21 M21 hf21 hI21 e29 e37 => ?_) (fun v21 M21 hf21 hI21 => ?_)
    · show gm_Wp X LX d _ _ 318 24 _ [gm_vi 1, gm_vr 226] n K _ _ Q
      refine fw_iftd (cc := .ne) (pc := 24) (off := 7) (by decide +kernel) (by decide) ⟨by decide, by decide⟩ (by decide) ?_
      refine gm_sz (gm_p_const (pc := 31) (i := .iconst 0) (v := gm_vi 0) (by decide +kernel) (by decide +kernel)) ?_
      refine gm_sz (gm_p_const (pc := 32) (i := .iconst 2) (v := gm_vi 2) (by decide +kernel) (by decide +kernel)) ?_
      refine gm_c_virt (k := 226) (ci := 11) (mj := 282) (ix := 300) (pc := 33) (as := [gm_vi 0, gm_vi 2]) (st := []) (d' := d - 1) (bc' := 0) (bs' := 0) (by decide +kernel) (by decide +kernel) (by decide +kernel) (by decide +kernel) (e0k hE (k := 226) (c := 11) (by decide +kernel)).1 (e0k hE (k := 226) (c := 11) (by decide +kernel)).2 (by decide) (by decide +kernel) (show 2 = gm_na 282 by decide +kernel) (fw_c2 fw_si fw_si) (show 3 ≤ gm_ml 282 by decide +kernel) (Nat.le_of_ble_eq_true rfl) (by omega) (Nat.zero_le _) (Nat.zero_le _) ?_
      refine tf_0 hE ?_
      show gm_Wp X LX d _ _ 318 36 _ [gm_vi 0] n K _ _ Q
      refine fw_iftd (cc := .eq) (pc := 36) (off := 5) (by decide +kernel) (by decide) ⟨by decide, by decide⟩ (by decide) ?_
      refine gm_sz (gm_p_load (pc := 41) (i := .aload_n 0) (sr := 2) (j := 0) (by decide +kernel) rfl rfl rfl) ?_
      refine gm_c_virt (k := 226) (ci := 11) (mj := 316) (ix := 411) (pc := 42) (as := []) (st := []) (d' := d - 1) (bc' := 0) (bs' := 0) (by decide +kernel) (by decide +kernel) (by decide +kernel) (by decide +kernel) (e0k hE (k := 226) (c := 11) (by decide +kernel)).1 (e0k hE (k := 226) (c := 11) (by decide +kernel)).2 (by decide) (by decide +kernel) (show 0 = gm_na 316 by decide +kernel) fw_c0 (show 1 ≤ gm_ml 316 by decide +kernel) (Nat.le_of_ble_eq_true rfl) (by omega) (Nat.zero_le _) (Nat.zero_le _) ?_
      refine rm_c316 hE (tr_fr (W := [(226, some 0), (226, some 29), (226, some 30), (226, some 26), (226, some 17), (226, some 18), (226, some 19), (226, some 20), (226, some 21), (226, some 22), (226, some 23), (235, none), (233, none), (236, none), (237, none)]) hT (fr_t (fr_p fr_0 (Or.inr (by decide))) hf21 (by decide)) (by decide)).1 (by have h9 : HISR A (M 227 8) M21 := hisr_w (W := [(226, some 0), (226, some 29), (226, some 30), (226, some 26), (226, some 17), (226, some 18), (226, some 19), (226, some 20), (226, some 21), (226, some 22), (226, some 23), (235, none), (233, none), (236, none), (237, none)]) hH (fr_t (fr_p fr_0 (Or.inr (by decide))) hf21 (by decide)) (by decide); rwa [show M 227 8 = M21 227 8 from (((fr_c hf21 (by decide)).trans (uM_ne (by omega)))).symm] at h9) (fun M42 hf42 hs42 => ?_)
      show gm_Wp X LX d _ _ 318 45 _ [] n K _ _ Q
      refine gm_sz (gm_p_load (pc := 45) (i := .aload_n 0) (sr := 2) (j := 0) (by decide +kernel) rfl rfl rfl) ?_
      refine gm_sz (gm_p_load (pc := 46) (i := .iload_n 1) (sr := 0) (j := 1) (by decide +kernel) rfl rfl rfl) ?_
      refine gm_sz (gm_p_load (pc := 47) (i := .aload_n 0) (sr := 2) (j := 0) (by decide +kernel) rfl rfl rfl) ?_
      refine gm_sz (gm_p_load (pc := 48) (i := .iload_n 1) (sr := 0) (j := 1) (by decide +kernel) rfl rfl rfl) ?_
      refine gm_sz (gm_p_const (pc := 49) (i := .iconst 1) (v := gm_vi 1) (by decide +kernel) (by decide +kernel)) ?_
      refine gm_c_virt (k := 226) (ci := 11) (mj := 301) (ix := 82) (pc := 50) (as := [gm_vi l, gm_vi 1]) (st := [gm_vi l, gm_vr 226]) (d' := d - 1) (bc' := 0) (bs' := 0) (by decide +kernel) (by decide +kernel) (by decide +kernel) (by decide +kernel) (e0k hE (k := 226) (c := 11) (by decide +kernel)).1 (e0k hE (k := 226) (c := 11) (by decide +kernel)).2 (by decide) (by decide +kernel) (show 2 = gm_na 301 by decide +kernel) (fw_c2 fw_si fw_si) (show 3 ≤ gm_ml 301 by decide +kernel) (Nat.le_of_ble_eq_true rfl) (by omega) (Nat.zero_le _) (Nat.zero_le _) ?_
      refine re_ol hE (tr_fr (W := [(226, some 0), (226, some 29), (226, some 30), (226, some 26), (226, some 17), (226, some 18), (226, some 19), (226, some 20), (226, some 21), (226, some 22), (226, some 23), (235, none), (233, none), (236, none), (237, none), (226, some 6), (230, none)]) hT (fr_t (fr_t (fr_p fr_0 (Or.inr (by decide))) hf21 (by decide)) hf42 (by decide)) (by decide)) hN ⟨by omega, by omega⟩ ⟨by omega, by omega⟩ ?_
      show gm_Wp X LX d _ _ 318 53 _ [gm_vi (N (119 + (l * 7 + 1))), gm_vi l, gm_vr 226] n K _ _ Q
      refine gm_c_virt (k := 226) (ci := 11) (mj := 319) (ix := 414) (pc := 53) (as := [gm_vi l, gm_vi (N (119 + (l * 7 + 1)))]) (st := []) (d' := d - 1) (bc' := 0) (bs' := 0) (by decide +kernel) (by decide +kernel) (by decide +kernel) (by decide +kernel) (e0k hE (k := 226) (c := 11) (by decide +kernel)).1 (e0k hE (k := 226) (c := 11) (by decide +kernel)).2 (by decide) (by decide +kernel) (show 2 = gm_na 319 by decide +kernel) (fw_c2 fw_si fw_si) (show 3 ≤ gm_ml 319 by decide +kernel) (Nat.le_of_ble_eq_true rfl) (by omega) (Nat.zero_le _) (Nat.zero_le _) ?_
      refine re_op (by omega) hE (tr_fr (W := [(226, some 0), (226, some 29), (226, some 30), (226, some 26), (226, some 17), (226, some 18), (226, some 19), (226, some 20), (226, some 21), (226, some 22), (226, some 23), (235, none), (233, none), (236, none), (237, none), (226, some 6), (230, none)]) hT (fr_t (fr_t (fr_p fr_0 (Or.inr (by decide))) hf21 (by decide)) hf42 (by decide)) (by decide)) hN ⟨by omega, by omega⟩ (logi_lt hN hg n8 v21.2.1) (fun M53 hf53 hw53 hg53 h853 => ?_)
      show gm_Wp X LX d _ _ 318 56 _ [] n K _ _ Q
      refine gm_sz (gm_p_load (pc := 56) (i := .aload_n 0) (sr := 2) (j := 0) (by decide +kernel) rfl rfl rfl) ?_
      refine gm_c_virt (k := 226) (ci := 11) (mj := 266) (ix := 162) (pc := 57) (as := []) (st := []) (d' := d - 1) (bc' := 0) (bs' := 0) (by decide +kernel) (by decide +kernel) (by decide +kernel) (by decide +kernel) (e0k hE (k := 226) (c := 11) (by decide +kernel)).1 (e0k hE (k := 226) (c := 11) (by decide +kernel)).2 (by decide) (by decide +kernel) (show 0 = gm_na 266 by decide +kernel) fw_c0 (show 1 ≤ gm_ml 266 by decide +kernel) (Nat.le_of_ble_eq_true rfl) (by omega) (Nat.zero_le _) (Nat.zero_le _) ?_
      refine re_now9 hE (nopn_9 hw53 hN hg n8 v21.2.1) ?_
      show gm_Wp X LX d _ _ 318 60 _ [gm_vi (N 9)] n K _ _ Q
      refine gm_sz (gm_p_load (pc := 60) (i := .aload_n 0) (sr := 2) (j := 0) (by decide +kernel) rfl rfl rfl) ?_
      refine gm_sz (gm_p_load (pc := 61) (i := .iload_n 1) (sr := 0) (j := 1) (by decide +kernel) rfl rfl rfl) ?_
      refine gm_sz (gm_p_const (pc := 62) (i := .iconst 3) (v := gm_vi 3) (by decide +kernel) (by decide +kernel)) ?_
      refine gm_c_virt (k := 226) (ci := 11) (mj := 301) (ix := 82) (pc := 63) (as := [gm_vi l, gm_vi 3]) (st := [gm_vi (N 9)]) (d' := d - 1) (bc' := 0) (bs' := 0) (by decide +kernel) (by decide +kernel) (by decide +kernel) (by decide +kernel) (e0k hE (k := 226) (c := 11) (by decide +kernel)).1 (e0k hE (k := 226) (c := 11) (by decide +kernel)).2 (by decide) (by decide +kernel) (show 2 = gm_na 301 by decide +kernel) (fw_c2 fw_si fw_si) (show 3 ≤ gm_ml 301 by decide +kernel) (Nat.le_of_ble_eq_true rfl) (by omega) (Nat.zero_le _) (Nat.zero_le _) ?_
      refine re_ol9 hE ⟨by omega, by omega⟩ ⟨by omega, by omega⟩ (nopn_y hw53 hN hg n8 v21.2.1 (by omega)) ?_
      show gm_Wp X LX d _ _ 318 66 _ [gm_vi ((N (119 + (l * 7 + 3)))), gm_vi (N 9)] n K _ _ Q
      refine gm_sz (gm_p_bin (pc := 66) (i := .isub) (f := fun x y => x - y) (by decide +kernel) rfl) ?_
      have h9 := hisr_w (W := [(227, none)]) hs42 hf53 (by decide)
      rw [show M21 227 8 = M 227 8 from (fr_c hf21 (by decide)).trans (uM_ne (by omega))] at h9
      exact gm_r_int (pc := 67) (by decide +kernel) (Or.inl (by decide +kernel)) (hq n8 v21 M21 M53 hI21 (fr_t (fr_t fr_0 hf42 (by decide)) hf53 (by decide)) (fr_t (fr_t (fr_t (fr_p fr_0 (Or.inr (by decide))) hf21 (by decide)) hf42 (by decide)) hf53 (by decide)) h9 hw53 (fun j hj => (hg53 j hj).trans ((fr_c hf42 (by decide)).trans ((fr_c hf21 (by decide)).trans (uM_ne (by omega))))) (h853.trans ((fr_c hf42 (by decide)).trans ((fr_c hf21 (by decide)).trans (uM_ne (by omega))))) ((fr_c hf53 (by decide)).trans ((fr_j hf42 (by decide)).trans ((fr_j hf21 (by decide)).trans uM_at))))
    · show gm_Wp X LX d _ _ 318 24 _ [gm_vi 0, gm_vr 226] n K _ _ Q
      refine fw_iffd (cc := .ne) (pc := 24) (off := 7) (by decide +kernel) (by decide) ⟨by decide, by decide⟩ (by decide) ?_
      refine gm_sz (gm_p_const (pc := 27) (i := .iconst 1) (v := gm_vi 1) (by decide +kernel) (by decide +kernel)) ?_
      refine gm_sz (gm_p_goto (pc := 28) (off := 4) (by decide +kernel) (by decide)) ?_
      refine gm_sz (gm_p_const (pc := 32) (i := .iconst 2) (v := gm_vi 2) (by decide +kernel) (by decide +kernel)) ?_
      refine gm_c_virt (k := 226) (ci := 11) (mj := 282) (ix := 300) (pc := 33) (as := [gm_vi 1, gm_vi 2]) (st := []) (d' := d - 1) (bc' := 0) (bs' := 0) (by decide +kernel) (by decide +kernel) (by decide +kernel) (by decide +kernel) (e0k hE (k := 226) (c := 11) (by decide +kernel)).1 (e0k hE (k := 226) (c := 11) (by decide +kernel)).2 (by decide) (by decide +kernel) (show 2 = gm_na 282 by decide +kernel) (fw_c2 fw_si fw_si) (show 3 ≤ gm_ml 282 by decide +kernel) (Nat.le_of_ble_eq_true rfl) (by omega) (Nat.zero_le _) (Nat.zero_le _) ?_
      refine tf_1 hE ?_
      show gm_Wp X LX d _ _ 318 36 _ [gm_vi 1] n K _ _ Q
      refine fw_iffd (cc := .eq) (pc := 36) (off := 5) (by decide +kernel) (by decide) ⟨by decide, by decide⟩ (by decide) ?_
      refine gm_sz (gm_p_const (pc := 39) (i := .iconst 0) (v := gm_vi 0) (by decide +kernel) (by decide +kernel)) ?_
      exact gm_r_int (pc := 40) (by decide +kernel) (Or.inl (by decide +kernel)) (q2 n8 v21 (gm_uM M21 226 0 2) (fr_p (fr_t (fr_p fr_0 (Or.inr (by decide))) hf21 (by decide)) (Or.inr (by decide))) (hfw.2.1 [(226, some 0)] _ _ (by decide) (fr_p fr_0 (Or.inr (by decide))) hI21) uM_at)
end AC6
end
/-! 7a28.r7ys -/
section
/-! THE REFERENCE: a year more, years (laid by wip/core/r7.py). -/
section YS7
variable {X : Int → Int} {LX d bc bs n : Nat} {K : gm_K} {R : gm_R} {M : gm_M} {Q : gm_Q} {l p f t v w y c : Int} {N h : Int → Int} {FI : gm_M → Prop} {φ : Int → Int → Int → Int} {Ψ : (Int → Int) → Int → Int → Int → Int → Prop} {o dd : Int → Int} {A : List (Int → Int)}
theorem tr_ws {M2 : gm_M} {N2 : Int → Int} {W : List (Nat × Option Int)} (hT : TR N h M) (hw : ws (M2 227) = N2) (hf : fr W M M2) (hW : W.all (fun w => !(w.1 == 234)) = true) : TR N2 h M2 := ⟨hw, fun y y0 y1 => by
  rw [hf 234 y (fun hm => by have := List.all_eq_true.mp hW _ hm; simp at this) (fun hm => by have := List.all_eq_true.mp hW _ hm; simp at this)]
  exact hT.2 y y0 y1⟩
/-- what lies behind the world stays while a year goes by -/
noncomputable def BW (M M2 : gm_M) : Prop := (∀ j, 395 ≤ j → M2 227 j = M 227 j) ∧ M2 227 8 = M 227 8
theorem rm_l (hd : 20 ≤ d) (hE : E0 n K R) (hT : TR N h M) (hN : NR N) (hg : LOGI N) (h9 : N 9 < 299) (hfw : ∀ N2, geo N N2 → NR N2 → FLR X LX n K R N2 h FI φ) (hI : FI M) (hmo : ∀ N2, geo N N2 → NR N2 → MOR X LX n K R N2 h FI (Ψ N2)) (hFX : ∀ M M2, FI M → fr [(227, none)] M M2 → (∀ j, 395 ≤ j → M2 227 j = M 227 j) → M2 227 8 = M 227 8 → FI M2) (ho : ∀ l, 0 ≤ l → l < N 4 → OUTR N h φ l (o l) (dd l)) (hq : ∀ M2, fr [(226, some 29), (226, some 30), (226, some 26), (226, some 17), (226, some 18), (226, some 19), (226, some 20), (226, some 21), (226, some 22), (226, some 23), (235, none), (233, none), (236, none), (237, none), (227, none)] M M2 → FI M2 → BW M M2 → ws (M2 227) = (yrun Ψ o dd (nyr N, 0) (N 4).toNat).1 → Q (.inl (some (gm_vi (yrun Ψ o dd (nyr N, 0) (N 4).toNat).2))) n K R M2) : ∀ (u k : Nat) (z : Option gm_V) (M1 : gm_M), (k : Int) + (u : Int) = N 4 → fr [(226, some 29), (226, some 30), (226, some 26), (226, some 17), (226, some 18), (226, some 19), (226, some 20), (226, some 21), (226, some 22), (226, some 23), (235, none), (233, none), (236, none), (237, none), (227, none)] M M1 → FI M1 → BW M M1 → ws (M1 227) = (yrun Ψ o dd (nyr N, 0) k).1 → gm_Wp X LX d bc bs 321 15 [some (gm_vr 226), some (gm_vi (yrun Ψ o dd (nyr N, 0) k).2), some (gm_vi (k : Int)), z] [] n K R M1 Q := by
  have b4 := hN.2.1.2.2.2.1
  have b5 := hN.2.1.2.1
  have e4 : nyr N 4 = N 4 := nup_ne (by decide)
  have inv : ∀ k : Nat, (k : Int) ≤ N 4 → NR (yrun Ψ o dd (nyr N, 0) k).1 ∧ LOGI (yrun Ψ o dd (nyr N, 0) k).1 ∧ geo (nyr N) (yrun Ψ o dd (nyr N, 0) k).1 ∧ (yrun Ψ o dd (nyr N, 0) k).1 4 = nyr N 4 ∧ 0 ≤ (yrun Ψ o dd (nyr N, 0) k).2 ∧ (yrun Ψ o dd (nyr N, 0) k).2 ≤ 0 + (k : Int) := fun k hk => ym_i (nr_nyr hN h9) (logi_nyr hg) (Int.le_refl 0) k (by rw [e4]; exact hk)
  intro u
  induction u with
  | zero =>
    intro k z M1 hk hf hI1 hb hc
    have ek : (N 4).toNat = k := by omega
    rw [ek] at hq
    obtain ⟨i1, -, -, i4, -⟩ := inv k (by omega)
    exact rm_e (by omega) hE (tr_ws hT hc hf (by decide)) i1 (by rw [i4, e4]; omega) (hq M1 hf hI1 hb hc) z
  | succ u ih =>
    intro k z M1 hk hf hI1 hb hc
    obtain ⟨i1, i2, i3, i4, i5, i6⟩ := inv k (by omega)
    have g9 : geo N (yrun Ψ o dd (nyr N, 0) k).1 := geo_t geo_nyr i3
    refine rm_b (by omega) hE (tr_ws hT hc hf (by decide)) i1 i2 (hfw _ g9 i1) hI1 (hfw _ g9 i1).2.1 (hmo _ g9 i1) hFX ⟨by omega, by rw [i4, e4]; omega⟩ (OUTR_geo g9 b5 ⟨by omega, by omega⟩ (ho (k : Int) (by omega) (by omega))) ⟨i5, by omega⟩ (fun z2 M2 hf2 hI2 hb2 hc2 => ?_) z
    have q := ih (k + 1) z2 M2 (by omega) (fr_t hf hf2 (by decide)) hI2 ⟨fun j hj => (hb2.1 j hj).trans (hb.1 j hj), hb2.2.trans hb.2⟩ hc2
    rwa [show ((k + 1 : Nat) : Int) = (k : Int) + 1 by omega] at q
theorem rm_c321 (hd : 20 ≤ d) (hE : E0 n K R) (hT : TR N h M) (hN : NR N) (hg : LOGI N) (h9 : N 9 < 299) (hfw : ∀ N2, geo N N2 → NR N2 → FLR X LX n K R N2 h FI φ) (hI : FI M) (hmo : ∀ N2, geo N N2 → NR N2 → MOR X LX n K R N2 h FI (Ψ N2)) (hFX : ∀ M M2, FI M → fr [(227, none)] M M2 → (∀ j, 395 ≤ j → M2 227 j = M 227 j) → M2 227 8 = M 227 8 → FI M2) (ho : ∀ l, 0 ≤ l → l < N 4 → OUTR N h φ l (o l) (dd l)) (hq : ∀ M2, fr [(226, some 29), (226, some 30), (226, some 26), (226, some 17), (226, some 18), (226, some 19), (226, some 20), (226, some 21), (226, some 22), (226, some 23), (235, none), (233, none), (236, none), (237, none), (227, none)] M M2 → FI M2 → BW M M2 → ws (M2 227) = (yrun Ψ o dd (nyr N, 0) (N 4).toNat).1 → Q (.inl (some (gm_vi (yrun Ψ o dd (nyr N, 0) (N 4).toNat).2))) n K R M2) : gm_Wp X LX d bc bs 321 0 (gm_ent 321 [gm_vr 226]) [] n K R M Q := by
  obtain ⟨⟨⟨a0, b0⟩, ⟨a1, b1⟩, ⟨a10, b10⟩, ⟨a11, b11⟩, ⟨a12, b12⟩, a9, b9⟩, ⟨⟨a2, b2⟩, ⟨a5, b5⟩, ⟨a3, b3⟩, ⟨a4, b4⟩, ⟨a6, b6⟩, ⟨a14, b14⟩, ⟨a7, b7⟩, a13, b13⟩, rF, rP, rL⟩ := id hN
  refine gm_sz (gm_p_load (pc := 0) (i := .aload_n 0) (sr := 2) (j := 0) (by decide +kernel) rfl rfl rfl) ?_
  refine gm_sz (fw_gr (pc := 1) (ix := 13) (ci := 11) (j := 1) (r := 227) (by decide +kernel) (e0k hE (k := 226) (c := 11) (by decide +kernel)) (by decide +kernel) (by decide +kernel) (e0r hE (k := 226) (j := 1) (r := 227) (by decide +kernel))) ?_
  refine gm_sz (gm_p_const (pc := 4) (i := .bipush 9) (v := gm_vi 9) (by decide +kernel) (by decide +kernel)) ?_
  refine gm_sz (gm_p_dup2 (pc := 6) (by decide +kernel) fw_si fw_sr) ?_
  refine gm_sz (fw_ia (pc := 7) (k := 227) (len := 2093) (e0 := 9) (x := N 9) (by decide +kernel) (e0a hE (k := 227) (q := (0, 2093)) (by decide +kernel)).1 (e0a hE (k := 227) (q := (0, 2093)) (by decide +kernel)).2 (by decide) ⟨by omega, by omega⟩ (tr_w hT (by decide) (by decide) (by decide))) ?_
  refine gm_sz (gm_p_const (pc := 8) (i := .iconst 1) (v := gm_vi 1) (by decide +kernel) (by decide +kernel)) ?_
  refine gm_sz (gm_p_bin (pc := 9) (i := .iadd) (f := fun x y => x + y) (by decide +kernel) rfl) ?_
  refine gm_sz (fw_is (pc := 10) (k := 227) (len := 2093) (e0 := 9) (x := (N 9) + 1) (M' := gm_uM M 227 9 ((N 9) + 1)) (by decide +kernel) (e0a hE (k := 227) (q := (0, 2093)) (by decide +kernel)).1 (e0a hE (k := 227) (q := (0, 2093)) (by decide +kernel)).2 (by decide) ⟨by omega, by omega⟩ rfl) ?_
  refine gm_sz (gm_p_const (pc := 11) (i := .iconst 0) (v := gm_vi 0) (by decide +kernel) (by decide +kernel)) ?_
  refine gm_sz (gm_p_stor (pc := 12) (i := .istore_n 1) (sr := 0) (j := 1) (by decide +kernel) rfl (show 2 ≤ _ from Nat.le_of_ble_eq_true rfl) rfl) ?_
  refine gm_sz (gm_p_const (pc := 13) (i := .iconst 0) (v := gm_vi 0) (by decide +kernel) (by decide +kernel)) ?_
  refine gm_sz (gm_p_stor (pc := 14) (i := .istore_n 2) (sr := 0) (j := 2) (by decide +kernel) rfl (show 3 ≤ _ from Nat.le_of_ble_eq_true rfl) rfl) ?_
  have e9 : ws ((gm_uM M 227 9 ((N 9) + 1)) 227) = nyr N := by
    have e1 : (gm_uM M 227 9 ((N 9) + 1)) 227 = nup (M 227) 9 (N 9 + 1) := nup_s rfl
    rw [e1, ws_put (k := 9) ⟨by decide, by decide, by decide⟩, hT.1]
    rfl
  have f9 := hFX M (gm_uM M 227 9 ((N 9) + 1)) hI (show fr [(227, none)] M (gm_uM M 227 9 ((N 9) + 1)) from fr_p fr_0 (Or.inl (by decide))) (fun j hj => uM_ne (by omega)) (uM_ne (by omega))
  exact rm_l hd hE hT hN hg h9 hfw hI hmo hFX ho hq (N 4).toNat 0 _ (gm_uM M 227 9 ((N 9) + 1)) (by omega) (fr_p fr_0 (Or.inl (by decide))) f9 ⟨fun j hj => uM_ne (by omega), uM_ne (by omega)⟩ e9
theorem ry_l (hd : 22 ≤ d) (hE : E0 n K R) (hT : TR N h M) (hN : NR N) (hg : LOGI N) (hfw : ∀ N2, geo N N2 → NR N2 → FLR X LX n K R N2 h FI φ) (hI : FI M) (hmo : ∀ N2, geo N N2 → NR N2 → MOR X LX n K R N2 h FI (Ψ N2)) (hFX : ∀ M M2, FI M → fr [(227, none)] M M2 → (∀ j, 395 ≤ j → M2 227 j = M 227 j) → M2 227 8 = M 227 8 → FI M2) (ho : ∀ l, 0 ≤ l → l < N 4 → OUTR N h φ l (o l) (dd l)) (hv : 0 ≤ v ∧ v ≤ 50 ∧ v + N 9 ≤ 299) (hq : ∀ M2, fr [(226, some 29), (226, some 30), (226, some 26), (226, some 17), (226, some 18), (226, some 19), (226, some 20), (226, some 21), (226, some 22), (226, some 23), (235, none), (233, none), (236, none), (237, none), (227, none)] M M2 → FI M2 → BW M M2 → ws (M2 227) = (yrs Ψ o dd (N, 0) v.toNat).1 → Q (.inl (some (gm_vi (yrs Ψ o dd (N, 0) v.toNat).2))) n K R M2) : ∀ (u k : Nat) (M1 : gm_M), (k : Int) + (u : Int) = v → fr [(226, some 29), (226, some 30), (226, some 26), (226, some 17), (226, some 18), (226, some 19), (226, some 20), (226, some 21), (226, some 22), (226, some 23), (235, none), (233, none), (236, none), (237, none), (227, none)] M M1 → FI M1 → BW M M1 → ws (M1 227) = (yrs Ψ o dd (N, 0) k).1 → gm_Wp X LX d bc bs 320 50 [some (gm_vr 226), some (gm_vi v), some (gm_vi ((yrs Ψ o dd (N, 0) k).2)), some (gm_vi (k : Int))] [] n K R M1 Q := by
  have b5 := hN.2.1.2.1
  intro u
  induction u with
  | zero =>
    intro k M1 hk hf hI1 hb hc
    have ek : v.toNat = k := by omega
    rw [ek] at hq
    refine gm_sz (gm_p_load (pc := 50) (i := .iload_n 3) (sr := 0) (j := 3) (by decide +kernel) rfl rfl rfl) ?_
    refine gm_sz (gm_p_load (pc := 51) (i := .iload_n 1) (sr := 0) (j := 1) (by decide +kernel) rfl rfl rfl) ?_
    refine fw_ict (cc := .ge) (pc := 52) (off := 16) (by decide +kernel) (by decide) ⟨by omega, by omega⟩ ⟨by omega, by omega⟩ (show v ≤ (k : Int) by omega) ?_
    refine gm_sz (gm_p_load (pc := 68) (i := .iload_n 2) (sr := 0) (j := 2) (by decide +kernel) rfl rfl rfl) ?_
    exact gm_r_int (pc := 69) (by decide +kernel) (Or.inl (by decide +kernel)) (hq M1 hf hI1 hb hc)
  | succ u ih =>
    intro k M1 hk hf hI1 hb hc
    obtain ⟨i1, i2, i3, i4, i5, i6, i7⟩ := yrs_i (Ψ := Ψ) (o := o) (dd := dd) hN hg k (by omega)
    refine gm_sz (gm_p_load (pc := 50) (i := .iload_n 3) (sr := 0) (j := 3) (by decide +kernel) rfl rfl rfl) ?_
    refine gm_sz (gm_p_load (pc := 51) (i := .iload_n 1) (sr := 0) (j := 1) (by decide +kernel) rfl rfl rfl) ?_
    refine fw_icf (cc := .ge) (pc := 52) (off := 16) (by decide +kernel) (by decide) ⟨by omega, by omega⟩ ⟨by omega, by omega⟩ (show ¬ v ≤ (k : Int) by omega) ?_
    refine gm_sz (gm_p_load (pc := 55) (i := .iload_n 2) (sr := 0) (j := 2) (by decide +kernel) rfl rfl rfl) ?_
    refine gm_sz (gm_p_load (pc := 56) (i := .aload_n 0) (sr := 2) (j := 0) (by decide +kernel) rfl rfl rfl) ?_
    refine gm_c_virt (k := 226) (ci := 11) (mj := 321) (ix := 423) (pc := 57) (as := []) (st := [gm_vi ((yrs Ψ o dd (N, 0) k).2)]) (d' := d - 1) (bc' := 0) (bs' := 0) (by decide +kernel) (by decide +kernel) (by decide +kernel) (by decide +kernel) (e0k hE (k := 226) (c := 11) (by decide +kernel)).1 (e0k hE (k := 226) (c := 11) (by decide +kernel)).2 (by decide) (by decide +kernel) (show 0 = gm_na 321 by decide +kernel) fw_c0 (show 1 ≤ gm_ml 321 by decide +kernel) (Nat.le_of_ble_eq_true rfl) (by omega) (Nat.zero_le _) (Nat.zero_le _) ?_
    refine rm_c321 (o := o) (dd := dd) (by omega) hE (tr_ws hT hc hf (by decide)) i1 i2 (by omega) (fun N2 g2 n2 => hfw N2 (geo_t i3 g2) n2) hI1 (fun N2 g2 n2 => hmo N2 (geo_t i3 g2) n2) hFX (fun l l0 l1 => OUTR_geo i3 b5 ⟨l0, by have b4 := hN.2.1.2.2.2.1; omega⟩ (ho l l0 (by omega))) (fun M9 hf9 hI9 hb9 hc9 => ?_)
    show gm_Wp X LX d _ _ 320 60 _ [gm_vi ((yrun Ψ o dd (nyr (yrs Ψ o dd (N, 0) k).1, 0) ((yrs Ψ o dd (N, 0) k).1 4).toNat).2), gm_vi ((yrs Ψ o dd (N, 0) k).2)] n K _ _ Q
    refine gm_sz (gm_p_bin (pc := 60) (i := .iadd) (f := fun x y => x + y) (by decide +kernel) rfl) ?_
    refine gm_sz (gm_p_stor (pc := 61) (i := .istore_n 2) (sr := 0) (j := 2) (by decide +kernel) rfl (show 3 ≤ _ from Nat.le_of_ble_eq_true rfl) rfl) ?_
    refine gm_sz (gm_p_iinc (pc := 62) (j := 3) (z := 1) (by decide +kernel) rfl) ?_
    refine gm_sz (gm_p_goto (pc := 65) (off := (-15)) (by decide +kernel) (by decide)) ?_
    have q := ih (k + 1) M9 (by omega) (fr_t (fr_t fr_0 hf (by decide)) hf9 (by decide)) hI9 ⟨fun j hj => (hb9.1 j hj).trans (hb.1 j hj), hb9.2.trans hb.2⟩ hc9
    rwa [show ((k + 1 : Nat) : Int) = (k : Int) + 1 by omega] at q
theorem ra_320 (hd : 22 ≤ d) (hE : E0 n K R) (hT : TR N h M) (hN : NR N) (hg : LOGI N) (hfw : ∀ N2, geo N N2 → NR N2 → FLR X LX n K R N2 h FI φ) (hI : FI M) (hmo : ∀ N2, geo N N2 → NR N2 → MOR X LX n K R N2 h FI (Ψ N2)) (hFX : ∀ M M2, FI M → fr [(227, none)] M M2 → (∀ j, 395 ≤ j → M2 227 j = M 227 j) → M2 227 8 = M 227 8 → FI M2) (ho : ∀ l, 0 ≤ l → l < N 4 → OUTR N h φ l (o l) (dd l)) (hH : HISR A (M 227 8) M) (hy : gm_ir y) (q0 : ¬ (1 ≤ y ∧ y ≤ 50 ∧ y ≤ 299 - N 9) → ∀ M2, fr [(226, some 0)] M M2 → M2 226 0 = 1 → Q (.inl (some (gm_vi 0))) n K R M2) (hq : 1 ≤ y ∧ y ≤ 50 ∧ y ≤ 299 - N 9 → ∀ M2 : gm_M, fr [(226, some 0), (226, some 6), (230, none), (226, some 29), (226, some 30), (226, some 26), (226, some 17), (226, some 18), (226, some 19), (226, some 20), (226, some 21), (226, some 22), (226, some 23), (235, none), (233, none), (236, none), (237, none), (227, none)] M M2 → FI M2 → HISR ((N :: A).take 12) (M 227 8) M2 → ws (M2 227) = (yrs Ψ o dd (N, 0) y.toNat).1 → (∀ j, 395 ≤ j → M2 227 j = M 227 j) → M2 227 8 = M 227 8 → M2 226 0 = 0 → Q (.inl (some (gm_vi (yrs Ψ o dd (N, 0) y.toNat).2))) n K R M2) : gm_Wp X LX d bc bs 320 0 (gm_ent 320 [gm_vr 226, gm_vi y]) [] n K R M Q := by
  obtain ⟨⟨⟨a0, b0⟩, ⟨a1, b1⟩, ⟨a10, b10⟩, ⟨a11, b11⟩, ⟨a12, b12⟩, a9, b9⟩, ⟨⟨a2, b2⟩, ⟨a5, b5⟩, ⟨a3, b3⟩, ⟨a4, b4⟩, ⟨a6, b6⟩, ⟨a14, b14⟩, ⟨a7, b7⟩, a13, b13⟩, rF, rP, rL⟩ := id hN
  refine gm_sz (gm_p_load (pc := 0) (i := .aload_n 0) (sr := 2) (j := 0) (by decide +kernel) rfl rfl rfl) ?_
  refine gm_sz (gm_p_const (pc := 1) (i := .iconst 0) (v := gm_vi 0) (by decide +kernel) (by decide +kernel)) ?_
  refine gm_sz (fw_pi (pc := 2) (ix := 3) (ci := 11) (j := 0) (M' := gm_uM M 226 0 0) (by decide +kernel) (e0k hE (k := 226) (c := 11) (by decide +kernel)) (by decide +kernel) (by decide +kernel) (by decide +kernel) rfl) ?_
  refine gm_sz (gm_p_load (pc := 5) (i := .aload_n 0) (sr := 2) (j := 0) (by decide +kernel) rfl rfl rfl) ?_
  refine gm_sz (gm_p_load (pc := 6) (i := .iload_n 1) (sr := 0) (j := 1) (by decide +kernel) rfl rfl rfl) ?_
  refine gm_sz (gm_p_const (pc := 7) (i := .iconst 1) (v := gm_vi 1) (by decide +kernel) (by decide +kernel)) ?_
  refine gm_sz (gm_p_const (pc := 8) (i := .bipush 50) (v := gm_vi 50) (by decide +kernel) (by decide +kernel)) ?_
  refine gm_c_stat (mj := 286) (ix := 90) (pc := 10) (as := [gm_vi y, gm_vi 1, gm_vi 50]) (st := [gm_vr 226]) (d' := d - 1) (bc' := 0) (bs' := 0) (by decide +kernel) (by decide +kernel) (by decide +kernel) (by decide +kernel) (show 3 = gm_na 286 by decide +kernel) (fw_c3 fw_si fw_si fw_si) (show 3 ≤ gm_ml 286 by decide +kernel) (Nat.le_of_ble_eq_true rfl) (by omega) (Nat.zero_le _) (Nat.zero_le _) ?_
  refine in_286 (x := y) (y := 1) (z := 50) hy ⟨by decide, by decide⟩ ⟨by decide, by decide⟩ (fun k10a k10 => ?_) (fun k10 => ?_)
  · show gm_Wp X LX d _ _ 320 13 _ [gm_vi 1, gm_vr 226] n K _ _ Q
    have k10a : 1 ≤ y := k10a
    have k10 : y ≤ 50 := k10
    refine fw_iffd (cc := .eq) (pc := 13) (off := 15) (by decide +kernel) (by decide) ⟨by decide, by decide⟩ (by decide) ?_
    refine gm_sz (gm_p_load (pc := 16) (i := .aload_n 0) (sr := 2) (j := 0) (by decide +kernel) rfl rfl rfl) ?_
    refine gm_c_virt (k := 226) (ci := 11) (mj := 266) (ix := 162) (pc := 17) (as := []) (st := [gm_vr 226]) (d' := d - 1) (bc' := 0) (bs' := 0) (by decide +kernel) (by decide +kernel) (by decide +kernel) (by decide +kernel) (e0k hE (k := 226) (c := 11) (by decide +kernel)).1 (e0k hE (k := 226) (c := 11) (by decide +kernel)).2 (by decide) (by decide +kernel) (show 0 = gm_na 266 by decide +kernel) fw_c0 (show 1 ≤ gm_ml 266 by decide +kernel) (Nat.le_of_ble_eq_true rfl) (by omega) (Nat.zero_le _) (Nat.zero_le _) ?_
    refine re_now9 hE ((uM_ne (by omega)).trans (tr_w hT (by decide) (by decide) (by decide))) ?_
    show gm_Wp X LX d _ _ 320 20 _ [gm_vi (N 9), gm_vr 226] n K _ _ Q
    refine gm_sz (gm_p_load (pc := 20) (i := .iload_n 1) (sr := 0) (j := 1) (by decide +kernel) rfl rfl rfl) ?_
    refine gm_sz (gm_p_bin (pc := 21) (i := .iadd) (f := fun x y => x + y) (by decide +kernel) rfl) ?_
    refine gm_sz (gm_p_const (pc := 22) (i := .sipush 299) (v := gm_vi 299) (by decide +kernel) (by decide +kernel)) ?_
    refine fw_ic (cc := .le) (pc := 25) (off := 7) (by decide +kernel) (by decide) ⟨by omega, by omega⟩ ⟨by decide, by decide⟩ (fun h25 => ?_) (fun h25 => ?_)
    · have h25 : ((N 9) + y) ≤ 299 := h25
      refine gm_sz (gm_p_const (pc := 32) (i := .iconst 0) (v := gm_vi 0) (by decide +kernel) (by decide +kernel)) ?_
      refine gm_sz (gm_p_const (pc := 33) (i := .iconst 1) (v := gm_vi 1) (by decide +kernel) (by decide +kernel)) ?_
      refine gm_c_virt (k := 226) (ci := 11) (mj := 282) (ix := 300) (pc := 34) (as := [gm_vi 0, gm_vi 1]) (st := []) (d' := d - 1) (bc' := 0) (bs' := 0) (by decide +kernel) (by decide +kernel) (by decide +kernel) (by decide +kernel) (e0k hE (k := 226) (c := 11) (by decide +kernel)).1 (e0k hE (k := 226) (c := 11) (by decide +kernel)).2 (by decide) (by decide +kernel) (show 2 = gm_na 282 by decide +kernel) (fw_c2 fw_si fw_si) (show 3 ≤ gm_ml 282 by decide +kernel) (Nat.le_of_ble_eq_true rfl) (by omega) (Nat.zero_le _) (Nat.zero_le _) ?_
      refine tf_0 hE ?_
      show gm_Wp X LX d _ _ 320 37 _ [gm_vi 0] n K _ _ Q
      refine fw_iftd (cc := .eq) (pc := 37) (off := 5) (by decide +kernel) (by decide) ⟨by decide, by decide⟩ (by decide) ?_
      refine gm_sz (gm_p_load (pc := 42) (i := .aload_n 0) (sr := 2) (j := 0) (by decide +kernel) rfl rfl rfl) ?_
      refine gm_c_virt (k := 226) (ci := 11) (mj := 316) (ix := 411) (pc := 43) (as := []) (st := []) (d' := d - 1) (bc' := 0) (bs' := 0) (by decide +kernel) (by decide +kernel) (by decide +kernel) (by decide +kernel) (e0k hE (k := 226) (c := 11) (by decide +kernel)).1 (e0k hE (k := 226) (c := 11) (by decide +kernel)).2 (by decide) (by decide +kernel) (show 0 = gm_na 316 by decide +kernel) fw_c0 (show 1 ≤ gm_ml 316 by decide +kernel) (Nat.le_of_ble_eq_true rfl) (by omega) (Nat.zero_le _) (Nat.zero_le _) ?_
      refine rm_c316 hE (tr_fr (W := [(226, some 0)]) hT (fr_p fr_0 (Or.inr (by decide))) (by decide)).1 (by have h9 : HISR A (M 227 8) (gm_uM M 226 0 0) := hisr_w (W := [(226, some 0)]) hH (fr_p fr_0 (Or.inr (by decide))) (by decide); rwa [show M 227 8 = (gm_uM M 226 0 0) 227 8 from ((uM_ne (by omega))).symm] at h9) (fun M43 hf43 hs43 => ?_)
      show gm_Wp X LX d _ _ 320 46 _ [] n K _ _ Q
      refine gm_sz (gm_p_const (pc := 46) (i := .iconst 0) (v := gm_vi 0) (by decide +kernel) (by decide +kernel)) ?_
      refine gm_sz (gm_p_stor (pc := 47) (i := .istore_n 2) (sr := 0) (j := 2) (by decide +kernel) rfl (show 3 ≤ _ from Nat.le_of_ble_eq_true rfl) rfl) ?_
      refine gm_sz (gm_p_const (pc := 48) (i := .iconst 0) (v := gm_vi 0) (by decide +kernel) (by decide +kernel)) ?_
      refine gm_sz (gm_p_stor (pc := 49) (i := .istore_n 3) (sr := 0) (j := 3) (by decide +kernel) rfl (show 4 ≤ _ from Nat.le_of_ble_eq_true rfl) rfl) ?_
      have f9 : FI M43 := (hfw N geo_r hN).2.1 [(226, some 0), (226, some 6), (230, none)] _ _ (by decide) (fr_t (fr_p fr_0 (Or.inr (by decide))) hf43 (by decide)) hI
      have c0 : M43 226 0 = 0 := ((fr_j hf43 (by decide)).trans uM_at)
      refine ry_l (o := o) (dd := dd) hd hE (tr_fr (W := [(226, some 0), (226, some 6), (230, none)]) hT (fr_t (fr_p fr_0 (Or.inr (by decide))) hf43 (by decide)) (by decide)) hN hg hfw f9 hmo hFX ho ⟨by omega, by omega, by omega⟩ (fun M2 hf2 hI2 hb2 hc2 => ?_) y.toNat 0 M43 (by omega) fr_0 f9 ⟨fun _ _ => rfl, rfl⟩ (tr_fr (W := [(226, some 0), (226, some 6), (230, none)]) hT (fr_t (fr_p fr_0 (Or.inr (by decide))) hf43 (by decide)) (by decide)).1
      have h9 := hisr_w (W := [(226, some 29), (226, some 30), (226, some 26), (226, some 17), (226, some 18), (226, some 19), (226, some 20), (226, some 21), (226, some 22), (226, some 23), (235, none), (233, none), (236, none), (237, none), (227, none)]) hs43 hf2 (by decide)
      rw [show gm_uM M 226 0 0 227 8 = M 227 8 from uM_ne (by omega)] at h9
      exact hq ⟨by omega, by omega, by omega⟩ M2 (fr_t (fr_t (fr_p fr_0 (Or.inr (by decide))) hf43 (by decide)) hf2 (by decide)) hI2 h9 hc2 (fun j hj => (hb2.1 j hj).trans ((fr_c hf43 (by decide)).trans (uM_ne (by omega)))) (hb2.2.trans ((fr_c hf43 (by decide)).trans (uM_ne (by omega)))) ((fr_j hf2 (by decide)).trans c0)
    · have h25 : ¬ ((N 9) + y) ≤ 299 := h25
      refine gm_sz (gm_p_const (pc := 28) (i := .iconst 1) (v := gm_vi 1) (by decide +kernel) (by decide +kernel)) ?_
      refine gm_sz (gm_p_goto (pc := 29) (off := 4) (by decide +kernel) (by decide)) ?_
      refine gm_sz (gm_p_const (pc := 33) (i := .iconst 1) (v := gm_vi 1) (by decide +kernel) (by decide +kernel)) ?_
      refine gm_c_virt (k := 226) (ci := 11) (mj := 282) (ix := 300) (pc := 34) (as := [gm_vi 1, gm_vi 1]) (st := []) (d' := d - 1) (bc' := 0) (bs' := 0) (by decide +kernel) (by decide +kernel) (by decide +kernel) (by decide +kernel) (e0k hE (k := 226) (c := 11) (by decide +kernel)).1 (e0k hE (k := 226) (c := 11) (by decide +kernel)).2 (by decide) (by decide +kernel) (show 2 = gm_na 282 by decide +kernel) (fw_c2 fw_si fw_si) (show 3 ≤ gm_ml 282 by decide +kernel) (Nat.le_of_ble_eq_true rfl) (by omega) (Nat.zero_le _) (Nat.zero_le _) ?_
      refine tf_1 hE ?_
      show gm_Wp X LX d _ _ 320 37 _ [gm_vi 1] n K _ _ Q
      refine fw_iffd (cc := .eq) (pc := 37) (off := 5) (by decide +kernel) (by decide) ⟨by decide, by decide⟩ (by decide) ?_
      refine gm_sz (gm_p_const (pc := 40) (i := .iconst 0) (v := gm_vi 0) (by decide +kernel) (by decide +kernel)) ?_
      exact gm_r_int (pc := 41) (by decide +kernel) (Or.inl (by decide +kernel)) (q0 (by omega) (gm_uM (gm_uM M 226 0 0) 226 0 1) (fr_p (fr_p fr_0 (Or.inr (by decide))) (Or.inr (by decide))) uM_at)
  · show gm_Wp X LX d _ _ 320 13 _ [gm_vi 0, gm_vr 226] n K _ _ Q
    have k10 : ¬ (1 ≤ y ∧ y ≤ 50) := k10
    refine fw_iftd (cc := .eq) (pc := 13) (off := 15) (by decide +kernel) (by decide) ⟨by decide, by decide⟩ (by decide) ?_
    refine gm_sz (gm_p_const (pc := 28) (i := .iconst 1) (v := gm_vi 1) (by decide +kernel) (by decide +kernel)) ?_
    refine gm_sz (gm_p_goto (pc := 29) (off := 4) (by decide +kernel) (by decide)) ?_
    refine gm_sz (gm_p_const (pc := 33) (i := .iconst 1) (v := gm_vi 1) (by decide +kernel) (by decide +kernel)) ?_
    refine gm_c_virt (k := 226) (ci := 11) (mj := 282) (ix := 300) (pc := 34) (as := [gm_vi 1, gm_vi 1]) (st := []) (d' := d - 1) (bc' := 0) (bs' := 0) (by decide +kernel) (by decide +kernel) (by decide +kernel) (by decide +kernel) (e0k hE (k := 226) (c := 11) (by decide +kernel)).1 (e0k hE (k := 226) (c := 11) (by decide +kernel)).2 (by decide) (by decide +kernel) (show 2 = gm_na 282 by decide +kernel) (fw_c2 fw_si fw_si) (show 3 ≤ gm_ml 282 by decide +kernel) (Nat.le_of_ble_eq_true rfl) (by omega) (Nat.zero_le _) (Nat.zero_le _) ?_
    refine tf_1 hE ?_
    show gm_Wp X LX d _ _ 320 37 _ [gm_vi 1] n K _ _ Q
    refine fw_iffd (cc := .eq) (pc := 37) (off := 5) (by decide +kernel) (by decide) ⟨by decide, by decide⟩ (by decide) ?_
    refine gm_sz (gm_p_const (pc := 40) (i := .iconst 0) (v := gm_vi 0) (by decide +kernel) (by decide +kernel)) ?_
    exact gm_r_int (pc := 41) (by decide +kernel) (Or.inl (by decide +kernel)) (q0 (by omega) (gm_uM (gm_uM M 226 0 0) 226 0 1) (fr_p (fr_p fr_0 (Or.inr (by decide))) (Or.inr (by decide))) uM_at)
end YS7
end
