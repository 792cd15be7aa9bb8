/-! THE CLASS: years, undo, back (laid by wip/core/c15.py). -/
section YS15
variable {X : Int → Int} {LX d bc bs n : Nat} {K : gm_K} {R : gm_R} {M : gm_M} {Q : gm_Q} {l p f t v w y : Int} {N NI h : Int → Int} {sp : Int → Int → Int} {FI : gm_M → Prop} {φ : Int → Int → Int → Int} {Ψ : (Int → Int) → Int → Int → Int → Int → Prop} {o dd : Int → Int} {A : List (Int → Int)}
/-- k YEARS more: the world, how many opened -/
noncomputable def yrs (Ψ : (Int → Int) → Int → Int → Int → Int → Prop) (o dd : Int → Int) (s : (Int → Int) × Int) : Nat → (Int → Int) × Int
  | 0 => s
  | k + 1 => ((yrun Ψ o dd (nyr (yrs Ψ o dd s k).1, 0) ((yrs Ψ o dd s k).1 4).toNat).1, (yrs Ψ o dd s k).2 + (yrun Ψ o dd (nyr (yrs Ψ o dd s k).1, 0) ((yrs Ψ o dd s k).1 4).toNat).2)
theorem ym_9 (hN : NR N) (hg : LOGI N) {s0 : Int} (h0 : 0 ≤ s0) : ∀ k : Nat, (k : Int) ≤ N 4 → (yrun Ψ o dd (N, s0) k).1 9 = N 9 := by
  intro k
  induction k with
  | zero => exact fun _ => rfl
  | succ k ih =>
    intro hk
    have i9 := ih (by omega)
    obtain ⟨i1, i2, i3, i4, i5, i6⟩ := ym_i (Ψ := Ψ) (o := o) (dd := dd) hN hg h0 k (by omega)
    show (ystep Ψ o dd (k : Int) (yrun Ψ o dd (N, s0) k)).1 9 = N 9
    generalize yrun Ψ o dd (N, s0) k = s at i1 i2 i3 i4 i5 i6 i9 ⊢
    unfold ystep
    by_cases h : WTS s.1 (k : Int) (o (k : Int)) ∧ ¬ opf s.1 (Ψ s.1) (k : Int) (dd (k : Int)) = -1
    · rw [tif_t h]
      have hl : 0 ≤ (k : Int) ∧ (k : Int) < s.1 4 := ⟨by omega, by omega⟩
      have b4 := i1.2.1.2.2.2.1
      have ho := logi_lt i1 i2 hl h.1.2.1
      exact (nopn_o (i := 9) (by decide) (by decide) ⟨hl.1, by omega⟩ ho).trans i9
    · rw [tif_f h]
      exact i9
/-- what years keep -/
theorem yrs_i (hN : NR N) (hg : LOGI N) : ∀ k : Nat, N 9 + (k : Int) ≤ 299 → NR (yrs Ψ o dd (N, 0) k).1 ∧ LOGI (yrs Ψ o dd (N, 0) k).1 ∧ geo N (yrs Ψ o dd (N, 0) k).1 ∧ (yrs Ψ o dd (N, 0) k).1 4 = N 4 ∧ (yrs Ψ o dd (N, 0) k).1 9 = N 9 + (k : Int) ∧ 0 ≤ (yrs Ψ o dd (N, 0) k).2 ∧ (yrs Ψ o dd (N, 0) k).2 ≤ 24 * (k : Int) := by
  intro k
  induction k with
  | zero => exact fun _ => ⟨hN, hg, geo_r, rfl, by show N 9 = N 9 + ((0 : Nat) : Int); omega, Int.le_refl _, by show (0 : Int) ≤ 24 * ((0 : Nat) : Int); omega⟩
  | succ k ih =>
    intro hk
    obtain ⟨i1, i2, i3, i4, i5, i6, i7⟩ := ih (by omega)
    show NR (yrun Ψ o dd (nyr (yrs Ψ o dd (N, 0) k).1, 0) ((yrs Ψ o dd (N, 0) k).1 4).toNat).1 ∧ LOGI (yrun Ψ o dd (nyr (yrs Ψ o dd (N, 0) k).1, 0) ((yrs Ψ o dd (N, 0) k).1 4).toNat).1 ∧ geo N (yrun Ψ o dd (nyr (yrs Ψ o dd (N, 0) k).1, 0) ((yrs Ψ o dd (N, 0) k).1 4).toNat).1 ∧ (yrun Ψ o dd (nyr (yrs Ψ o dd (N, 0) k).1, 0) ((yrs Ψ o dd (N, 0) k).1 4).toNat).1 4 = N 4 ∧ (yrun Ψ o dd (nyr (yrs Ψ o dd (N, 0) k).1, 0) ((yrs Ψ o dd (N, 0) k).1 4).toNat).1 9 = N 9 + ((k + 1 : Nat) : Int) ∧ 0 ≤ (yrs Ψ o dd (N, 0) k).2 + (yrun Ψ o dd (nyr (yrs Ψ o dd (N, 0) k).1, 0) ((yrs Ψ o dd (N, 0) k).1 4).toNat).2 ∧ (yrs Ψ o dd (N, 0) k).2 + (yrun Ψ o dd (nyr (yrs Ψ o dd (N, 0) k).1, 0) ((yrs Ψ o dd (N, 0) k).1 4).toNat).2 ≤ 24 * ((k + 1 : Nat) : Int)
    generalize yrs Ψ o dd (N, 0) k = s at i1 i2 i3 i4 i5 i6 i7 ⊢
    have b4 := i1.2.1.2.2.2.1
    have e4 : nyr s.1 4 = s.1 4 := nup_ne (by decide)
    obtain ⟨j1, j2, j3, j4, j5, j6⟩ := ym_i (Ψ := Ψ) (o := o) (dd := dd) (nr_nyr i1 (by omega)) (logi_nyr i2) (Int.le_refl 0) (s.1 4).toNat (by rw [e4]; omega)
    have j9 := ym_9 (Ψ := Ψ) (o := o) (dd := dd) (nr_nyr i1 (by omega)) (logi_nyr i2) (s0 := 0) (Int.le_refl 0) (s.1 4).toNat (by rw [e4]; omega)
    have e9 : nyr s.1 9 = s.1 9 + 1 := nup_at
    exact ⟨j1, j2, geo_t i3 (geo_t geo_nyr j3), by rw [j4, e4]; exact i4, by rw [j9, e9, i5]; omega, by omega, by omega⟩

theorem ys_l (hd : 7 ≤ d) (hE : E0 n K R) (hT : TI N h sp M) (hN : NR N) (hg : LOGI N) (hst : FSt FI) (hmo : ∀ N2, geo N N2 → NR N2 → MOW X LX n K R N2 h sp FI (Ψ N2)) (hI : FI M) (hen : ENF N o dd M) (hv : 0 ≤ v ∧ v ≤ 50 ∧ v + N 9 ≤ 299) (hq : ∀ M2, fr [(3, some 6), (11, none), (14, some 3), (15, none), (204, none)] M M2 → cs M2 3 = (yrs Ψ o dd (N, 0) v.toNat).1 → Q (.inl (some (gm_vi (yrs Ψ o dd (N, 0) v.toNat).2))) n K R M2) : ∀ (u k : Nat) (M1 : gm_M), (k : Int) + (u : Int) = v → fr [(3, some 6), (11, none), (14, some 3), (15, none), (204, none)] M M1 → cs M1 3 = (yrs Ψ o dd (N, 0) k).1 → gm_Wp X LX d bc bs 161 56 [some (gm_vr 1), some (gm_vi v), some (gm_vi ((yrs Ψ o dd (N, 0) k).2)), some (gm_vi (k : Int))] [] n K R M1 Q := by
  intro u
  induction u with
  | zero =>
    intro k M1 hk hf hc
    have ek : v.toNat = k := by omega
    rw [ek] at hq
    refine gm_sz (gm_p_load (pc := 56) (i := .iload_n 3) (sr := 0) (j := 3) (by decide +kernel) rfl rfl rfl) ?_
    refine gm_sz (gm_p_load (pc := 57) (i := .iload_n 1) (sr := 0) (j := 1) (by decide +kernel) rfl rfl rfl) ?_
    refine fw_ict (cc := .ge) (pc := 58) (off := 16) (by decide +kernel) (by decide) ⟨by omega, by omega⟩ ⟨by omega, by omega⟩ (show v ≤ (k : Int) by omega) ?_
    refine gm_sz (gm_p_load (pc := 74) (i := .iload_n 2) (sr := 0) (j := 2) (by decide +kernel) rfl rfl rfl) ?_
    exact gm_r_int (pc := 75) (by decide +kernel) (Or.inl (by decide +kernel)) (hq M1 hf hc)
  | succ u ih =>
    intro k M1 hk hf hc
    obtain ⟨i1, i2, i3, i4, i5, i6, i7⟩ := yrs_i (Ψ := Ψ) (o := o) (dd := dd) hN hg k (by omega)
    have t1 : TI (yrs Ψ o dd (N, 0) k).1 h sp M1 := ti_geo i3 hT (cst_fr hT.1 hf (by decide +kernel)) hc (fun a j a1 a2 => hf a j (fun hm => by simp at hm; omega) (fun hm => by simp at hm; omega))
    have en : ENF (yrs Ψ o dd (N, 0) k).1 o dd M1 := ⟨by rw [i4]; exact (fr_c hf (by decide)).trans hen.1, fun l l0 l1 => by
      rw [i4] at l1
      obtain ⟨a, b, c⟩ := hen.2 l l0 l1
      exact ⟨(fr_c hf (by decide)).trans a, (fr_c hf (by decide)).trans b, c⟩⟩
    refine gm_sz (gm_p_load (pc := 56) (i := .iload_n 3) (sr := 0) (j := 3) (by decide +kernel) rfl rfl rfl) ?_
    refine gm_sz (gm_p_load (pc := 57) (i := .iload_n 1) (sr := 0) (j := 1) (by decide +kernel) rfl rfl rfl) ?_
    refine fw_icf (cc := .ge) (pc := 58) (off := 16) (by decide +kernel) (by decide) ⟨by omega, by omega⟩ ⟨by omega, by omega⟩ (show ¬ v ≤ (k : Int) by omega) ?_
    refine gm_sz (gm_p_load (pc := 61) (i := .iload_n 2) (sr := 0) (j := 2) (by decide +kernel) rfl rfl rfl) ?_
    refine gm_sz (gm_p_load (pc := 62) (i := .aload_n 0) (sr := 2) (j := 0) (by decide +kernel) rfl rfl rfl) ?_
    refine gm_c_virt (k := 1) (ci := 0) (mj := 162) (ix := 274) (pc := 63) (as := []) (st := [gm_vi ((yrs Ψ o dd (N, 0) k).2)]) (d' := d - 1) (bc' := 0) (bs' := 0) (by decide +kernel) (by decide +kernel) (by decide +kernel) (by decide +kernel) (e0k hE (k := 1) (c := 0) (by decide +kernel)).1 (e0k hE (k := 1) (c := 0) (by decide +kernel)).2 (by decide) (by decide +kernel) (show 0 = gm_na 162 by decide +kernel) fw_c0 (show 1 ≤ gm_ml 162 by decide +kernel) (Nat.le_of_ble_eq_true rfl) (by omega) (Nat.zero_le _) (Nat.zero_le _) ?_
    refine ym_c162 (by omega) hE t1 i1 i2 (by omega) hst (fun N2 g2 n2 => hmo N2 (geo_t i3 g2) n2) (hst [(3, some 6), (11, none), (14, some 3), (15, none), (204, none)] _ _ (by decide) hf hI) en (fun M9 hf9 hc9 => ?_)
    show gm_Wp X LX d _ _ 161 66 _ [gm_vi ((yrun Ψ o dd (nyr (yrs Ψ o dd (N, 0) k).1, 0) ((yrs Ψ o dd (N, 0) k).1 4).toNat).2), gm_vi ((yrs Ψ o dd (N, 0) k).2)] n K _ _ Q
    refine gm_sz (gm_p_bin (pc := 66) (i := .iadd) (f := fun x y => x + y) (by decide +kernel) rfl) ?_
    refine gm_sz (gm_p_stor (pc := 67) (i := .istore_n 2) (sr := 0) (j := 2) (by decide +kernel) rfl (show 3 ≤ _ from Nat.le_of_ble_eq_true rfl) rfl) ?_
    refine gm_sz (gm_p_iinc (pc := 68) (j := 3) (z := 1) (by decide +kernel) rfl) ?_
    refine gm_sz (gm_p_goto (pc := 71) (off := (-15)) (by decide +kernel) (by decide)) ?_
    have q := ih (k + 1) M9 (by omega) (fr_t (fr_t fr_0 hf (by decide)) hf9 (by decide)) hc9
    rwa [show ((k + 1 : Nat) : Int) = (k : Int) + 1 by omega] at q
theorem ends_e {M2 : gm_M} (he : ENDS N h φ M) (e : ∀ (x : Nat) (j : Int), 220 ≤ x → M2 x j = M x j) : ENDS N h φ M2 := ⟨by rw [e 220 3 (by decide)]; exact he.1, fun l l0 l1 => by rw [e 221 _ (by decide), e 221 _ (by decide)]; exact he.2 l l0 l1⟩
theorem opf_e {ψ : Int → Int → Int → Int → Prop} {l dp dp2 : Int} (h : dp = dp2) : opf N ψ l dp = opf N ψ l dp2 := by rw [h]
/-- years hang on the ends as far as these are told -/
theorem yrun_e {o2 dd2 : Int → Int} (hN : NR N) (hg : LOGI N) {s0 : Int} (h0 : 0 ≤ s0) (he : ∀ l, 0 ≤ l → l < N 4 → (o l = o2 l ∧ -1 ≤ o l) ∧ (0 ≤ o l → dd l = dd2 l)) : ∀ k : Nat, (k : Int) ≤ N 4 → yrun Ψ o dd (N, s0) k = yrun Ψ o2 dd2 (N, s0) k := by
  intro k
  induction k with
  | zero => exact fun _ => rfl
  | succ k ih =>
    intro hk
    obtain ⟨-, -, -, i4, -, -⟩ := ym_i (Ψ := Ψ) (o := o) (dd := dd) hN hg h0 k (by omega)
    show ystep Ψ o dd (k : Int) (yrun Ψ o dd (N, s0) k) = ystep Ψ o2 dd2 (k : Int) (yrun Ψ o2 dd2 (N, s0) k)
    rw [← ih (by omega)]
    generalize yrun Ψ o dd (N, s0) k = s at i4 ⊢
    obtain ⟨⟨a1, a0⟩, a2⟩ := he (k : Int) (by omega) (by omega)
    unfold ystep
    rw [← a1]
    by_cases h : WTS s.1 (k : Int) (o (k : Int))
    · rw [a2 (by have := h.2.2.1; have := h.2.2.2; omega)]
    · rw [tif_f (fun hh => h hh.1), tif_f (fun hh => h hh.1)]
theorem yrs_e {o2 dd2 : Int → Int} (hN : NR N) (hg : LOGI N) (he : ∀ l, 0 ≤ l → l < N 4 → (o l = o2 l ∧ -1 ≤ o l) ∧ (0 ≤ o l → dd l = dd2 l)) : ∀ k : Nat, N 9 + (k : Int) ≤ 299 → yrs Ψ o dd (N, 0) k = yrs Ψ o2 dd2 (N, 0) k := by
  intro k
  induction k with
  | zero => exact fun _ => rfl
  | succ k ih =>
    intro hk
    obtain ⟨i1, i2, i3, i4, i5, i6, i7⟩ := yrs_i (Ψ := Ψ) (o := o) (dd := dd) hN hg k (by omega)
    show ((yrun Ψ o dd (nyr (yrs Ψ o dd (N, 0) k).1, 0) ((yrs Ψ o dd (N, 0) k).1 4).toNat).1, (yrs Ψ o dd (N, 0) k).2 + (yrun Ψ o dd (nyr (yrs Ψ o dd (N, 0) k).1, 0) ((yrs Ψ o dd (N, 0) k).1 4).toNat).2) = ((yrun Ψ o2 dd2 (nyr (yrs Ψ o2 dd2 (N, 0) k).1, 0) ((yrs Ψ o2 dd2 (N, 0) k).1 4).toNat).1, (yrs Ψ o2 dd2 (N, 0) k).2 + (yrun Ψ o2 dd2 (nyr (yrs Ψ o2 dd2 (N, 0) k).1, 0) ((yrs Ψ o2 dd2 (N, 0) k).1 4).toNat).2)
    rw [← ih (by omega)]
    have b4 := i1.2.1.2.2.2.1
    have e4 : nyr (yrs Ψ o dd (N, 0) k).1 4 = (yrs Ψ o dd (N, 0) k).1 4 := nup_ne (by decide)
    rw [yrun_e (o2 := o2) (dd2 := dd2) (nr_nyr i1 (by omega)) (logi_nyr i2) (Int.le_refl 0) (fun l l0 l1 => he l l0 (by rw [e4, i4] at l1; exact l1)) _ (by rw [e4]; omega)]
theorem ac_161 (hd : 24 ≤ d) (hbc : 4 ≤ bc) (hbs : 24 ≤ bs) (hE : E0 n K R) (hT : TI N h sp M) (hN : NR N) (hg : LOGI N) (hH : HIS A M) (hfw : FLW X LX n K R N h sp FI φ) (hI : FI M) (hk : M 1 15 = 0 ∨ (M 1 15 = 1 ∧ ENDS N h φ M)) (hrr : ∀ M M2 : gm_M, (∀ (x : Nat) (j : Int), x < 42 ∨ 199 < x → M2 x j = M x j) → FI M → FI M2) (hfw2 : ∀ p : Nat, p < 12 → FLW X LX n K (gm_uR R (44 + 13 * p) 8 (R 3 8)) N h sp FI φ) (hmo : ∀ p : Nat, p < 12 → ∀ N2, geo N N2 → NR N2 → MOW X LX n K (gm_uR R (44 + 13 * p) 8 (R 3 8)) N2 h sp FI (Ψ N2)) (hy : gm_ir y) (ho : ∀ l, 0 ≤ l → l < N 4 → OUTR N h φ l (o l) (dd l)) (q0 : ¬ (1 ≤ y ∧ y ≤ 50 ∧ y ≤ 299 - N 9) → Q (.inr 0) n K R M) (hq : 1 ≤ y ∧ y ≤ 50 ∧ y ≤ 299 - N 9 → ∀ (p : Nat) (M1 M2 : gm_M), p < 12 → (M 42 1 = (p : Int) ∧ M2 42 1 = ((p : Int) + 1) % 12) → HIS ((N :: A).take 12) M2 → FI M2 → M2 1 15 = 1 → M2 220 3 = N 4 → (∀ l, 0 ≤ l → l < N 4 → OUTR N h φ l (M2 221 (l * 2 + 0)) (M2 221 (l * 2 + 1))) → CST M2 → cs M2 3 = (yrs Ψ o dd (N, 0) y.toNat).1 → (∀ (x : Nat) (j : Int), x < 42 ∨ 199 < x → M1 x j = M x j) → fr [(206, some 2), (206, some 3), (206, some 4), (206, some 5), (206, some 6), (206, some 7), (206, some 8), (200, some 6), (204, none), (205, none), (220, some 3), (221, none), (1, some 15), (3, some 6), (11, none), (14, some 3), (15, none), (204, none)] M1 M2 → Q (.inl (some (gm_vi (yrs Ψ o dd (N, 0) y.toNat).2))) n K (gm_uR R (44 + 13 * p) 8 (R 3 8)) M2) : gm_Wp X LX d bc bs 161 0 (gm_ent 161 [gm_vr 1, gm_vi y]) [] n K R M Q := by
  obtain ⟨⟨⟨a0, b0⟩, ⟨a1, b1⟩, ⟨a10, b10⟩, ⟨a11, b11⟩, ⟨a12, b12⟩, a9, b9⟩, ⟨⟨a2, b2⟩, ⟨a5, b5⟩, ⟨a3, b3⟩, ⟨a4, b4⟩, ⟨a6, b6⟩, ⟨a14, b14⟩, ⟨a7, b7⟩, a13, b13⟩, rF, rP, rL⟩ := id hN
  refine gm_sz (gm_p_load (pc := 0) (i := .iload_n 1) (sr := 0) (j := 1) (by decide +kernel) rfl rfl rfl) ?_
  refine gm_sz (gm_p_const (pc := 1) (i := .iconst 1) (v := gm_vi 1) (by decide +kernel) (by decide +kernel)) ?_
  refine fw_ic (cc := .lt) (pc := 2) (off := 24) (by decide +kernel) (by decide) hy ⟨by decide, by decide⟩ (fun h2 => ?_) (fun h2 => ?_)
  · have h2 : y < 1 := h2
    exact gm_throw (ik := 121) (is := 272) (ic := 125) (x := 0) (id := 39) (lw := true) (by decide +kernel) (by decide +kernel) (by decide +kernel) (by decide +kernel) (by decide +kernel) (by decide +kernel) (by decide +kernel) (by decide +kernel) (Nat.le_of_ble_eq_true rfl) (by omega) (by omega) (by omega) (q0 (by omega))
  · have h2 : ¬ y < 1 := h2
    refine gm_sz (gm_p_load (pc := 5) (i := .iload_n 1) (sr := 0) (j := 1) (by decide +kernel) rfl rfl rfl) ?_
    refine gm_sz (gm_p_const (pc := 6) (i := .bipush 50) (v := gm_vi 50) (by decide +kernel) (by decide +kernel)) ?_
    refine fw_ic (cc := .gt) (pc := 8) (off := 18) (by decide +kernel) (by decide) hy ⟨by decide, by decide⟩ (fun h8 => ?_) (fun h8 => ?_)
    · have h8 : 50 < y := h8
      exact gm_throw (ik := 121) (is := 272) (ic := 125) (x := 0) (id := 39) (lw := true) (by decide +kernel) (by decide +kernel) (by decide +kernel) (by decide +kernel) (by decide +kernel) (by decide +kernel) (by decide +kernel) (by decide +kernel) (Nat.le_of_ble_eq_true rfl) (by omega) (by omega) (by omega) (q0 (by omega))
    · have h8 : ¬ 50 < y := h8
      refine gm_sz (gm_p_load (pc := 11) (i := .iload_n 1) (sr := 0) (j := 1) (by decide +kernel) rfl rfl rfl) ?_
      refine gm_sz (gm_p_const (pc := 12) (i := .sipush 299) (v := gm_vi 299) (by decide +kernel) (by decide +kernel)) ?_
      refine gm_sz (gm_p_load (pc := 15) (i := .aload_n 0) (sr := 2) (j := 0) (by decide +kernel) rfl rfl rfl) ?_
      refine gm_sz (fw_gr (pc := 16) (ix := 23) (ci := 0) (j := 3) (r := 3) (by decide +kernel) (e0k hE (k := 1) (c := 0) (by decide +kernel)) (by decide +kernel) (by decide +kernel) (e0r hE (k := 1) (j := 3) (r := 3) (by decide +kernel))) ?_
      refine gm_sz (fw_gi (pc := 19) (ix := 269) (ci := 1) (j := 6) (x := N 9) (by decide +kernel) (e0k hE (k := 3) (c := 1) (by decide +kernel)) (by decide +kernel) (by decide +kernel) (ti_now hT)) ?_
      refine gm_sz (gm_p_bin (pc := 22) (i := .isub) (f := fun x y => x - y) (by decide +kernel) rfl) ?_
      refine fw_ic (cc := .le) (pc := 23) (off := 14) (by decide +kernel) (by decide) hy ⟨by omega, by omega⟩ (fun h23 => ?_) (fun h23 => ?_)
      · have h23 : y ≤ (299 - (N 9)) := h23
        refine gm_sz (gm_p_load (pc := 37) (i := .aload_n 0) (sr := 2) (j := 0) (by decide +kernel) rfl rfl rfl) ?_
        refine gm_sz (fw_gr (pc := 38) (ix := 40) (ci := 0) (j := 7) (r := 42) (by decide +kernel) (e0k hE (k := 1) (c := 0) (by decide +kernel)) (by decide +kernel) (by decide +kernel) (e0r hE (k := 1) (j := 7) (r := 42) (by decide +kernel))) ?_
        refine gm_sz (gm_p_load (pc := 41) (i := .aload_n 0) (sr := 2) (j := 0) (by decide +kernel) rfl rfl rfl) ?_
        refine gm_sz (fw_gr (pc := 42) (ix := 23) (ci := 0) (j := 3) (r := 3) (by decide +kernel) (e0k hE (k := 1) (c := 0) (by decide +kernel)) (by decide +kernel) (by decide +kernel) (e0r hE (k := 1) (j := 3) (r := 3) (by decide +kernel))) ?_
        refine gm_c_virt (k := 42) (ci := 3) (mj := 154) (ix := 243) (pc := 45) (as := [gm_vr 3]) (st := []) (d' := d - 1) (bc' := 0) (bs' := 0) (by decide +kernel) (by decide +kernel) (by decide +kernel) (by decide +kernel) (e0k hE (k := 42) (c := 3) (by decide +kernel)).1 (e0k hE (k := 42) (c := 3) (by decide +kernel)).2 (by decide) (by decide +kernel) (show 1 = gm_na 154 by decide +kernel) (fw_c1 fw_sr) (show 2 ≤ gm_ml 154 by decide +kernel) (Nat.le_of_ble_eq_true rfl) (by omega) (Nat.zero_le _) (Nat.zero_le _) ?_
        refine rem_c154 (by omega) hE hT hN hH (fun p45 M45 hp45 hk45 hs45 ht45 hx45 => ?_)
        show gm_Wp X LX d _ _ 161 48 _ [] n K _ _ Q
        refine gm_sz (gm_p_load (pc := 48) (i := .aload_n 0) (sr := 2) (j := 0) (by decide +kernel) rfl rfl rfl) ?_
        refine gm_c_virt (k := 1) (ci := 0) (mj := 24) (ix := 254) (pc := 49) (as := []) (st := []) (d' := d - 1) (bc' := 0) (bs' := 0) (by decide +kernel) (by decide +kernel) (by decide +kernel) (by decide +kernel) (e0k hE (k := 1) (c := 0) (by decide +kernel)).1 (e0k hE (k := 1) (c := 0) (by decide +kernel)).2 (by decide) (by decide +kernel) (show 0 = gm_na 24 by decide +kernel) fw_c0 (show 1 ≤ gm_ml 24 by decide +kernel) (Nat.le_of_ble_eq_true rfl) (by omega) (Nat.zero_le _) (Nat.zero_le _) ?_
        refine en_c24 (by omega) (e0h hE (v := R 3 8) hp45) ht45 hN (hfw2 p45 hp45) (hrr M M45 hx45 hI) (by rw [hx45 1 15 (by decide)]; exact hk.elim (fun hk => by rw [hk]; exact ⟨by decide, by decide⟩) (fun hk => by rw [hk.1]; exact ⟨by decide, by decide⟩)) (fun hz => by rw [hx45 1 15 (by decide)] at hz ⊢; have hk2 := hk.resolve_left hz; exact ⟨hk2.1, ends_e hk2.2 (fun x j hx => hx45 x j (by omega))⟩) (fun M24 hf24 hI24 h24 he24 => ?_)
        show gm_Wp X LX d _ _ 161 52 _ [] n K _ _ Q
        refine gm_sz (gm_p_const (pc := 52) (i := .iconst 0) (v := gm_vi 0) (by decide +kernel) (by decide +kernel)) ?_
        refine gm_sz (gm_p_stor (pc := 53) (i := .istore_n 2) (sr := 0) (j := 2) (by decide +kernel) rfl (show 3 ≤ _ from Nat.le_of_ble_eq_true rfl) rfl) ?_
        refine gm_sz (gm_p_const (pc := 54) (i := .iconst 0) (v := gm_vi 0) (by decide +kernel) (by decide +kernel)) ?_
        refine gm_sz (gm_p_stor (pc := 55) (i := .istore_n 3) (sr := 0) (j := 3) (by decide +kernel) rfl (show 4 ≤ _ from Nat.le_of_ble_eq_true rfl) rfl) ?_
        have en : ENF N (fun l => M24 221 (l * 2 + 0)) (fun l => M24 221 (l * 2 + 1)) M24 := ⟨he24.1, fun l l0 l1 => ⟨rfl, rfl, OUTR_b (he24.2 l l0 l1) (rL l l0 l1).2.2.2.1.1⟩⟩
        have ey := yrs_e (Ψ := Ψ) (o := o) (dd := dd) (o2 := fun l => M24 221 (l * 2 + 0)) (dd2 := fun l => M24 221 (l * 2 + 1)) hN hg (fun l l0 l1 => by obtain ⟨a1, a2⟩ := OUTR_u (ho l l0 l1) (he24.2 l l0 l1); exact ⟨⟨a1, (OUTR_b (ho l l0 l1) (rL l l0 l1).2.2.2.1.1).1⟩, a2 (rL l l0 l1).2.2.2.1.1⟩) y.toNat (by omega)
        refine ys_l (Ψ := Ψ) (by omega) (e0h hE (v := R 3 8) hp45) (ti_fr (W := [(206, some 2), (206, some 3), (206, some 4), (206, some 5), (206, some 6), (206, some 7), (206, some 8), (200, some 6), (204, none), (205, none), (220, some 3), (221, none), (1, some 15)]) ht45 (fr_t fr_0 hf24 (by decide)) (by decide) (by decide +kernel)) hN hg (hfw2 p45 hp45).2.1 (hmo p45 hp45) hI24 en ⟨by omega, by omega, by omega⟩ (fun M2 hf2 hc2 => ?_) y.toNat 0 M24 (by omega) fr_0 (ti_fr (W := [(206, some 2), (206, some 3), (206, some 4), (206, some 5), (206, some 6), (206, some 7), (206, some 8), (200, some 6), (204, none), (205, none), (220, some 3), (221, none), (1, some 15)]) ht45 (fr_t fr_0 hf24 (by decide)) (by decide) (by decide +kernel)).2.1
        rw [← ey] at hc2 ⊢
        have hw2 : fr [(206, some 2), (206, some 3), (206, some 4), (206, some 5), (206, some 6), (206, some 7), (206, some 8), (200, some 6), (204, none), (205, none), (220, some 3), (221, none), (1, some 15), (3, some 6), (11, none), (14, some 3), (15, none), (204, none)] M45 M2 := fr_t (fr_t fr_0 hf24 (by decide)) hf2 (by decide)
        exact hq ⟨by omega, by omega, by omega⟩ p45 M45 M2 hp45 ⟨hk45.1, (fr_c hw2 (by decide)).trans hk45.2⟩ (his_w hs45 hw2 (by decide)) ((hfw2 p45 hp45).2.1 _ _ _ (by decide) hf2 hI24) ((fr_j hf2 (by decide)).trans h24) ((fr_c hf2 (by decide)).trans he24.1) (fun l l0 l1 => by rw [fr_c hf2 (show ([(3, some 6), (11, none), (14, some 3), (15, none), (204, none)]).all (fun w => !(w.1 == 221)) = true by decide), fr_c hf2 (show ([(3, some 6), (11, none), (14, some 3), (15, none), (204, none)]).all (fun w => !(w.1 == 221)) = true by decide)]; exact he24.2 l l0 l1) (cst_fr (ti_fr (W := [(206, some 2), (206, some 3), (206, some 4), (206, some 5), (206, some 6), (206, some 7), (206, some 8), (200, some 6), (204, none), (205, none), (220, some 3), (221, none), (1, some 15)]) ht45 (fr_t fr_0 hf24 (by decide)) (by decide) (by decide +kernel)).1 hf2 (by decide +kernel)) hc2 hx45 hw2
      · have h23 : ¬ y ≤ (299 - (N 9)) := h23
        exact gm_throw (ik := 121) (is := 272) (ic := 125) (x := 0) (id := 39) (lw := true) (by decide +kernel) (by decide +kernel) (by decide +kernel) (by decide +kernel) (by decide +kernel) (by decide +kernel) (by decide +kernel) (by decide +kernel) (Nat.le_of_ble_eq_true rfl) (by omega) (by omega) (by omega) (q0 (by omega))
theorem ac_54 (hd : 8 ≤ d) (hE : E0 n K R) (hT : TI N h sp M) (hN : NR N) (hH : HIS A M) (hA : ∀ N1 ∈ A, NR N1) (hq0 : A = [] → ∀ M2 : gm_M, fr [(1, some 15)] M M2 → M2 1 15 = 0 → Q (.inl (some (gm_vi 0))) n K R M2) (hq1 : ∀ (N0 : Int → Int) (A1 : List (Int → Int)) (p : Nat) (M2 : gm_M), A = N0 :: A1 → p < 12 → (M2 42 1 = (p : Int) ∧ M 42 1 = ((p : Int) + 1) % 12) → HIS A1 M2 → CST M2 → cs M2 3 = N0 → M2 1 15 = 0 → (∀ (x : Nat) (j : Int), x < 3 ∨ (15 < x ∧ ¬ x = 42) → ¬ (x = 1 ∧ j = 15) → M2 x j = M x j) → Q (.inl (some (gm_vi 1))) n K (gm_uR R 3 8 (R (44 + 13 * p) 8)) M2) : gm_Wp X LX d bc bs 54 0 (gm_ent 54 [gm_vr 1]) [] n K R M Q := by
  refine gm_sz (gm_p_load (pc := 0) (i := .aload_n 0) (sr := 2) (j := 0) (by decide +kernel) rfl rfl rfl) ?_
  refine gm_sz (gm_p_const (pc := 1) (i := .iconst 0) (v := gm_vi 0) (by decide +kernel) (by decide +kernel)) ?_
  refine gm_sz (fw_pz (pc := 2) (ix := 101) (ci := 0) (j := 15) (M' := gm_uM M 1 15 0) (by decide +kernel) (e0k hE (k := 1) (c := 0) (by decide +kernel)) (by decide +kernel) (by decide +kernel) (by decide +kernel) (Or.inl rfl) rfl) ?_
  refine gm_sz (gm_p_load (pc := 5) (i := .aload_n 0) (sr := 2) (j := 0) (by decide +kernel) rfl rfl rfl) ?_
  refine gm_sz (fw_gr (pc := 6) (ix := 40) (ci := 0) (j := 7) (r := 42) (by decide +kernel) (e0k hE (k := 1) (c := 0) (by decide +kernel)) (by decide +kernel) (by decide +kernel) (e0r hE (k := 1) (j := 7) (r := 42) (by decide +kernel))) ?_
  refine gm_sz (gm_p_load (pc := 9) (i := .aload_n 0) (sr := 2) (j := 0) (by decide +kernel) rfl rfl rfl) ?_
  refine gm_sz (fw_gr (pc := 10) (ix := 23) (ci := 0) (j := 3) (r := 3) (by decide +kernel) (e0k hE (k := 1) (c := 0) (by decide +kernel)) (by decide +kernel) (by decide +kernel) (e0r hE (k := 1) (j := 3) (r := 3) (by decide +kernel))) ?_
  refine gm_c_virt (k := 42) (ci := 3) (mj := 55) (ix := 419) (pc := 13) (as := [gm_vr 3]) (st := []) (d' := d - 1) (bc' := 0) (bs' := 0) (by decide +kernel) (by decide +kernel) (by decide +kernel) (by decide +kernel) (e0k hE (k := 42) (c := 3) (by decide +kernel)).1 (e0k hE (k := 42) (c := 3) (by decide +kernel)).2 (by decide) (by decide +kernel) (show 1 = gm_na 55 by decide +kernel) (fw_c1 fw_sr) (show 2 ≤ gm_ml 55 by decide +kernel) (Nat.le_of_ble_eq_true rfl) (by omega) (Nat.zero_le _) (Nat.zero_le _) ?_
  refine tb_c55 (by omega) hE (ti_fr (W := [(1, some 15)]) hT (fr_p fr_0 (Or.inr (by decide))) (by decide) (by decide +kernel)) (his_w (W := [(1, some 15)]) hH (fr_p fr_0 (Or.inr (by decide))) (by decide)) hA (fun ha9 => ?_) (fun N0 A1 p9 M9 ha9 hp9 hk9 hh9 hc9 hn9 hx9 => ?_)
  · show gm_Wp X LX d _ _ 54 16 _ [gm_vi 0] n K _ _ Q
    exact gm_r_int (pc := 16) (by decide +kernel) (Or.inr ⟨(by decide +kernel), Or.inl rfl⟩) (hq0 ha9 _ (fr_p fr_0 (Or.inr (by decide))) uM_at)
  · show gm_Wp X LX d _ _ 54 16 _ [gm_vi 1] n K _ _ Q
    exact gm_r_int (pc := 16) (by decide +kernel) (Or.inr ⟨(by decide +kernel), Or.inr rfl⟩) (hq1 N0 A1 p9 M9 ha9 hp9 ⟨hk9.1, (uM_ne (by decide)).symm.trans hk9.2⟩ hh9 hc9 hn9 ((hx9 1 15 (by decide)).trans uM_at) (fun x j hx h15 => (hx9 x j hx).trans (uM_ne (fun hh => h15 ⟨hh.1, hh.2⟩))))
theorem ac_60 (hd : 8 ≤ d) (hE : E0 n K R) (hT : TI N h sp M) (hN : NR N) (hb : M 1 6 = 0 ∨ M 1 6 = 1) (q0 : M 1 6 = 0 → Q (.inl (some (gm_vi 0))) n K R M) (hi : M 1 6 = 1 → cs M 29 = NI ∧ NR NI ∧ NS NI) (hq : M 1 6 = 1 → ∀ M2 : gm_M, TI NI (hts (NI 13)) (spd NI) M2 → M2 200 6 = 1 → M2 42 2 = 0 → M2 1 15 = 0 → (∀ (x : Nat) (j : Int), x < 3 ∨ 15 < x → ¬ x = 201 → ¬ x = 202 → ¬ x = 203 → ¬ (x = 200 ∧ j = 6) → ¬ (x = 42 ∧ j = 2) → ¬ (x = 1 ∧ j = 15) → M2 x j = M x j) → Q (.inl (some (gm_vi 1))) n K (gm_uR R 3 8 (R 29 8)) M2) : gm_Wp X LX d bc bs 60 0 (gm_ent 60 [gm_vr 1]) [] n K R M Q := by
  refine gm_sz (gm_p_load (pc := 0) (i := .aload_n 0) (sr := 2) (j := 0) (by decide +kernel) rfl rfl rfl) ?_
  refine gm_sz (fw_gi (pc := 1) (ix := 33) (ci := 0) (j := 6) (x := M 1 6) (by decide +kernel) (e0k hE (k := 1) (c := 0) (by decide +kernel)) (by decide +kernel) (by decide +kernel) rfl) ?_
  refine fw_if (cc := .ne) (pc := 4) (off := 5) (by decide +kernel) (by decide) (by rcases hb with h | h <;> rw [h] <;> exact ⟨by decide, by decide⟩) (fun h4 => ?_) (fun h4 => ?_)
  · have h4 : ¬ (M 1 6) = 0 := h4
    obtain ⟨i1, i2, i3⟩ := hi (by omega)
    refine gm_sz (gm_p_load (pc := 9) (i := .aload_n 0) (sr := 2) (j := 0) (by decide +kernel) rfl rfl rfl) ?_
    refine gm_sz (fw_gr (pc := 10) (ix := 23) (ci := 0) (j := 3) (r := 3) (by decide +kernel) (e0k hE (k := 1) (c := 0) (by decide +kernel)) (by decide +kernel) (by decide +kernel) (e0r hE (k := 1) (j := 3) (r := 3) (by decide +kernel))) ?_
    refine gm_sz (gm_p_load (pc := 13) (i := .aload_n 0) (sr := 2) (j := 0) (by decide +kernel) rfl rfl rfl) ?_
    refine gm_sz (fw_gr (pc := 14) (ix := 30) (ci := 0) (j := 5) (r := 29) (by decide +kernel) (e0k hE (k := 1) (c := 0) (by decide +kernel)) (by decide +kernel) (by decide +kernel) (e0r hE (k := 1) (j := 5) (r := 29) (by decide +kernel))) ?_
    refine gm_c_virt (k := 3) (ci := 1) (mj := 57) (ix := 114) (pc := 17) (as := [gm_vr 29]) (st := []) (d' := d - 1) (bc' := 0) (bs' := 0) (by decide +kernel) (by decide +kernel) (by decide +kernel) (by decide +kernel) (e0k hE (k := 3) (c := 1) (by decide +kernel)).1 (e0k hE (k := 3) (c := 1) (by decide +kernel)).2 (by decide) (by decide +kernel) (show 1 = gm_na 57 by decide +kernel) (fw_c1 fw_sr) (show 2 ≤ gm_ml 57 by decide +kernel) (Nat.le_of_ble_eq_true rfl) (by omega) (Nat.zero_le _) (Nat.zero_le _) ?_
    refine st_copy (b := 3) (s := 29) (by omega) (ks_3 hE) (ks_29 hE) (by omega) (mx_3 hT.1) (sz_cs i2 i1) (fun M9 hx9 hy9 hc9 => ?_)
    show gm_Wp X LX d _ _ 60 20 _ [] n K _ _ Q
    have t9 : TQ NI M9 := ⟨cst_cpy0 (List.all_eq_true.mp cst_cpf 3 (by decide)) hT.1 ⟨hx9, hy9, hc9⟩, hc9.trans i1⟩
    refine gm_sz (gm_p_load (pc := 20) (i := .aload_n 0) (sr := 2) (j := 0) (by decide +kernel) rfl rfl rfl) ?_
    refine gm_c_virt (k := 1) (ci := 0) (mj := 61) (ix := 136) (pc := 21) (as := []) (st := []) (d' := d - 1) (bc' := 0) (bs' := 0) (by decide +kernel) (by decide +kernel) (by decide +kernel) (by decide +kernel) (e0k hE (k := 1) (c := 0) (by decide +kernel)).1 (e0k hE (k := 1) (c := 0) (by decide +kernel)).2 (by decide) (by decide +kernel) (show 0 = gm_na 61 by decide +kernel) fw_c0 (show 1 ≤ gm_ml 61 by decide +kernel) (Nat.le_of_ble_eq_true rfl) (by omega) (Nat.zero_le _) (Nat.zero_le _) ?_
    refine fw_c61 (by omega) (e0h3 hE) t9 i2 i3 (fun M61 hf61 ht61 h6 h42 h15 => ?_)
    show gm_Wp X LX d _ _ 60 24 _ [] n K _ _ Q
    refine gm_sz (gm_p_const (pc := 24) (i := .iconst 1) (v := gm_vi 1) (by decide +kernel) (by decide +kernel)) ?_
    exact gm_r_int (pc := 25) (by decide +kernel) (Or.inr ⟨(by decide +kernel), Or.inr rfl⟩) (hq (by omega) M61 ht61 h6 h42 h15 (fun x j hx h1 h2 h3 h4 h5 h7 => (hf61 x j (by intro hm; simp at hm; omega) (by intro hm; simp at hm; omega)).trans (hx9 x j (by omega))))
  · have h4 : (M 1 6) = 0 := Classical.not_not.mp h4
    refine gm_sz (gm_p_const (pc := 7) (i := .iconst 0) (v := gm_vi 0) (by decide +kernel) (by decide +kernel)) ?_
    exact gm_r_int (pc := 8) (by decide +kernel) (Or.inr ⟨(by decide +kernel), Or.inl rfl⟩) (q0 (by omega))
end YS15
