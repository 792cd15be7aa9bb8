/-! THE REFERENCE: a year more, years (laid by wip/core/r7.py). -/
section YS7
variable {X : Int → Int} {LX d bc bs n : Nat} {K : gm_K} {R : gm_R} {M : gm_M} {Q : gm_Q} {l p f t v w y c : Int} {N h : Int → Int} {FI : gm_M → Prop} {φ : Int → Int → Int → Int} {Ψ : (Int → Int) → Int → Int → Int → Int → Prop} {o dd : Int → Int} {A : List (Int → Int)}
theorem tr_ws {M2 : gm_M} {N2 : Int → Int} {W : List (Nat × Option Int)} (hT : TR N h M) (hw : ws (M2 227) = N2) (hf : fr W M M2) (hW : W.all (fun w => !(w.1 == 234)) = true) : TR N2 h M2 := ⟨hw, fun y y0 y1 => by
  rw [hf 234 y (fun hm => by have := List.all_eq_true.mp hW _ hm; simp at this) (fun hm => by have := List.all_eq_true.mp hW _ hm; simp at this)]
  exact hT.2 y y0 y1⟩
/-- what lies behind the world stays while a year goes by -/
def BW (M M2 : gm_M) : Prop := (∀ j, 395 ≤ j → M2 227 j = M 227 j) ∧ M2 227 8 = M 227 8
theorem rm_l (hd : 20 ≤ d) (hE : E0 n K R) (hT : TR N h M) (hN : NR N) (hg : LOGI N) (h9 : N 9 < 299) (hfw : ∀ N2, geo N N2 → NR N2 → FLR X LX n K R N2 h FI φ) (hI : FI M) (hmo : ∀ N2, geo N N2 → NR N2 → MOR X LX n K R N2 h FI (Ψ N2)) (hFX : ∀ M M2, FI M → fr [(227, none)] M M2 → (∀ j, 395 ≤ j → M2 227 j = M 227 j) → M2 227 8 = M 227 8 → FI M2) (ho : ∀ l, 0 ≤ l → l < N 4 → OUTR N h φ l (o l) (dd l)) (hq : ∀ M2, fr [(226, some 29), (226, some 30), (226, some 26), (226, some 17), (226, some 18), (226, some 19), (226, some 20), (226, some 21), (226, some 22), (226, some 23), (235, none), (233, none), (236, none), (237, none), (227, none)] M M2 → FI M2 → BW M M2 → ws (M2 227) = (yrun Ψ o dd (nyr N, 0) (N 4).toNat).1 → Q (.inl (some (gm_vi (yrun Ψ o dd (nyr N, 0) (N 4).toNat).2))) n K R M2) : ∀ (u k : Nat) (z : Option gm_V) (M1 : gm_M), (k : Int) + (u : Int) = N 4 → fr [(226, some 29), (226, some 30), (226, some 26), (226, some 17), (226, some 18), (226, some 19), (226, some 20), (226, some 21), (226, some 22), (226, some 23), (235, none), (233, none), (236, none), (237, none), (227, none)] M M1 → FI M1 → BW M M1 → ws (M1 227) = (yrun Ψ o dd (nyr N, 0) k).1 → gm_Wp X LX d bc bs 321 15 [some (gm_vr 226), some (gm_vi (yrun Ψ o dd (nyr N, 0) k).2), some (gm_vi (k : Int)), z] [] n K R M1 Q := by
  have b4 := hN.2.1.2.2.2.1
  have b5 := hN.2.1.2.1
  have e4 : nyr N 4 = N 4 := nup_ne (by decide)
  have inv : ∀ k : Nat, (k : Int) ≤ N 4 → NR (yrun Ψ o dd (nyr N, 0) k).1 ∧ LOGI (yrun Ψ o dd (nyr N, 0) k).1 ∧ geo (nyr N) (yrun Ψ o dd (nyr N, 0) k).1 ∧ (yrun Ψ o dd (nyr N, 0) k).1 4 = nyr N 4 ∧ 0 ≤ (yrun Ψ o dd (nyr N, 0) k).2 ∧ (yrun Ψ o dd (nyr N, 0) k).2 ≤ 0 + (k : Int) := fun k hk => ym_i (nr_nyr hN h9) (logi_nyr hg) (Int.le_refl 0) k (by rw [e4]; exact hk)
  intro u
  induction u with
  | zero =>
    intro k z M1 hk hf hI1 hb hc
    have ek : (N 4).toNat = k := by omega
    rw [ek] at hq
    obtain ⟨i1, -, -, i4, -⟩ := inv k (by omega)
    exact rm_e (by omega) hE (tr_ws hT hc hf (by decide)) i1 (by rw [i4, e4]; omega) (hq M1 hf hI1 hb hc) z
  | succ u ih =>
    intro k z M1 hk hf hI1 hb hc
    obtain ⟨i1, i2, i3, i4, i5, i6⟩ := inv k (by omega)
    have g9 : geo N (yrun Ψ o dd (nyr N, 0) k).1 := geo_t geo_nyr i3
    refine rm_b (by omega) hE (tr_ws hT hc hf (by decide)) i1 i2 (hfw _ g9 i1) hI1 (hfw _ g9 i1).2.1 (hmo _ g9 i1) hFX ⟨by omega, by rw [i4, e4]; omega⟩ (OUTR_geo g9 b5 ⟨by omega, by omega⟩ (ho (k : Int) (by omega) (by omega))) ⟨i5, by omega⟩ (fun z2 M2 hf2 hI2 hb2 hc2 => ?_) z
    have q := ih (k + 1) z2 M2 (by omega) (fr_t hf hf2 (by decide)) hI2 ⟨fun j hj => (hb2.1 j hj).trans (hb.1 j hj), hb2.2.trans hb.2⟩ hc2
    rwa [show ((k + 1 : Nat) : Int) = (k : Int) + 1 by omega] at q
theorem rm_c321 (hd : 20 ≤ d) (hE : E0 n K R) (hT : TR N h M) (hN : NR N) (hg : LOGI N) (h9 : N 9 < 299) (hfw : ∀ N2, geo N N2 → NR N2 → FLR X LX n K R N2 h FI φ) (hI : FI M) (hmo : ∀ N2, geo N N2 → NR N2 → MOR X LX n K R N2 h FI (Ψ N2)) (hFX : ∀ M M2, FI M → fr [(227, none)] M M2 → (∀ j, 395 ≤ j → M2 227 j = M 227 j) → M2 227 8 = M 227 8 → FI M2) (ho : ∀ l, 0 ≤ l → l < N 4 → OUTR N h φ l (o l) (dd l)) (hq : ∀ M2, fr [(226, some 29), (226, some 30), (226, some 26), (226, some 17), (226, some 18), (226, some 19), (226, some 20), (226, some 21), (226, some 22), (226, some 23), (235, none), (233, none), (236, none), (237, none), (227, none)] M M2 → FI M2 → BW M M2 → ws (M2 227) = (yrun Ψ o dd (nyr N, 0) (N 4).toNat).1 → Q (.inl (some (gm_vi (yrun Ψ o dd (nyr N, 0) (N 4).toNat).2))) n K R M2) : gm_Wp X LX d bc bs 321 0 (gm_ent 321 [gm_vr 226]) [] n K R M Q := by
  obtain ⟨⟨⟨a0, b0⟩, ⟨a1, b1⟩, ⟨a10, b10⟩, ⟨a11, b11⟩, ⟨a12, b12⟩, a9, b9⟩, ⟨⟨a2, b2⟩, ⟨a5, b5⟩, ⟨a3, b3⟩, ⟨a4, b4⟩, ⟨a6, b6⟩, ⟨a14, b14⟩, ⟨a7, b7⟩, a13, b13⟩, rF, rP, rL⟩ := id hN
  refine gm_sz (gm_p_load (pc := 0) (i := .aload_n 0) (sr := 2) (j := 0) (by decide +kernel) rfl rfl rfl) ?_
  refine gm_sz (fw_gr (pc := 1) (ix := 13) (ci := 11) (j := 1) (r := 227) (by decide +kernel) (e0k hE (k := 226) (c := 11) (by decide +kernel)) (by decide +kernel) (by decide +kernel) (e0r hE (k := 226) (j := 1) (r := 227) (by decide +kernel))) ?_
  refine gm_sz (gm_p_const (pc := 4) (i := .bipush 9) (v := gm_vi 9) (by decide +kernel) (by decide +kernel)) ?_
  refine gm_sz (gm_p_dup2 (pc := 6) (by decide +kernel) fw_si fw_sr) ?_
  refine gm_sz (fw_ia (pc := 7) (k := 227) (len := 2093) (e0 := 9) (x := N 9) (by decide +kernel) (e0a hE (k := 227) (q := (0, 2093)) (by decide +kernel)).1 (e0a hE (k := 227) (q := (0, 2093)) (by decide +kernel)).2 (by decide) ⟨by omega, by omega⟩ (tr_w hT (by decide) (by decide) (by decide))) ?_
  refine gm_sz (gm_p_const (pc := 8) (i := .iconst 1) (v := gm_vi 1) (by decide +kernel) (by decide +kernel)) ?_
  refine gm_sz (gm_p_bin (pc := 9) (i := .iadd) (f := fun x y => x + y) (by decide +kernel) rfl) ?_
  refine gm_sz (fw_is (pc := 10) (k := 227) (len := 2093) (e0 := 9) (x := (N 9) + 1) (M' := gm_uM M 227 9 ((N 9) + 1)) (by decide +kernel) (e0a hE (k := 227) (q := (0, 2093)) (by decide +kernel)).1 (e0a hE (k := 227) (q := (0, 2093)) (by decide +kernel)).2 (by decide) ⟨by omega, by omega⟩ rfl) ?_
  refine gm_sz (gm_p_const (pc := 11) (i := .iconst 0) (v := gm_vi 0) (by decide +kernel) (by decide +kernel)) ?_
  refine gm_sz (gm_p_stor (pc := 12) (i := .istore_n 1) (sr := 0) (j := 1) (by decide +kernel) rfl (show 2 ≤ _ from Nat.le_of_ble_eq_true rfl) rfl) ?_
  refine gm_sz (gm_p_const (pc := 13) (i := .iconst 0) (v := gm_vi 0) (by decide +kernel) (by decide +kernel)) ?_
  refine gm_sz (gm_p_stor (pc := 14) (i := .istore_n 2) (sr := 0) (j := 2) (by decide +kernel) rfl (show 3 ≤ _ from Nat.le_of_ble_eq_true rfl) rfl) ?_
  have e9 : ws ((gm_uM M 227 9 ((N 9) + 1)) 227) = nyr N := by
    have e1 : (gm_uM M 227 9 ((N 9) + 1)) 227 = nup (M 227) 9 (N 9 + 1) := nup_s rfl
    rw [e1, ws_put (k := 9) ⟨by decide, by decide, by decide⟩, hT.1]
    rfl
  have f9 := hFX M (gm_uM M 227 9 ((N 9) + 1)) hI (show fr [(227, none)] M (gm_uM M 227 9 ((N 9) + 1)) from fr_p fr_0 (Or.inl (by decide))) (fun j hj => uM_ne (by omega)) (uM_ne (by omega))
  exact rm_l hd hE hT hN hg h9 hfw hI hmo hFX ho hq (N 4).toNat 0 _ (gm_uM M 227 9 ((N 9) + 1)) (by omega) (fr_p fr_0 (Or.inl (by decide))) f9 ⟨fun j hj => uM_ne (by omega), uM_ne (by omega)⟩ e9
theorem ry_l (hd : 22 ≤ d) (hE : E0 n K R) (hT : TR N h M) (hN : NR N) (hg : LOGI N) (hfw : ∀ N2, geo N N2 → NR N2 → FLR X LX n K R N2 h FI φ) (hI : FI M) (hmo : ∀ N2, geo N N2 → NR N2 → MOR X LX n K R N2 h FI (Ψ N2)) (hFX : ∀ M M2, FI M → fr [(227, none)] M M2 → (∀ j, 395 ≤ j → M2 227 j = M 227 j) → M2 227 8 = M 227 8 → FI M2) (ho : ∀ l, 0 ≤ l → l < N 4 → OUTR N h φ l (o l) (dd l)) (hv : 0 ≤ v ∧ v ≤ 50 ∧ v + N 9 ≤ 299) (hq : ∀ M2, fr [(226, some 29), (226, some 30), (226, some 26), (226, some 17), (226, some 18), (226, some 19), (226, some 20), (226, some 21), (226, some 22), (226, some 23), (235, none), (233, none), (236, none), (237, none), (227, none)] M M2 → FI M2 → BW M M2 → ws (M2 227) = (yrs Ψ o dd (N, 0) v.toNat).1 → Q (.inl (some (gm_vi (yrs Ψ o dd (N, 0) v.toNat).2))) n K R M2) : ∀ (u k : Nat) (M1 : gm_M), (k : Int) + (u : Int) = v → fr [(226, some 29), (226, some 30), (226, some 26), (226, some 17), (226, some 18), (226, some 19), (226, some 20), (226, some 21), (226, some 22), (226, some 23), (235, none), (233, none), (236, none), (237, none), (227, none)] M M1 → FI M1 → BW M M1 → ws (M1 227) = (yrs Ψ o dd (N, 0) k).1 → gm_Wp X LX d bc bs 320 50 [some (gm_vr 226), some (gm_vi v), some (gm_vi ((yrs Ψ o dd (N, 0) k).2)), some (gm_vi (k : Int))] [] n K R M1 Q := by
  have b5 := hN.2.1.2.1
  intro u
  induction u with
  | zero =>
    intro k M1 hk hf hI1 hb hc
    have ek : v.toNat = k := by omega
    rw [ek] at hq
    refine gm_sz (gm_p_load (pc := 50) (i := .iload_n 3) (sr := 0) (j := 3) (by decide +kernel) rfl rfl rfl) ?_
    refine gm_sz (gm_p_load (pc := 51) (i := .iload_n 1) (sr := 0) (j := 1) (by decide +kernel) rfl rfl rfl) ?_
    refine fw_ict (cc := .ge) (pc := 52) (off := 16) (by decide +kernel) (by decide) ⟨by omega, by omega⟩ ⟨by omega, by omega⟩ (show v ≤ (k : Int) by omega) ?_
    refine gm_sz (gm_p_load (pc := 68) (i := .iload_n 2) (sr := 0) (j := 2) (by decide +kernel) rfl rfl rfl) ?_
    exact gm_r_int (pc := 69) (by decide +kernel) (Or.inl (by decide +kernel)) (hq M1 hf hI1 hb hc)
  | succ u ih =>
    intro k M1 hk hf hI1 hb hc
    obtain ⟨i1, i2, i3, i4, i5, i6, i7⟩ := yrs_i (Ψ := Ψ) (o := o) (dd := dd) hN hg k (by omega)
    refine gm_sz (gm_p_load (pc := 50) (i := .iload_n 3) (sr := 0) (j := 3) (by decide +kernel) rfl rfl rfl) ?_
    refine gm_sz (gm_p_load (pc := 51) (i := .iload_n 1) (sr := 0) (j := 1) (by decide +kernel) rfl rfl rfl) ?_
    refine fw_icf (cc := .ge) (pc := 52) (off := 16) (by decide +kernel) (by decide) ⟨by omega, by omega⟩ ⟨by omega, by omega⟩ (show ¬ v ≤ (k : Int) by omega) ?_
    refine gm_sz (gm_p_load (pc := 55) (i := .iload_n 2) (sr := 0) (j := 2) (by decide +kernel) rfl rfl rfl) ?_
    refine gm_sz (gm_p_load (pc := 56) (i := .aload_n 0) (sr := 2) (j := 0) (by decide +kernel) rfl rfl rfl) ?_
    refine gm_c_virt (k := 226) (ci := 11) (mj := 321) (ix := 423) (pc := 57) (as := []) (st := [gm_vi ((yrs Ψ o dd (N, 0) k).2)]) (d' := d - 1) (bc' := 0) (bs' := 0) (by decide +kernel) (by decide +kernel) (by decide +kernel) (by decide +kernel) (e0k hE (k := 226) (c := 11) (by decide +kernel)).1 (e0k hE (k := 226) (c := 11) (by decide +kernel)).2 (by decide) (by decide +kernel) (show 0 = gm_na 321 by decide +kernel) fw_c0 (show 1 ≤ gm_ml 321 by decide +kernel) (Nat.le_of_ble_eq_true rfl) (by omega) (Nat.zero_le _) (Nat.zero_le _) ?_
    refine rm_c321 (o := o) (dd := dd) (by omega) hE (tr_ws hT hc hf (by decide)) i1 i2 (by omega) (fun N2 g2 n2 => hfw N2 (geo_t i3 g2) n2) hI1 (fun N2 g2 n2 => hmo N2 (geo_t i3 g2) n2) hFX (fun l l0 l1 => OUTR_geo i3 b5 ⟨l0, by have b4 := hN.2.1.2.2.2.1; omega⟩ (ho l l0 (by omega))) (fun M9 hf9 hI9 hb9 hc9 => ?_)
    show gm_Wp X LX d _ _ 320 60 _ [gm_vi ((yrun Ψ o dd (nyr (yrs Ψ o dd (N, 0) k).1, 0) ((yrs Ψ o dd (N, 0) k).1 4).toNat).2), gm_vi ((yrs Ψ o dd (N, 0) k).2)] n K _ _ Q
    refine gm_sz (gm_p_bin (pc := 60) (i := .iadd) (f := fun x y => x + y) (by decide +kernel) rfl) ?_
    refine gm_sz (gm_p_stor (pc := 61) (i := .istore_n 2) (sr := 0) (j := 2) (by decide +kernel) rfl (show 3 ≤ _ from Nat.le_of_ble_eq_true rfl) rfl) ?_
    refine gm_sz (gm_p_iinc (pc := 62) (j := 3) (z := 1) (by decide +kernel) rfl) ?_
    refine gm_sz (gm_p_goto (pc := 65) (off := (-15)) (by decide +kernel) (by decide)) ?_
    have q := ih (k + 1) M9 (by omega) (fr_t (fr_t fr_0 hf (by decide)) hf9 (by decide)) hI9 ⟨fun j hj => (hb9.1 j hj).trans (hb.1 j hj), hb9.2.trans hb.2⟩ hc9
    rwa [show ((k + 1 : Nat) : Int) = (k : Int) + 1 by omega] at q
theorem ra_320 (hd : 22 ≤ d) (hE : E0 n K R) (hT : TR N h M) (hN : NR N) (hg : LOGI N) (hfw : ∀ N2, geo N N2 → NR N2 → FLR X LX n K R N2 h FI φ) (hI : FI M) (hmo : ∀ N2, geo N N2 → NR N2 → MOR X LX n K R N2 h FI (Ψ N2)) (hFX : ∀ M M2, FI M → fr [(227, none)] M M2 → (∀ j, 395 ≤ j → M2 227 j = M 227 j) → M2 227 8 = M 227 8 → FI M2) (ho : ∀ l, 0 ≤ l → l < N 4 → OUTR N h φ l (o l) (dd l)) (hH : HISR A (M 227 8) M) (hy : gm_ir y) (q0 : ¬ (1 ≤ y ∧ y ≤ 50 ∧ y ≤ 299 - N 9) → ∀ M2, fr [(226, some 0)] M M2 → M2 226 0 = 1 → Q (.inl (some (gm_vi 0))) n K R M2) (hq : 1 ≤ y ∧ y ≤ 50 ∧ y ≤ 299 - N 9 → ∀ M2 : gm_M, fr [(226, some 0), (226, some 6), (230, none), (226, some 29), (226, some 30), (226, some 26), (226, some 17), (226, some 18), (226, some 19), (226, some 20), (226, some 21), (226, some 22), (226, some 23), (235, none), (233, none), (236, none), (237, none), (227, none)] M M2 → FI M2 → HISR ((N :: A).take 12) (M 227 8) M2 → ws (M2 227) = (yrs Ψ o dd (N, 0) y.toNat).1 → (∀ j, 395 ≤ j → M2 227 j = M 227 j) → M2 227 8 = M 227 8 → M2 226 0 = 0 → Q (.inl (some (gm_vi (yrs Ψ o dd (N, 0) y.toNat).2))) n K R M2) : gm_Wp X LX d bc bs 320 0 (gm_ent 320 [gm_vr 226, gm_vi y]) [] n K R M Q := by
  obtain ⟨⟨⟨a0, b0⟩, ⟨a1, b1⟩, ⟨a10, b10⟩, ⟨a11, b11⟩, ⟨a12, b12⟩, a9, b9⟩, ⟨⟨a2, b2⟩, ⟨a5, b5⟩, ⟨a3, b3⟩, ⟨a4, b4⟩, ⟨a6, b6⟩, ⟨a14, b14⟩, ⟨a7, b7⟩, a13, b13⟩, rF, rP, rL⟩ := id hN
  refine gm_sz (gm_p_load (pc := 0) (i := .aload_n 0) (sr := 2) (j := 0) (by decide +kernel) rfl rfl rfl) ?_
  refine gm_sz (gm_p_const (pc := 1) (i := .iconst 0) (v := gm_vi 0) (by decide +kernel) (by decide +kernel)) ?_
  refine gm_sz (fw_pi (pc := 2) (ix := 3) (ci := 11) (j := 0) (M' := gm_uM M 226 0 0) (by decide +kernel) (e0k hE (k := 226) (c := 11) (by decide +kernel)) (by decide +kernel) (by decide +kernel) (by decide +kernel) rfl) ?_
  refine gm_sz (gm_p_load (pc := 5) (i := .aload_n 0) (sr := 2) (j := 0) (by decide +kernel) rfl rfl rfl) ?_
  refine gm_sz (gm_p_load (pc := 6) (i := .iload_n 1) (sr := 0) (j := 1) (by decide +kernel) rfl rfl rfl) ?_
  refine gm_sz (gm_p_const (pc := 7) (i := .iconst 1) (v := gm_vi 1) (by decide +kernel) (by decide +kernel)) ?_
  refine gm_sz (gm_p_const (pc := 8) (i := .bipush 50) (v := gm_vi 50) (by decide +kernel) (by decide +kernel)) ?_
  refine gm_c_stat (mj := 286) (ix := 90) (pc := 10) (as := [gm_vi y, gm_vi 1, gm_vi 50]) (st := [gm_vr 226]) (d' := d - 1) (bc' := 0) (bs' := 0) (by decide +kernel) (by decide +kernel) (by decide +kernel) (by decide +kernel) (show 3 = gm_na 286 by decide +kernel) (fw_c3 fw_si fw_si fw_si) (show 3 ≤ gm_ml 286 by decide +kernel) (Nat.le_of_ble_eq_true rfl) (by omega) (Nat.zero_le _) (Nat.zero_le _) ?_
  refine in_286 (x := y) (y := 1) (z := 50) hy ⟨by decide, by decide⟩ ⟨by decide, by decide⟩ (fun k10a k10 => ?_) (fun k10 => ?_)
  · show gm_Wp X LX d _ _ 320 13 _ [gm_vi 1, gm_vr 226] n K _ _ Q
    have k10a : 1 ≤ y := k10a
    have k10 : y ≤ 50 := k10
    refine fw_iffd (cc := .eq) (pc := 13) (off := 15) (by decide +kernel) (by decide) ⟨by decide, by decide⟩ (by decide) ?_
    refine gm_sz (gm_p_load (pc := 16) (i := .aload_n 0) (sr := 2) (j := 0) (by decide +kernel) rfl rfl rfl) ?_
    refine gm_c_virt (k := 226) (ci := 11) (mj := 266) (ix := 162) (pc := 17) (as := []) (st := [gm_vr 226]) (d' := d - 1) (bc' := 0) (bs' := 0) (by decide +kernel) (by decide +kernel) (by decide +kernel) (by decide +kernel) (e0k hE (k := 226) (c := 11) (by decide +kernel)).1 (e0k hE (k := 226) (c := 11) (by decide +kernel)).2 (by decide) (by decide +kernel) (show 0 = gm_na 266 by decide +kernel) fw_c0 (show 1 ≤ gm_ml 266 by decide +kernel) (Nat.le_of_ble_eq_true rfl) (by omega) (Nat.zero_le _) (Nat.zero_le _) ?_
    refine re_now9 hE ((uM_ne (by omega)).trans (tr_w hT (by decide) (by decide) (by decide))) ?_
    show gm_Wp X LX d _ _ 320 20 _ [gm_vi (N 9), gm_vr 226] n K _ _ Q
    refine gm_sz (gm_p_load (pc := 20) (i := .iload_n 1) (sr := 0) (j := 1) (by decide +kernel) rfl rfl rfl) ?_
    refine gm_sz (gm_p_bin (pc := 21) (i := .iadd) (f := fun x y => x + y) (by decide +kernel) rfl) ?_
    refine gm_sz (gm_p_const (pc := 22) (i := .sipush 299) (v := gm_vi 299) (by decide +kernel) (by decide +kernel)) ?_
    refine fw_ic (cc := .le) (pc := 25) (off := 7) (by decide +kernel) (by decide) ⟨by omega, by omega⟩ ⟨by decide, by decide⟩ (fun h25 => ?_) (fun h25 => ?_)
    · have h25 : ((N 9) + y) ≤ 299 := h25
      refine gm_sz (gm_p_const (pc := 32) (i := .iconst 0) (v := gm_vi 0) (by decide +kernel) (by decide +kernel)) ?_
      refine gm_sz (gm_p_const (pc := 33) (i := .iconst 1) (v := gm_vi 1) (by decide +kernel) (by decide +kernel)) ?_
      refine gm_c_virt (k := 226) (ci := 11) (mj := 282) (ix := 300) (pc := 34) (as := [gm_vi 0, gm_vi 1]) (st := []) (d' := d - 1) (bc' := 0) (bs' := 0) (by decide +kernel) (by decide +kernel) (by decide +kernel) (by decide +kernel) (e0k hE (k := 226) (c := 11) (by decide +kernel)).1 (e0k hE (k := 226) (c := 11) (by decide +kernel)).2 (by decide) (by decide +kernel) (show 2 = gm_na 282 by decide +kernel) (fw_c2 fw_si fw_si) (show 3 ≤ gm_ml 282 by decide +kernel) (Nat.le_of_ble_eq_true rfl) (by omega) (Nat.zero_le _) (Nat.zero_le _) ?_
      refine tf_0 hE ?_
      show gm_Wp X LX d _ _ 320 37 _ [gm_vi 0] n K _ _ Q
      refine fw_iftd (cc := .eq) (pc := 37) (off := 5) (by decide +kernel) (by decide) ⟨by decide, by decide⟩ (by decide) ?_
      refine gm_sz (gm_p_load (pc := 42) (i := .aload_n 0) (sr := 2) (j := 0) (by decide +kernel) rfl rfl rfl) ?_
      refine gm_c_virt (k := 226) (ci := 11) (mj := 316) (ix := 411) (pc := 43) (as := []) (st := []) (d' := d - 1) (bc' := 0) (bs' := 0) (by decide +kernel) (by decide +kernel) (by decide +kernel) (by decide +kernel) (e0k hE (k := 226) (c := 11) (by decide +kernel)).1 (e0k hE (k := 226) (c := 11) (by decide +kernel)).2 (by decide) (by decide +kernel) (show 0 = gm_na 316 by decide +kernel) fw_c0 (show 1 ≤ gm_ml 316 by decide +kernel) (Nat.le_of_ble_eq_true rfl) (by omega) (Nat.zero_le _) (Nat.zero_le _) ?_
      refine rm_c316 hE (tr_fr (W := [(226, some 0)]) hT (fr_p fr_0 (Or.inr (by decide))) (by decide)).1 (by have h9 : HISR A (M 227 8) (gm_uM M 226 0 0) := hisr_w (W := [(226, some 0)]) hH (fr_p fr_0 (Or.inr (by decide))) (by decide); rwa [show M 227 8 = (gm_uM M 226 0 0) 227 8 from ((uM_ne (by omega))).symm] at h9) (fun M43 hf43 hs43 => ?_)
      show gm_Wp X LX d _ _ 320 46 _ [] n K _ _ Q
      refine gm_sz (gm_p_const (pc := 46) (i := .iconst 0) (v := gm_vi 0) (by decide +kernel) (by decide +kernel)) ?_
      refine gm_sz (gm_p_stor (pc := 47) (i := .istore_n 2) (sr := 0) (j := 2) (by decide +kernel) rfl (show 3 ≤ _ from Nat.le_of_ble_eq_true rfl) rfl) ?_
      refine gm_sz (gm_p_const (pc := 48) (i := .iconst 0) (v := gm_vi 0) (by decide +kernel) (by decide +kernel)) ?_
      refine gm_sz (gm_p_stor (pc := 49) (i := .istore_n 3) (sr := 0) (j := 3) (by decide +kernel) rfl (show 4 ≤ _ from Nat.le_of_ble_eq_true rfl) rfl) ?_
      have f9 : FI M43 := (hfw N geo_r hN).2.1 [(226, some 0), (226, some 6), (230, none)] _ _ (by decide) (fr_t (fr_p fr_0 (Or.inr (by decide))) hf43 (by decide)) hI
      have c0 : M43 226 0 = 0 := ((fr_j hf43 (by decide)).trans uM_at)
      refine ry_l (o := o) (dd := dd) hd hE (tr_fr (W := [(226, some 0), (226, some 6), (230, none)]) hT (fr_t (fr_p fr_0 (Or.inr (by decide))) hf43 (by decide)) (by decide)) hN hg hfw f9 hmo hFX ho ⟨by omega, by omega, by omega⟩ (fun M2 hf2 hI2 hb2 hc2 => ?_) y.toNat 0 M43 (by omega) fr_0 f9 ⟨fun _ _ => rfl, rfl⟩ (tr_fr (W := [(226, some 0), (226, some 6), (230, none)]) hT (fr_t (fr_p fr_0 (Or.inr (by decide))) hf43 (by decide)) (by decide)).1
      have h9 := hisr_w (W := [(226, some 29), (226, some 30), (226, some 26), (226, some 17), (226, some 18), (226, some 19), (226, some 20), (226, some 21), (226, some 22), (226, some 23), (235, none), (233, none), (236, none), (237, none), (227, none)]) hs43 hf2 (by decide)
      rw [show gm_uM M 226 0 0 227 8 = M 227 8 from uM_ne (by omega)] at h9
      exact hq ⟨by omega, by omega, by omega⟩ M2 (fr_t (fr_t (fr_p fr_0 (Or.inr (by decide))) hf43 (by decide)) hf2 (by decide)) hI2 h9 hc2 (fun j hj => (hb2.1 j hj).trans ((fr_c hf43 (by decide)).trans (uM_ne (by omega)))) (hb2.2.trans ((fr_c hf43 (by decide)).trans (uM_ne (by omega)))) ((fr_j hf2 (by decide)).trans c0)
    · have h25 : ¬ ((N 9) + y) ≤ 299 := h25
      refine gm_sz (gm_p_const (pc := 28) (i := .iconst 1) (v := gm_vi 1) (by decide +kernel) (by decide +kernel)) ?_
      refine gm_sz (gm_p_goto (pc := 29) (off := 4) (by decide +kernel) (by decide)) ?_
      refine gm_sz (gm_p_const (pc := 33) (i := .iconst 1) (v := gm_vi 1) (by decide +kernel) (by decide +kernel)) ?_
      refine gm_c_virt (k := 226) (ci := 11) (mj := 282) (ix := 300) (pc := 34) (as := [gm_vi 1, gm_vi 1]) (st := []) (d' := d - 1) (bc' := 0) (bs' := 0) (by decide +kernel) (by decide +kernel) (by decide +kernel) (by decide +kernel) (e0k hE (k := 226) (c := 11) (by decide +kernel)).1 (e0k hE (k := 226) (c := 11) (by decide +kernel)).2 (by decide) (by decide +kernel) (show 2 = gm_na 282 by decide +kernel) (fw_c2 fw_si fw_si) (show 3 ≤ gm_ml 282 by decide +kernel) (Nat.le_of_ble_eq_true rfl) (by omega) (Nat.zero_le _) (Nat.zero_le _) ?_
      refine tf_1 hE ?_
      show gm_Wp X LX d _ _ 320 37 _ [gm_vi 1] n K _ _ Q
      refine fw_iffd (cc := .eq) (pc := 37) (off := 5) (by decide +kernel) (by decide) ⟨by decide, by decide⟩ (by decide) ?_
      refine gm_sz (gm_p_const (pc := 40) (i := .iconst 0) (v := gm_vi 0) (by decide +kernel) (by decide +kernel)) ?_
      exact gm_r_int (pc := 41) (by decide +kernel) (Or.inl (by decide +kernel)) (q0 (by omega) (gm_uM (gm_uM M 226 0 0) 226 0 1) (fr_p (fr_p fr_0 (Or.inr (by decide))) (Or.inr (by decide))) uM_at)
  · show gm_Wp X LX d _ _ 320 13 _ [gm_vi 0, gm_vr 226] n K _ _ Q
    have k10 : ¬ (1 ≤ y ∧ y ≤ 50) := k10
    refine fw_iftd (cc := .eq) (pc := 13) (off := 15) (by decide +kernel) (by decide) ⟨by decide, by decide⟩ (by decide) ?_
    refine gm_sz (gm_p_const (pc := 28) (i := .iconst 1) (v := gm_vi 1) (by decide +kernel) (by decide +kernel)) ?_
    refine gm_sz (gm_p_goto (pc := 29) (off := 4) (by decide +kernel) (by decide)) ?_
    refine gm_sz (gm_p_const (pc := 33) (i := .iconst 1) (v := gm_vi 1) (by decide +kernel) (by decide +kernel)) ?_
    refine gm_c_virt (k := 226) (ci := 11) (mj := 282) (ix := 300) (pc := 34) (as := [gm_vi 1, gm_vi 1]) (st := []) (d' := d - 1) (bc' := 0) (bs' := 0) (by decide +kernel) (by decide +kernel) (by decide +kernel) (by decide +kernel) (e0k hE (k := 226) (c := 11) (by decide +kernel)).1 (e0k hE (k := 226) (c := 11) (by decide +kernel)).2 (by decide) (by decide +kernel) (show 2 = gm_na 282 by decide +kernel) (fw_c2 fw_si fw_si) (show 3 ≤ gm_ml 282 by decide +kernel) (Nat.le_of_ble_eq_true rfl) (by omega) (Nat.zero_le _) (Nat.zero_le _) ?_
    refine tf_1 hE ?_
    show gm_Wp X LX d _ _ 320 37 _ [gm_vi 1] n K _ _ Q
    refine fw_iffd (cc := .eq) (pc := 37) (off := 5) (by decide +kernel) (by decide) ⟨by decide, by decide⟩ (by decide) ?_
    refine gm_sz (gm_p_const (pc := 40) (i := .iconst 0) (v := gm_vi 0) (by decide +kernel) (by decide +kernel)) ?_
    exact gm_r_int (pc := 41) (by decide +kernel) (Or.inl (by decide +kernel)) (q0 (by omega) (gm_uM (gm_uM M 226 0 0) 226 0 1) (fr_p (fr_p fr_0 (Or.inr (by decide))) (Or.inr (by decide))) uM_at)
end YS7
