/-! FLOW AND OPEN of class and reference, by the abstract ones. -/
section FI3
variable {X : Int → Int} {LX n : Nat} {K : gm_K} {R : gm_R} {N N2 h : Int → Int} {sp : Int → Int → Int} {FI FI2 : gm_M → Prop} {φ φ2 : Int → Int → Int → Int} {ψ ψ2 : Int → Int → Int → Int → Prop} {lw : Option (List lln)} {M : gm_M} {NC : Nat} {C Ln G : Int → Int}
theorem flw_cg (hf : FLW X LX n K R N h sp FI φ) (hb : ∀ l r y, 0 ≤ φ2 l r y ∧ φ2 l r y ≤ 30) (he : ∀ l r y, 0 ≤ l ∧ l < N 0 → 0 ≤ r ∧ r < N 1 → 0 ≤ y ∧ y < 300 → φ2 l r y = φ l r y) (hI : ∀ M, FI2 M ↔ FI M) : FLW X LX n K R N h sp FI2 φ2 := by
  obtain ⟨-, h2, h3⟩ := hf
  refine ⟨hb, fun W M M2 hw hf hI2 => (hI M2).mpr (h2 W M M2 hw hf ((hI M).mp hI2)), fun d bc bs M Q lane row year hd hl hr hy hT hI2 hq => h3 d bc bs M Q lane row year hd hl hr hy hT ((hI M).mp hI2) (fun M2 hf hI3 => ?_)⟩
  rw [← he lane row year hl hr hy]
  exact hq M2 hf ((hI M2).mpr hI3)
theorem flr_cg (hf : FLR X LX n K R N h FI φ) (hb : ∀ l r y, 0 ≤ φ2 l r y ∧ φ2 l r y ≤ 30) (he : ∀ l r y, 0 ≤ l ∧ l < N 0 → 0 ≤ r ∧ r < N 1 → 0 ≤ y ∧ y < 300 → φ2 l r y = φ l r y) (hI : ∀ M, FI2 M ↔ FI M) : FLR X LX n K R N h FI2 φ2 := by
  obtain ⟨-, h2, h3⟩ := hf
  refine ⟨hb, fun W M M2 hw hf hI2 => (hI M2).mpr (h2 W M M2 hw hf ((hI M).mp hI2)), fun d bc bs M Q lane row year hd hl hr hy hT hI2 hq => h3 d bc bs M Q lane row year hd hl hr hy hT ((hI M).mp hI2) (fun M2 hf hI3 => ?_)⟩
  rw [← he lane row year hl hr hy]
  exact hq M2 hf ((hI M2).mpr hI3)
theorem mow_cg (hf : MOW X LX n K R N h sp FI ψ) (hI : ∀ M, FI2 M → FI M) (hp : ∀ p l a d, ψ2 p l a d ↔ ψ p l a d) : MOW X LX n K R N h sp FI2 ψ2 := fun d bc bs M Q p l a dp hd hl hT hI2 q1 q0 => hf d bc bs M Q p l a dp hd hl hT (hI M hI2) (fun hh => q1 ((hp p l a dp).mpr hh)) (fun hh => q0 (fun h2 => hh ((hp p l a dp).mp h2)))
theorem mor_cg (hf : MOR X LX n K R N h FI ψ) (hI : ∀ M, FI2 M → FI M) (hp : ∀ p l a d, ψ2 p l a d ↔ ψ p l a d) : MOR X LX n K R N h FI2 ψ2 := fun d bc bs M Q p l dp hd hl hT hI2 h29 hdp q1 q0 => hf d bc bs M Q p l dp hd hl hT (hI M hI2) h29 hdp (fun hh => q1 ((hp _ _ _ _).mpr hh)) (fun hh => q0 (fun h2 => hh ((hp _ _ _ _).mp h2)))
theorem kfl_cg (he : ∀ l r y, 0 ≤ l ∧ l < 6 → 0 ≤ r ∧ r < 99 → 0 ≤ y ∧ y < 300 → φ2 l r y = φ l r y) : KFL N φ2 M ↔ KFL N φ M := by
  refine ⟨fun hk => ⟨hk.1, fun l r y l0 l1 r0 r1 y0 y1 => ?_⟩, fun hk => ⟨hk.1, fun l r y l0 l1 r0 r1 y0 y1 => ?_⟩⟩
  · rw [← he l r y ⟨l0, l1⟩ ⟨r0, r1⟩ ⟨y0, y1⟩]; exact hk.2 l r y l0 l1 r0 r1 y0 y1
  · rw [he l r y ⟨l0, l1⟩ ⟨r0, r1⟩ ⟨y0, y1⟩]; exact hk.2 l r y l0 l1 r0 r1 y0 y1
theorem kfr_cg (he : ∀ l r y, 0 ≤ l ∧ l < 6 → 0 ≤ r ∧ r < 99 → 0 ≤ y ∧ y < 300 → φ2 l r y = φ l r y) : KFR N φ2 M ↔ KFR N φ M := by
  refine ⟨fun hk => ⟨hk.1, hk.2.1, fun r y l0 l1 r0 r1 y0 y1 => ?_⟩, fun hk => ⟨hk.1, hk.2.1, fun r y l0 l1 r0 r1 y0 y1 => ?_⟩⟩
  · rw [← he _ r y ⟨l0, l1⟩ ⟨r0, r1⟩ ⟨y0, y1⟩]; exact hk.2.2 r y l0 l1 r0 r1 y0 y1
  · rw [he _ r y ⟨l0, l1⟩ ⟨r0, r1⟩ ⟨y0, y1⟩]; exact hk.2.2 r y l0 l1 r0 r1 y0 y1
/-- FLOW by the class's codes -/
theorem lphi_ax {ls : List lln} (hW : LW ls) (hC : LC ls C Ln) (hR : LR ls G) {l r y : Int} (hl : 0 ≤ l) : lphi N h (spd N) C Ln (ls.length : Int) l r y = aphx (some ls) N h l r y := by
  rw [aphx_s hl]
  unfold lphi
  rw [show ((ls.length : Int)).toNat = ls.length from Int.toNat_natCast _, lsum_x hW hC hR fb_fcts _ (Nat.le_refl _), rsum_gcl hR _ (Nat.le_refl _), rsum_gcl hR _ (Nat.le_refl _)]
  congr 2
  omega
/-- what the class's law is: no law, or one that stands at 246 -/
noncomputable def CC (n : Nat) (K : gm_K) (R : gm_R) (NC : Nat) (C Ln G : Int → Int) (lw : Option (List lln)) : Prop := (lw = none → R 3 ((8 : Nat) : Int) = 0) ∧ ∀ ls, lw = some ls → R 3 ((8 : Nat) : Int) = 246 ∧ LE n K R NC ∧ LW ls ∧ LC ls C Ln ∧ LR ls G
noncomputable def FIC (NC : Nat) (C Ln : Int → Int) (lw : Option (List lln)) (N h : Int → Int) : gm_M → Prop := fun M => ∀ ls, lw = some ls → LB NC C Ln (ls.length : Int) M ∧ KFL N (aphx lw N h) M
theorem cc_u {k v : Nat} (hc : CC n K R NC C Ln G lw) (hk : ¬ k = 3) (hk2 : k < 246) : CC n K (gm_uR R k 8 v) NC C Ln G lw := by
  have e3 : gm_uR R k 8 v 3 ((8 : Nat) : Int) = R 3 ((8 : Nat) : Int) := uR_ne (fun e => hk e.1.symm)
  refine ⟨fun e => e3.trans (hc.1 e), fun ls e => ?_⟩
  obtain ⟨a, ⟨b1, b2, b3⟩, c⟩ := hc.2 ls e
  exact ⟨e3.trans a, ⟨b1, ⟨(uR_ne (by omega)).trans b2.1, (uR_ne (by omega)).trans b2.2.1, (uR_ne (by omega)).trans b2.2.2⟩, b3⟩, c⟩
theorem flw_a (hE : E0 n K R) (hc : CC n K R NC C Ln G lw) (hN : NR N) (hS : NS N) : FLW X LX n K R N h (spd N) (FIC NC C Ln lw N h) (aphi lw N h) := by
  have hsp : ∀ l r, 0 ≤ l → l < 6 → 0 ≤ r → r < 99 → 0 ≤ spd N l r ∧ spd N l r ≤ 20 := fun l r l0 _ _ _ => spd_b hN hS l0
  have h06 := hN.1.1
  have es : ∀ l r, 0 ≤ l ∧ l < N 0 → 0 ≤ r ∧ r < N 1 → spd N l r = nsp N l r := fun l r hl hr => if_pos ⟨hl.2, hr.2⟩
  cases lw with
  | none =>
    refine flw_cg (ic_flw0 hE (hc.1 rfl) hN hsp) aphi_b (fun l r y hl hr _ => ?_) (fun M => ⟨fun _ => trivial, fun _ ls e => nomatch e⟩)
    rw [aphi_n ⟨hl.1, by omega⟩]
    exact (nphi_x (es l r hl hr)).symm
  | some ls =>
    obtain ⟨h8, hL, hW, hC, hR⟩ := hc.2 ls rfl
    have he : ∀ l r y, 0 ≤ l ∧ l < N 0 → 0 ≤ r ∧ r < N 1 → 0 ≤ y ∧ y < 300 → aphi (some ls) N h l r y = lphi N h (spd N) C Ln (ls.length : Int) l r y := fun l r y hl hr _ => by
      rw [aphi_s ⟨hl.1, by omega⟩, ← rphi_gcl hR]
      exact (lphi_x hW hC hR (es l r hl hr)).symm
    have hx : ∀ l r y, 0 ≤ l ∧ l < 6 → 0 ≤ r ∧ r < 99 → 0 ≤ y ∧ y < 300 → aphx (some ls) N h l r y = lphi N h (spd N) C Ln (ls.length : Int) l r y := fun l r y hl _ _ => (lphi_ax hW hC hR hl.1).symm
    refine flw_cg (ic_flw hE hL h8 hN hsp) aphi_b he (fun M => ⟨fun hh => ⟨(hh ls rfl).1, (kfl_cg (N := N) hx).mp (hh ls rfl).2⟩, fun hh ls2 e => ?_⟩)
    cases e
    exact ⟨hh.1, (kfl_cg (N := N) hx).mpr hh.2⟩
theorem mow_a (hE : E0 n K R) (hc : CC n K R NC C Ln G lw) (hN : NR N) (hg : geo N N2) (hN2 : NR N2) : MOW X LX n K R N2 h (spd N) (FIC NC C Ln lw N h) (apsi lw N2 h) := by
  cases lw with
  | none => exact mow_cg (ic_mow0 hE (hc.1 rfl)) (fun _ _ => trivial) (fun p l a d => ⟨(fun ⟨ls, e, _⟩ => nomatch e), fun hh => False.elim hh⟩)
  | some ls =>
    obtain ⟨h8, hL, hW, hC, hR⟩ := hc.2 ls rfl
    have hgg := hgeo_g hg
    have h06 := hN2.1.1
    have he : ∀ l r y, 0 ≤ l ∧ l < 6 → 0 ≤ r ∧ r < 99 → 0 ≤ y ∧ y < 300 → aphx (some ls) N h l r y = lphi N2 h (spd N) C Ln (ls.length : Int) l r y := fun l r y hl _ _ => by
      rw [← lphi_ax hW hC hR hl.1]
      unfold lphi
      rw [hg_fcts hgg]
    refine mow_cg (ic_mow hE hL h8 hN2) (fun M hh => ⟨(hh ls rfl).1, (kfl_cg (N := N) he).mp (hh ls rfl).2⟩) (fun p l a d => ?_)
    have hl := lopn_x (F := fcts N2 h l (N2 1) (N2 9) 0 p a d) hW hC hR fb_fcts
    rw [rsum_gcl hR _ (Nat.le_refl _)] at hl
    have e : ((ls.length : Int)).toNat = ls.length := by omega
    refine ⟨fun ⟨ls2, e2, hh⟩ => ?_, fun hh => ⟨ls, rfl, ?_⟩⟩
    · cases e2
      unfold rpsi at hh
      rw [e] at hh
      exact hl.mpr hh
    · unfold rpsi
      rw [e]
      exact hl.mp hh
/-- what the reference's law is -/
noncomputable def LAWG (lw : Option (List lln)) (G : Int → Int) : Prop := (lw = none → G 8 = 0) ∧ ∀ ls, lw = some ls → LW ls ∧ LR ls G ∧ LG G (ls.length : Int)
noncomputable def FIR (G : Int → Int) (lw : Option (List lln)) (N h : Int → Int) : gm_M → Prop := fun M => KFR N (aphi lw N h) M ∧ ∀ j, (395 ≤ j ∨ j = 8) → M 227 j = G j
theorem flr_a (hE : E0 n K R) (hG : LAWG lw G) (hg : hgeo N N2) (hN : NR N) (hN2 : NR N2) (hS2 : NSb 6 N2) : FLR X LX n K R N2 h (FIR G lw N h) (aphi lw N h) := by
  have h06 := hN2.1.1
  have e0 := hg 0 (by decide) (by decide) (by decide)
  have e1 := hg 1 (by decide) (by decide) (by decide)
  have k12 : ∀ (φ : Int → Int → Int → Int) (M : gm_M), KFR N φ M ↔ KFR N2 φ M := fun φ M => ⟨hg_kfr hg, hg_kfr (hgeo_s hg)⟩
  cases lw with
  | none =>
    have he : ∀ l r y, 0 ≤ l ∧ l < 6 → 0 ≤ r ∧ r < 99 → 0 ≤ y ∧ y < 300 → aphi none N h l r y = rphi0 N2 l r y := fun l r y hl hr _ => by
      rw [← hg_aphi (lw := none) hg hN.2.1.1, aphi_n hl]
    exact flr_cg (re_flr0 hE hN2 hS2 (hG.1 rfl)) aphi_b (fun l r y hl hr hy => he l r y ⟨hl.1, by omega⟩ ⟨hr.1, by have := hN2.1.2.1; omega⟩ hy) (fun M => and_congr ((k12 _ M).trans (kfr_cg he)) Iff.rfl)
  | some ls =>
    obtain ⟨hW, hR, hL⟩ := hG.2 ls rfl
    have he : ∀ l r y, 0 ≤ l ∧ l < 6 → 0 ≤ r ∧ r < 99 → 0 ≤ y ∧ y < 300 → aphi (some ls) N h l r y = rphi N2 h (HH ls) G (ls.length : Int) l r y := fun l r y hl hr _ => by
      rw [← hg_aphi (lw := some ls) hg hN.2.1.1, aphi_s hl, ← rphi_gcl hR]
    exact flr_cg (re_flr hE hN2 hS2 hL (hhl_x hW hR)) aphi_b (fun l r y hl hr hy => he l r y ⟨hl.1, by omega⟩ ⟨hr.1, by have := hN2.1.2.1; omega⟩ hy) (fun M => and_congr ((k12 _ M).trans (kfr_cg he)) Iff.rfl)
theorem mor_a (hE : E0 n K R) (hG : LAWG lw G) (hN2 : NR N2) : MOR X LX n K R N2 h (FIR G lw N h) (apsi lw N2 h) := by
  cases lw with
  | none => exact mor_cg (re_mor0 hE hN2 (hG.1 rfl)) (fun _ hh => hh.2) (fun p l a d => ⟨(fun ⟨ls, e, _⟩ => nomatch e), fun hh => False.elim hh⟩)
  | some ls =>
    obtain ⟨hW, hR, hL⟩ := hG.2 ls rfl
    have e : ((ls.length : Int)).toNat = ls.length := by omega
    refine mor_cg (re_mor hE hN2 hL (hhl_x hW hR)) (fun _ hh => hh.2) (fun p l a d => ⟨fun ⟨ls2, e2, hh⟩ => ?_, fun hh => ⟨ls, rfl, ?_⟩⟩)
    · cases e2
      unfold rpsi at hh ⊢
      rw [e] at hh ⊢
      rw [rsum_gcl hR _ (Nat.le_refl _)]
      exact hh
    · unfold rpsi at hh ⊢
      rw [e] at hh ⊢
      rw [rsum_gcl hR _ (Nat.le_refl _)] at hh
      exact hh
end FI3
/-- the lines of the reference's law, bounds and all -/
theorem lg_of {ls : List lln} {W : Int → Int} (hW : LW ls) (hR : LR ls W) (h8 : W 8 = 1) (h5 : W 395 = (ls.length : Int)) (hT : jT fun j => W (395 + j)) : LG W (ls.length : Int) := by
  have h12 := hW.1
  refine ⟨⟨h8, h5, by omega, by omega⟩, fun k k0 k1 => ?_⟩
  obtain ⟨u, rfl⟩ : ∃ u : Nat, k = (u : Int) := ⟨k.toNat, by omega⟩
  obtain ⟨x, hx⟩ := lq_at (ls := ls) (k := u) (by omega)
  obtain ⟨w0, w1, w2⟩ := hW.2 u x hx
  obtain ⟨r0, r1, r2, r3⟩ := hR u x hx
  have ht := (hT (u : Int) k0 (by omega) (by show (u : Int) < W (395 + 0); rw [show (395 : Int) + 0 = 395 by decide, h5]; exact k1)).1
  have ht : 0 ≤ W (395 + (3 + 4 * (u : Int))) ∧ W (395 + (3 + 4 * (u : Int))) ≤ W (395 + (4 + 4 * (u : Int))) ∧ W (395 + (4 + 4 * (u : Int))) ≤ 400 := ht
  rw [show 395 + (3 + 4 * (u : Int)) = 396 + 4 * (u : Int) + 2 by omega, show 395 + (4 + 4 * (u : Int)) = 396 + 4 * (u : Int) + 3 by omega] at ht
  refine ⟨by rw [r0]; exact w0, by rw [r1]; split <;> omega, ht, ?_⟩
  cases hc : x.2.2 with
  | none =>
    rw [r2 hc, show (W (396 + 4 * (u : Int) + 2) - W (396 + 4 * (u : Int) + 2)).toNat = 0 by omega]
    exact ⟨by decide, by decide⟩
  | some t =>
    obtain ⟨c1, c2⟩ := r3 t hc
    have hs := w2 t hc
    rw [show (W (396 + 4 * (u : Int) + 3) - W (396 + 4 * (u : Int) + 2)).toNat = (srds t).length by omega]
    refine hok_l (srds t) _ 0 (fun j v hv => (c2 j v hv).1) ?_
    have := hokl_s t 0 1 hs [] (by decide) ⟨by decide, by decide⟩
    rw [List.append_nil] at this
    exact this
