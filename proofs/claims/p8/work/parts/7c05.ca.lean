/-! THE ACTS OF THE CLASS upon the abstract state. -/
/-- post: how it ends (0, or which refusal), the answer, what is told, what is remembered -/
noncomputable def ap_post (N : Int → Int) (A : List (Int → Int)) (a b : Int) : Int × Int × (Int → Int) × List (Int → Int) :=
  tif (¬ ((0 ≤ a ∧ a < N 3) ∧ (0 ≤ b ∧ b < N 3))) (1, 0, N, A) (tif (a = b) (2, 0, N, A) (tif (N 4 = 24) (3, 0, N, A) (0, N 4, nthr N a b ((N (95 + (a * 3 + 0)))) ((N (95 + (a * 3 + 1)))), (N :: A).take 12)))
noncomputable def ap_watch (N : Int → Int) (A : List (Int → Int)) (p l : Int) : Int × Int × (Int → Int) × List (Int → Int) :=
  tif (¬ ((0 ≤ p ∧ p < N 3) ∧ (l = -1 ∨ (0 ≤ l ∧ l < N 0)))) (1, 0, N, A) (0, (N (95 + (p * 3 + 2))), nwat N p l, (N :: A).take 12)
noncomputable def ap_open (lw : Option (List lln)) (N : Int → Int) (A : List (Int → Int)) (l : Int) : Int × Int × (Int → Int) × List (Int → Int) :=
  tif (¬ (0 ≤ l ∧ l < N 4)) (1, 0, N, A) (tif (¬ WTS N l (aout N (hts (N 13)) (aphi lw N (hts (N 13))) l)) (2, 0, N, A) (0, N 9 - (N (119 + (l * 7 + 3))), nopn N l ((N (119 + (l * 7 + 1)))), (N :: A).take 12))
noncomputable def ap_yrs (lw : Option (List lln)) (N : Int → Int) (y : Int) : (Int → Int) × Int := yrs (fun N2 => apsi lw N2 (hts (N 13))) (aout N (hts (N 13)) (aphi lw N (hts (N 13)))) (adp N (hts (N 13)) (aphi lw N (hts (N 13)))) (N, 0) y.toNat
noncomputable def ap_years (lw : Option (List lln)) (N : Int → Int) (A : List (Int → Int)) (y : Int) : Int × Int × (Int → Int) × List (Int → Int) :=
  tif (¬ (1 ≤ y ∧ y ≤ 50 ∧ y ≤ 299 - N 9)) (1, 0, N, A) (0, (ap_yrs lw N y).2, (ap_yrs lw N y).1, (N :: A).take 12)
/-- how the references change: not, or one more is remembered, or one less -/
noncomputable def STEP (R R1 : gm_R) (M M1 : gm_M) (A A' : List (Int → Int)) : Prop := (R1 = R ∧ M1 42 1 = M 42 1 ∧ A' = A) ∨ (∃ p : Nat, p < 12 ∧ (M 42 1 = (p : Int) ∧ M1 42 1 = ((p : Int) + 1) % 12) ∧ R1 = gm_uR R (44 + 13 * p) 8 (R 3 8) ∧ ∃ N0, A' = (N0 :: A).take 12) ∨ (∃ p : Nat, p < 12 ∧ (M1 42 1 = (p : Int) ∧ M 42 1 = ((p : Int) + 1) % 12) ∧ R1 = gm_uR R 3 8 (R (44 + 13 * p) 8) ∧ ∃ N0, A = N0 :: A')
/-- what one of the law's own methods hands back -/
noncomputable def AQ (n : Nat) (K : gm_K) (R : gm_R) (M : gm_M) (r : Int × Int × (Int → Int) × List (Int → Int)) (lw : Option (List lln)) (im : Option ((Int → Int) × Option (List lln))) (t w : Int) (f : Int → Int) (A : List (Int → Int)) : gm_Q := fun o n1 K1 R1 M1 => (n1 = n ∧ K1 = K ∧ ∀ (k : Nat) (j : Int), 246 ≤ k → M1 k j = M k j) ∧ o = .inl (some (gm_vi r.1)) ∧ (r.1 = 0 → M1 245 0 = gm_w r.2.1) ∧ CLV r.2.2.1 lw r.2.2.2 im t w f M1 ∧ STEP R R1 M M1 A r.2.2.2
/-- behind a call that the law's own method makes: the answer, or which refusal -/
noncomputable def hQ (l : List (Nat × Int)) (Q : gm_Q) : gm_Q := fun o n1 K1 R1 M1 => (245 ≤ n1 ∧ K1 245 = (2, 1)) ∧ ((∃ v, o = .inl (some (gm_vi v)) ∧ Q (.inl (some (gm_vi 0))) n1 K1 R1 (gm_uM M1 245 0 (gm_w v))) ∨ ∃ i ∈ l, o = .inr i.1 ∧ Q (.inl (some (gm_vi i.2))) n1 K1 R1 M1)
theorem hQ_v {l : List (Nat × Int)} {Q : gm_Q} {n1 : Nat} {K1 : gm_K} {R1 : gm_R} {M1 : gm_M} {v : Int} (hn : 245 ≤ n1) (hK : K1 245 = (2, 1)) (h : Q (.inl (some (gm_vi 0))) n1 K1 R1 (gm_uM M1 245 0 (gm_w v))) : hQ l Q (.inl (some (gm_vi v))) n1 K1 R1 M1 := ⟨⟨hn, hK⟩, Or.inl ⟨v, rfl, h⟩⟩
theorem hQ_x {l : List (Nat × Int)} {Q : gm_Q} {n1 x : Nat} {K1 : gm_K} {R1 : gm_R} {M1 : gm_M} {c : Int} (hn : 245 ≤ n1) (hK : K1 245 = (2, 1)) (hm : (x, c) ∈ l) (h : Q (.inl (some (gm_vi c))) n1 K1 R1 M1) : hQ l Q (.inr x) n1 K1 R1 M1 := ⟨⟨hn, hK⟩, Or.inr ⟨(x, c), hm, rfl, h⟩⟩
theorem hgeo_thr {N : Int → Int} {a b l r : Int} (h0 : 0 ≤ N 4) : hgeo N (nthr N a b l r) := fun i i0 i1 i2 => nthr_o ⟨i0, by omega⟩ (fun e => i2 (Or.inl e)) h0
theorem hgeo_wat {N : Int → Int} {p l : Int} (h0 : 0 ≤ p) : hgeo N (nwat N p l) := fun i i0 i1 i2 => nwat_o (by omega)
section CA5
variable {X : Int → Int} {LX d bc bs n : Nat} {K : gm_K} {R : gm_R} {M : gm_M} {N : Int → Int} {lw : Option (List lln)} {A : List (Int → Int)} {im : Option ((Int → Int) × Option (List lln))} {t w : Int} {f : Int → Int} {a b p l y : Int} {NC : Nat} {C Ln G : Int → Int}
theorem aq_0 {r : Int × Int × (Int → Int) × List (Int → Int)} {c : Int} (hr : r = (c, 0, N, A)) (hc : ¬ c = 0) (hV : CLV N lw A im t w f M) : AQ n K R M r lw im t w f A (.inl (some (gm_vi c))) n K R M := by
  subst hr
  exact ⟨⟨rfl, rfl, fun _ _ _ => rfl⟩, rfl, fun e => absurd e hc, hV, Or.inl ⟨rfl, rfl, rfl⟩⟩
theorem clv_245 {v : Int} (hV : CLV N lw A im t w f M) (hC : CST M) : CLV N lw A im t w f (gm_uM M 245 0 v) := clv_e hV (cst_fr (W := [(245, some 0)]) hC (fr_p fr_0 (Or.inr (by decide))) (by decide +kernel)) (fun k j hk => uM_ne (by unfold cK at hk; omega))
/-- post -/
theorem ca_post (hd : 12 ≤ d) (hbc : 4 ≤ bc) (hbs : 24 ≤ bs) (hE : E0 n K R) (hn : 245 ≤ n) (hK : K 245 = (2, 1)) (hG : GJ N) (hV : CLV N lw A im t w f M) (ha : gm_ir a) (hb : gm_ir b) : gm_Wp X LX d bc bs 152 0 (gm_ent 152 [gm_vr 1, gm_vi a, gm_vi b]) [] n K R M (hQ [(3, 1), (0, 2), (1, 3)] (AQ n K R M (ap_post N A a b) lw im t w f A)) := by
  have h4 := hG.1.1.2.1.2.2.2.1
  refine ac_152 hd hbc hbs hE hV.1.1 hG.1.1 hV.1.2 ha hb (fun h => ?_) (fun h1 h2 h3 => ?_) (fun h1 h2 h3 h5 => ?_) (fun h1 h2 h3 h5 p M2 hp hk hH hC hc h15 hx => ?_)
  · exact hQ_x hn hK (c := 1) (by decide) (aq_0 (tif_t h) (by decide) hV)
  · exact hQ_x hn hK (c := 2) (by decide) (aq_0 ((tif_f (fun hh => hh ⟨h1, h2⟩)).trans (tif_t h3)) (by decide) hV)
  · exact hQ_x hn hK (c := 3) (by decide) (aq_0 ((tif_f (fun hh => hh ⟨h1, h2⟩)).trans ((tif_f h3).trans (tif_t h5))) (by decide) hV)
  · refine hQ_v hn hK ?_
    have er : ap_post N A a b = (0, N 4, nthr N a b ((N (95 + (a * 3 + 0)))) ((N (95 + (a * 3 + 1)))), (N :: A).take 12) := (tif_f (fun hh => hh ⟨h1, h2⟩)).trans ((tif_f h3).trans (tif_f (by omega)))
    rw [er]
    have e1 : ∀ j, j = 1 ∨ j = 2 ∨ j = 6 → M2 1 j = M 1 j := fun j hj => hx 1 j (Or.inl (by decide)) (by decide) (by decide) (by omega)
    have e9 : ∀ (k : Nat) (j : Int), k = 2 ∨ (29 ≤ k ∧ k ≤ 41) ∨ (200 ≤ k) → M2 k j = M k j := fun k j hk => hx k j (by omega) (by omega) (by omega) (by omega)
    have hV2 := clv_up hV hG.1.1 (hgeo_thr h4.1) hC hc hH (Or.inl h15) (fun hn => kfl_e (hV.2.2.1 hn) (e9 200 6 (by omega)) (fun j => e9 205 j (by omega))) e1 (fun k j hk => e9 k j (by omega))
    exact ⟨⟨rfl, rfl, fun k j hk9 => (uM_ne (by omega)).trans (e9 k j (by omega))⟩, rfl, fun _ => uM_at, clv_245 hV2 hC, Or.inr (Or.inl ⟨p, hp, ⟨hk.1, (uM_ne (by decide)).trans hk.2⟩, rfl, N, rfl⟩)⟩
/-- watch -/
theorem ca_watch (hd : 12 ≤ d) (hbc : 4 ≤ bc) (hbs : 24 ≤ bs) (hE : E0 n K R) (hn : 245 ≤ n) (hK : K 245 = (2, 1)) (hG : GJ N) (hV : CLV N lw A im t w f M) (ha : gm_ir p) (hb : gm_ir l) : gm_Wp X LX d bc bs 156 0 (gm_ent 156 [gm_vr 1, gm_vi p, gm_vi l]) [] n K R M (hQ [(3, 1)] (AQ n K R M (ap_watch N A p l) lw im t w f A)) := by
  have h3 := hG.1.1.2.1.2.2.1
  refine ac_156 hd hbc hbs hE hV.1.1 hG.1.1 hV.1.2 ha hb (fun h => ?_) (fun h1 h2 q M2 hp hk hH hC hc hx => ?_)
  · exact hQ_x hn hK (c := 1) (by decide) (aq_0 (tif_t h) (by decide) hV)
  · refine hQ_v hn hK ?_
    have er : ap_watch N A p l = (0, (N (95 + (p * 3 + 2))), nwat N p l, (N :: A).take 12) := tif_f (fun hh => hh ⟨h1, h2⟩)
    rw [er]
    have e9 : ∀ (k : Nat) (j : Int), k = 1 ∨ k = 2 ∨ (29 ≤ k ∧ k ≤ 41) ∨ (200 ≤ k) → M2 k j = M k j := fun k j hk => hx k j (by omega) (by omega)
    have hg : geo N (nwat N p l) := geo_nwat ⟨h1.1, by omega⟩
    have h15 : M2 1 15 = 0 ∨ (M2 1 15 = 1 ∧ ENDS (nwat N p l) (hts (nwat N p l 13)) (aphi lw (nwat N p l) (hts (nwat N p l 13))) M2) := by
      rw [e9 1 15 (Or.inl rfl), hg_hts (hgeo_g hg)]
      exact hV.2.1.imp_right fun h => ⟨h.1, ends_g hg hG.1.1 (nwat_o (by omega)) h.2 (fun k j hk => e9 k j (by omega))⟩
    have hV2 := clv_up hV hG.1.1 (hgeo_g hg) hC hc hH h15 (fun hn => kfl_e (hV.2.2.1 hn) (e9 200 6 (by omega)) (fun j => e9 205 j (by omega))) (fun j _ => e9 1 j (by omega)) (fun k j hk => e9 k j (by omega))
    exact ⟨⟨rfl, rfl, fun k j hk9 => (uM_ne (by omega)).trans (e9 k j (by omega))⟩, rfl, fun _ => uM_at, clv_245 hV2 hC, Or.inr (Or.inl ⟨q, hp, ⟨hk.1, (uM_ne (by decide)).trans hk.2⟩, rfl, N, rfl⟩)⟩
/-- the class's law in what a call sees -/
noncomputable def LBX (NC : Nat) (C Ln : Int → Int) (lw : Option (List lln)) (M : gm_M) : Prop := ∀ ls, lw = some ls → LB NC C Ln (ls.length : Int) M
theorem fic_of (hL : LBX NC C Ln lw M) (hV : CLV N lw A im t w f M) : FIC NC C Ln lw N (hts (N 13)) M := fun ls e => ⟨hL ls e, hV.2.2.1 (by rw [e]; exact fun hh => nomatch hh)⟩
/-- open -/
theorem ca_open (hd : 24 ≤ d) (hbc : 4 ≤ bc) (hbs : 24 ≤ bs) (hE : E0 n K R) (hn : 245 ≤ n) (hK : K 245 = (2, 1)) (hc : CC n K R NC C Ln G lw) (hL : LBX NC C Ln lw M) (hG : GJ N) (hV : CLV N lw A im t w f M) (hl : gm_ir l) : gm_Wp X LX d bc bs 158 0 (gm_ent 158 [gm_vr 1, gm_vi l]) [] n K R M (hQ [(3, 1), (2, 2)] (AQ n K R M (ap_open lw N A l) lw im t w f A)) := by
  have h4 := hG.1.1.2.1.2.2.2.1
  have ou : ∀ {o9 d9 : Int}, OUTR N (hts (N 13)) (aphi lw N (hts (N 13))) l o9 d9 → o9 = aout N (hts (N 13)) (aphi lw N (hts (N 13))) l := fun h => (OUTR_u h (aout_s l)).1
  refine ac_158 hd hbc hbs hE hV.1.1 hG.1.1 hG.1.2.2 hV.1.2 (flw_a hE hc hG.1.1 hG.1.2.1) (fic_of hL hV) hV.2.1 hl (fun h => ?_) (fun h1 o9 d9 M2 ho hw hf hI h15 he => ?_) (fun h1 o9 d9 p M1 M2 ho hw hf hI h15 he hp hk hH hC hc2 hx => ?_)
  · exact hQ_x hn hK (c := 1) (by decide) (aq_0 (tif_t h) (by decide) hV)
  · refine hQ_x hn hK (c := 2) (by decide) ?_
    rw [ou ho] at hw
    have er : ap_open lw N A l = (2, 0, N, A) := (tif_f (fun hh => hh h1)).trans (tif_t hw)
    rw [er]
    have hC2 : CST M2 := cst_fr hV.1.1.1 hf (by decide +kernel)
    have e1 : ∀ j, j = 1 ∨ j = 2 ∨ j = 6 → M2 1 j = M 1 j := fun j hj => by rcases hj with rfl | rfl | rfl <;> exact fr_j hf (by decide)
    refine ⟨⟨rfl, rfl, fun k j hk9 => hf k j (by intro hm; simp at hm; omega) (by intro hm; simp at hm; omega)⟩, rfl, fun e => absurd (show (2 : Int) = 0 from e) (by decide), ?_, Or.inl ⟨rfl, fr_c hf (by decide), rfl⟩⟩
    exact clv_up hV hG.1.1 hgeo_r hC2 ((cs_fr hf (by decide)).trans hV.1.1.2.1) (his_w hV.1.2 hf (by decide)) (Or.inr ⟨h15, he⟩) (fun hn => by
      cases hlw : lw with
      | none => exact absurd hlw hn
      | some ls => rw [← hlw]; exact (hI ls hlw).2) e1 (fun k j hk => hf k j (by intro hm; simp at hm; omega) (by intro hm; simp at hm; omega))
  · refine hQ_v hn hK ?_
    have hw9 := hw
    rw [ou ho] at hw
    have er : ap_open lw N A l = (0, N 9 - (N (119 + (l * 7 + 3))), nopn N l ((N (119 + (l * 7 + 1)))), (N :: A).take 12) := (tif_f (fun hh => hh h1)).trans (tif_f (fun hh => hh hw))
    rw [er]
    have h14 := logi_lt hG.1.1 hG.1.2.2 h1 hw.2.1
    have hl24 : 0 ≤ l ∧ l < 24 := ⟨h1.1, by omega⟩
    have hg : geo N (nopn N l ((N (119 + (l * 7 + 1))))) := geo_nopn hl24 h14
    have e1 : ∀ j, j = 1 ∨ j = 2 ∨ j = 6 → M2 1 j = M 1 j := fun j hj => (hx 1 j (Or.inl (by decide)) (by decide) (by decide) (by decide)).trans (by rcases hj with rfl | rfl | rfl <;> exact fr_j hf (by decide))
    have e9 : ∀ (k : Nat) (j : Int), (k = 1 ∧ j = 15) ∨ k = 2 ∨ (29 ≤ k ∧ k ≤ 41) ∨ (200 ≤ k) → M2 k j = M1 k j := fun k j hk => hx k j (by omega) (by omega) (by omega) (by omega)
    have h15b : M2 1 15 = 0 ∨ (M2 1 15 = 1 ∧ ENDS (nopn N l ((N (119 + (l * 7 + 1))))) (hts (nopn N l ((N (119 + (l * 7 + 1)))) 13)) (aphi lw (nopn N l ((N (119 + (l * 7 + 1))))) (hts (nopn N l ((N (119 + (l * 7 + 1)))) 13))) M2) := by
      rw [hg_hts (hgeo_g hg)]
      exact Or.inr ⟨(e9 1 15 (by decide)).trans h15, ends_g hg hG.1.1 (nopn_o ⟨by decide, by decide⟩ (by decide) hl24 h14) he (fun k j hk => e9 k j (by omega))⟩
    have hV2 := clv_up hV hG.1.1 (hgeo_g hg) hC hc2 hH h15b (fun hn => by
      cases hlw : lw with
      | none => exact absurd hlw hn
      | some ls => rw [← hlw]; exact kfl_e (hI ls hlw).2 (e9 200 6 (by omega)) (fun j => e9 205 j (by omega))) e1 (fun k j hk => (e9 k j (by omega)).trans (hf k j (by intro hm; simp at hm; omega) (by intro hm; simp at hm; omega)))
    exact ⟨⟨rfl, rfl, fun k j hk9 => (uM_ne (by omega)).trans ((e9 k j (by omega)).trans (hf k j (by intro hm; simp at hm; omega) (by intro hm; simp at hm; omega)))⟩, rfl, fun _ => uM_at, clv_245 hV2 hC, Or.inr (Or.inl ⟨p, hp, ⟨(fr_c hf (by decide)).symm.trans hk.1, (uM_ne (by decide)).trans hk.2⟩, rfl, N, rfl⟩)⟩
/-- years -/
theorem ca_years (hd : 24 ≤ d) (hbc : 4 ≤ bc) (hbs : 24 ≤ bs) (hE : E0 n K R) (hn : 245 ≤ n) (hK : K 245 = (2, 1)) (hc : CC n K R NC C Ln G lw) (hL : LBX NC C Ln lw M) (hG : GJ N) (hV : CLV N lw A im t w f M) (hy : gm_ir y) : gm_Wp X LX d bc bs 161 0 (gm_ent 161 [gm_vr 1, gm_vi y]) [] n K R M (hQ [(0, 1)] (AQ n K R M (ap_years lw N A y) lw im t w f A)) := by
  have hE2 : ∀ p : Nat, p < 12 → E0 n K (gm_uR R (44 + 13 * p) 8 (R 3 8)) := fun p hp => e0h hE hp
  have hc2 : ∀ p : Nat, p < 12 → CC n K (gm_uR R (44 + 13 * p) 8 (R 3 8)) NC C Ln G lw := fun p hp => cc_u hc (by omega) (by omega)
  refine ac_161 (Ψ := fun N2 => apsi lw N2 (hts (N 13))) (o := aout N (hts (N 13)) (aphi lw N (hts (N 13)))) (dd := adp N (hts (N 13)) (aphi lw N (hts (N 13)))) hd hbc hbs hE hV.1.1 hG.1.1 hG.1.2.2 hV.1.2 (flw_a hE hc hG.1.1 hG.1.2.1) (fic_of hL hV) hV.2.1 (fun M M2 hx hI ls e => ?_) (fun p hp => flw_a (hE2 p hp) (hc2 p hp) hG.1.1 hG.1.2.1) (fun p hp N2 hg hN2 => mow_a (hE2 p hp) (hc2 p hp) hG.1.1 hg hN2) hy (fun l _ _ => aout_s l) (fun h => ?_) (fun h p M1 M2 hp hk hH hI h15 h220 he hC hc9 hx hf => ?_)
  · obtain ⟨⟨i1, i2, i3, i4⟩, i5⟩ := hI ls e
    have e9 : ∀ (k : Nat) (j : Int), 199 < k → M2 k j = M k j := fun k j hk => hx k j (Or.inr hk)
    have e7 : M2 247 = M 247 := funext fun j => e9 247 j (by decide)
    have e8 : M2 248 = M 248 := funext fun j => e9 248 j (by decide)
    have e0 : M2 249 = M 249 := funext fun j => e9 249 j (by decide)
    refine ⟨⟨?_, fun j => (e9 247 j (by decide)).trans (i2 j), fun j => (e9 249 j (by decide)).trans (i3 j), (e9 248 3 (by decide)).trans i4⟩, kfl_e i5 (e9 200 6 (by decide)) (fun j => e9 205 j (by decide))⟩
    unfold LM at i1 ⊢
    rw [e7, e8, e0]
    exact i1
  · exact hQ_x hn hK (c := 1) (by decide) (aq_0 (tif_t h) (by decide) hV)
  · refine hQ_v hn hK ?_
    have er : ap_years lw N A y = (0, (ap_yrs lw N y).2, (ap_yrs lw N y).1, (N :: A).take 12) := tif_f (fun hh => hh h)
    rw [er]
    have hh9 : N 9 + (y.toNat : Int) ≤ 299 := by omega
    obtain ⟨-, -, hg, h4, -⟩ := yrs_i (Ψ := fun N2 => apsi lw N2 (hts (N 13))) (o := aout N (hts (N 13)) (aphi lw N (hts (N 13)))) (dd := adp N (hts (N 13)) (aphi lw N (hts (N 13)))) hG.1.1 hG.1.2.2 y.toNat hh9
    have hg : geo N (ap_yrs lw N y).1 := hg
    have h4 : (ap_yrs lw N y).1 4 = N 4 := h4
    have hc9 : cs M2 3 = (ap_yrs lw N y).1 := hc9
    have e1 : ∀ j, j = 1 ∨ j = 2 ∨ j = 6 → M2 1 j = M 1 j := fun j hj => Eq.trans (by rcases hj with rfl | rfl | rfl <;> exact fr_j hf (by decide)) (hx 1 j (Or.inl (by decide)))
    have e9 : ∀ (k : Nat) (j : Int), k = 2 ∨ (29 ≤ k ∧ k ≤ 41) ∨ (201 ≤ k ∧ k ≤ 203) ∨ 246 ≤ k → M2 k j = M k j := fun k j hk => (hf k j (by intro hm; simp at hm; omega) (by intro hm; simp at hm; omega)).trans (hx k j (by omega))
    have h15b : M2 1 15 = 0 ∨ (M2 1 15 = 1 ∧ ENDS (ap_yrs lw N y).1 (hts ((ap_yrs lw N y).1 13)) (aphi lw (ap_yrs lw N y).1 (hts ((ap_yrs lw N y).1 13))) M2) := by
      rw [hg_hts (hgeo_g hg)]
      exact Or.inr ⟨h15, ends_g hg hG.1.1 h4 ⟨h220, he⟩ (fun _ _ _ => rfl)⟩
    have hV2 := clv_up hV hG.1.1 (hgeo_g hg) hC hc9 hH h15b (fun hn => by
      cases hlw : lw with
      | none => exact absurd hlw hn
      | some ls => rw [← hlw]; exact (hI ls hlw).2) e1 (fun k j hk => e9 k j (by omega))
    exact ⟨⟨rfl, rfl, fun k j hk9 => (uM_ne (by omega)).trans (e9 k j (by omega))⟩, rfl, fun _ => uM_at, clv_245 hV2 hC, Or.inr (Or.inl ⟨p, hp, ⟨hk.1, (uM_ne (by decide)).trans hk.2⟩, rfl, N, rfl⟩)⟩
end CA5
