/-! 7c04.cv -/
section
/-! WHAT THE CLASS HOLDS, what the reference holds, of one abstract state: N told, lw the law, A remembered, im the image, t and f the TAPE, w the wrong byte. -/
noncomputable def CLV (N : Int → Int) (lw : Option (List lln)) (A : List (Int → Int)) (im : Option ((Int → Int) × Option (List lln))) (t w : Int) (f : Int → Int) (M : gm_M) : Prop := (TI N (hts (N 13)) (spd N) M ∧ HIS A M) ∧ (M 1 15 = 0 ∨ (M 1 15 = 1 ∧ ENDS N (hts (N 13)) (aphi lw N (hts (N 13))) M)) ∧ (¬ lw = none → KFL N (aphx lw N (hts (N 13))) M) ∧ ((M 1 6 = 0 ∧ im = none) ∨ (M 1 6 = 1 ∧ ∃ NI lI, im = some (NI, lI) ∧ cs M 29 = NI)) ∧ (M 1 1 = t ∧ M 1 2 = w) ∧ ∀ j, 0 ≤ j → j < 400 → M 2 j = f j
/-- the law that the reference holds -/
def LAWR (lw : Option (List lln)) (W : Int → Int) : Prop := (lw = none → W 8 = 0) ∧ ∀ ls, lw = some ls → (W 8 = 1 ∧ W 395 = (ls.length : Int)) ∧ LW ls ∧ LR ls W ∧ LRb ls W
noncomputable def RFV (N : Int → Int) (lw : Option (List lln)) (A : List (Int → Int)) (im : Option ((Int → Int) × Option (List lln))) (t w : Int) (f : Int → Int) (M : gm_M) : Prop := (TR N (hts (N 13)) M ∧ LAWR lw (M 227) ∧ HISR A (M 227 8) M) ∧ KFR N (aphi lw N (hts (N 13))) M ∧ ((M 226 5 = 0 ∧ im = none) ∨ (M 226 5 = 1 ∧ ∃ NI lI, im = some (NI, lI) ∧ ws (M 228) = NI ∧ LAWR lI (M 228))) ∧ (M 226 8 = t ∧ M 226 13 = w) ∧ ∀ j, 0 ≤ j → j < 400 → M 231 j = f j
/-- what the abstract state always is -/
def RA (N : Int → Int) (lw : Option (List lln)) (A : List (Int → Int)) (im : Option ((Int → Int) × Option (List lln))) (t w : Int) (f : Int → Int) : Prop := GJ N ∧ (∀ ls, lw = some ls → LW ls) ∧ (∀ N1 ∈ A, GJ N1 ∧ hgeo N N1) ∧ (∀ NI lI, im = some (NI, lI) → GJ NI ∧ ∀ ls, lI = some ls → LW ls) ∧ (0 ≤ t ∧ t ≤ 400) ∧ (-1 ≤ w ∧ w ≤ 400) ∧ ∀ j, 0 ≤ j → j < 400 → -128 ≤ f j ∧ f j ≤ 127
section CV4
variable {n : Nat} {K : gm_K} {R : gm_R} {M M2 : gm_M} {N N' : Int → Int} {lw : Option (List lln)} {A A' : List (Int → Int)} {im : Option ((Int → Int) × Option (List lln))} {t w : Int} {f : Int → Int}
theorem kfl_e {φ : Int → Int → Int → Int} (hk : KFL N φ M) (e6 : M2 200 6 = M 200 6) (e5 : ∀ j, M2 205 j = M 205 j) : KFL N φ M2 := by
  refine ⟨by rw [e6]; exact hk.1, fun l r y l0 l1 r0 r1 y0 y1 => ?_⟩
  rw [kv_e e6 e5]
  exact hk.2 l r y l0 l1 r0 r1 y0 y1
theorem ends_x {φ : Int → Int → Int → Int} {h : Int → Int} (he : ENDS N h φ M) (e : ∀ (k : Nat) (j : Int), k = 220 ∨ k = 221 → M2 k j = M k j) : ENDS N h φ M2 := ⟨by rw [e 220 3 (Or.inl rfl)]; exact he.1, fun l l0 l1 => by rw [e 221 _ (Or.inr rfl), e 221 _ (Or.inr rfl)]; exact he.2 l l0 l1⟩
/-- the class's cells -/
def cK (k : Nat) (j : Int) : Prop := (k = 1 ∧ (j = 1 ∨ j = 2 ∨ j = 6 ∨ j = 15)) ∨ k = 2 ∨ (3 ≤ k ∧ k ≤ 15) ∨ (29 ≤ k ∧ k ≤ 199) ∨ (k = 200 ∧ j = 6) ∨ (201 ≤ k ∧ k ≤ 203) ∨ k = 205 ∨ k = 220 ∨ k = 221
theorem clv_e (hV : CLV N lw A im t w f M) (hC : CST M2) (e : ∀ k j, cK k j → M2 k j = M k j) : CLV N lw A im t w f M2 := by
  obtain ⟨⟨hT, hH⟩, h15, hk, hi, ht, hf⟩ := hV
  have e15 : M2 1 15 = M 1 15 := e 1 15 (by unfold cK; omega)
  have e6 : M2 1 6 = M 1 6 := e 1 6 (by unfold cK; omega)
  refine ⟨⟨⟨hC, ?_, fun y y0 y1 => ?_, fun l r l0 l1 r0 r1 => ?_⟩, his_fr hH (fun x j h1 h2 => e x j (by unfold cK; omega))⟩, ?_, fun hn => kfl_e (hk hn) (e 200 6 (by unfold cK; omega)) (fun j => e 205 j (by unfold cK; omega)), ?_, ⟨?_, ?_⟩, fun j j0 j1 => ?_⟩
  · rw [← hT.2.1]
    exact cs_same fun x j h1 h2 => e x j (by unfold cK; omega)
  · rw [e 201 y (by unfold cK; omega), e 203 y (by unfold cK; omega)]
    exact hT.2.2.1 y y0 y1
  · rw [e 202 _ (by unfold cK; omega)]
    exact hT.2.2.2 l r l0 l1 r0 r1
  · rw [e15]
    exact h15.imp_right fun h => ⟨h.1, ends_x h.2 (fun k j hk => e k j (by unfold cK; omega))⟩
  · rw [e6]
    refine hi.imp_right fun ⟨h1, NI, lI, h2, h3⟩ => ⟨h1, NI, lI, h2, ?_⟩
    rw [← h3]
    exact cs_same fun x j h1 h2 => e x j (by unfold cK; omega)
  · rw [e 1 1 (by unfold cK; omega)]; exact ht.1
  · rw [e 1 2 (by unfold cK; omega)]; exact ht.2
  · rw [e 2 j (by unfold cK; omega)]; exact hf j j0 j1
/-- the reference's cells -/
def rK (k : Nat) (j : Int) : Prop := k = 227 ∨ k = 228 ∨ k = 230 ∨ k = 231 ∨ k = 234 ∨ k = 235 ∨ (k = 226 ∧ (j = 5 ∨ j = 6 ∨ j = 8 ∨ j = 13 ∨ j = 26))
theorem kfr_e {φ : Int → Int → Int → Int} (hk : KFR N φ M) (e6 : M2 226 26 = M 226 26) (e5 : ∀ j, M2 235 j = M 235 j) : KFR N φ M2 := by
  refine ⟨by rw [e6]; exact hk.1, fun j j0 j1 => by rw [e5]; exact hk.2.1 j j0 j1, fun r y => ?_⟩
  rw [e6, e5]
  exact hk.2.2 r y
theorem rfv_e (hV : RFV N lw A im t w f M) (e : ∀ k j, rK k j → M2 k j = M k j) : RFV N lw A im t w f M2 := by
  obtain ⟨⟨hT, hL, hH⟩, hk, hi, ht, hf⟩ := hV
  have e7 : M2 227 = M 227 := funext fun j => e 227 j (by unfold rK; omega)
  have e8 : M2 228 = M 228 := funext fun j => e 228 j (by unfold rK; omega)
  refine ⟨⟨⟨by rw [e7]; exact hT.1, fun y y0 y1 => ?_⟩, by rw [e7]; exact hL, ?_⟩, kfr_e hk (e 226 26 (by unfold rK; omega)) (fun j => e 235 j (by unfold rK; omega)), ?_, ⟨?_, ?_⟩, fun j j0 j1 => ?_⟩
  · rw [e 234 y (by unfold rK; omega)]
    exact hT.2 y y0 y1
  · rw [e7]
    exact hisr_e hH (e 226 6 (by unfold rK; omega)) (fun j => e 230 j (by unfold rK; omega))
  · rw [e 226 5 (by unfold rK; omega), e8]
    exact hi
  · rw [e 226 8 (by unfold rK; omega)]; exact ht.1
  · rw [e 226 13 (by unfold rK; omega)]; exact ht.2
  · rw [e 231 j (by unfold rK; omega)]; exact hf j j0 j1
/-- another valley of the same kind in the class -/
theorem clv_up (hV : CLV N lw A im t w f M) (hN : NR N) (hg : hgeo N N') (hC : CST M2) (hc : cs M2 3 = N') (hH : HIS A' M2) (h15 : M2 1 15 = 0 ∨ (M2 1 15 = 1 ∧ ENDS N' (hts (N' 13)) (aphi lw N' (hts (N' 13))) M2)) (hk : ¬ lw = none → KFL N (aphx lw N (hts (N 13))) M2) (e1 : ∀ j, j = 1 ∨ j = 2 ∨ j = 6 → M2 1 j = M 1 j) (e : ∀ (k : Nat) (j : Int), k = 2 ∨ (29 ≤ k ∧ k ≤ 41) ∨ (201 ≤ k ∧ k ≤ 203) → M2 k j = M k j) : CLV N' lw A' im t w f M2 := by
  obtain ⟨⟨hT, -⟩, -, -, hi, ht, hf⟩ := hV
  refine ⟨⟨hg_ti hN hg hT hC hc (fun k j h1 h2 => e k j (by omega)), hH⟩, h15, fun hn => ?_, ?_, ⟨?_, ?_⟩, fun j j0 j1 => ?_⟩
  · rw [hg_hts hg, hg_aphx hg hN]
    exact hg_kfl hg (hk hn)
  · rw [e1 6 (by decide)]
    refine hi.imp_right fun ⟨h1, NI, lI, h2, h3⟩ => ⟨h1, NI, lI, h2, ?_⟩
    rw [← h3]
    exact cs_same fun x j h1 h2 => e x j (by omega)
  · rw [e1 1 (by decide)]; exact ht.1
  · rw [e1 2 (by decide)]; exact ht.2
  · rw [e 2 j (by omega)]; exact hf j j0 j1
/-- another valley of the same kind in the reference -/
theorem rfv_up (hV : RFV N lw A im t w f M) (hN : NR N) (hg : hgeo N N') (hw : ws (M2 227) = N') (h395 : ∀ j, 395 ≤ j → M2 227 j = M 227 j) (h8 : M2 227 8 = M 227 8) (hH : HISR A' (M 227 8) M2) (hk : KFR N (aphi lw N (hts (N 13))) M2) (e1 : ∀ j, j = 5 ∨ j = 8 ∨ j = 13 → M2 226 j = M 226 j) (e : ∀ (k : Nat) (j : Int), k = 228 ∨ k = 231 ∨ k = 234 → M2 k j = M k j) (hb : ∀ ls, lw = some ls → ∀ k : Nat, k < ls.length → 0 ≤ M 227 (396 + 4 * (k : Int) + 2)) : RFV N' lw A' im t w f M2 := by
  obtain ⟨⟨hT, hL, -⟩, -, hi, ht, hf⟩ := hV
  have e8 : M2 228 = M 228 := funext fun j => e 228 j (by omega)
  refine ⟨⟨⟨hw, fun y y0 y1 => ?_⟩, ⟨fun hn => by rw [h8]; exact hL.1 hn, fun ls hs => ?_⟩, by rw [h8]; exact hH⟩, ?_, ?_, ⟨?_, ?_⟩, fun j j0 j1 => ?_⟩
  · rw [hg_hts hg, e 234 y (by omega)]
    exact hT.2 y y0 y1
  · obtain ⟨⟨a1, a2⟩, a3, a4, a5⟩ := hL.2 ls hs
    refine ⟨⟨by rw [h8]; exact a1, by rw [h395 395 (by decide)]; exact a2⟩, a3, fun k x hx => ?_, fun k x hx => ?_⟩
    · have hk9 := hb ls hs k (List.getElem?_eq_some_iff.mp hx).1
      obtain ⟨b0, b1, b2, b3⟩ := a4 k x hx
      rw [h395 (396 + 4 * (k : Int)) (by omega), h395 (396 + 4 * (k : Int) + 1) (by omega), h395 (396 + 4 * (k : Int) + 2) (by omega), h395 (396 + 4 * (k : Int) + 3) (by omega)]
      refine ⟨b0, b1, b2, fun t ht => ⟨(b3 t ht).1, fun j v hv => ?_⟩⟩
      rw [h395 _ (by omega), h395 _ (by omega)]
      exact (b3 t ht).2 j v hv
    · have hk9 := hb ls hs k (List.getElem?_eq_some_iff.mp hx).1
      rw [h395 (396 + 4 * (k : Int) + 2) (by omega)]
      exact a5 k x hx
  · rw [hg_hts hg, hg_aphi hg hN.2.1.1]
    exact hg_kfr hg hk
  · rw [e1 5 (by decide), e8]
    exact hi
  · rw [e1 8 (by decide)]; exact ht.1
  · rw [e1 13 (by decide)]; exact ht.2
  · rw [e 231 j (by omega)]; exact hf j j0 j1
end CV4
end
/-! 7c05.ca -/
section
/-! THE ACTS OF THE CLASS upon the abstract state. -/
/-- post: how it ends (0, or which refusal), the answer, what is told, what is remembered -/
noncomputable def ap_post (N : Int → Int) (A : List (Int → Int)) (a b : Int) : Int × Int × (Int → Int) × List (Int → Int) :=
  tif (¬ ((0 ≤ a ∧ a < N 3) ∧ (0 ≤ b ∧ b < N 3))) (1, 0, N, A) (tif (a = b) (2, 0, N, A) (tif (N 4 = 24) (3, 0, N, A) (0, N 4, nthr N a b ((N (95 + (a * 3 + 0)))) ((N (95 + (a * 3 + 1)))), (N :: A).take 12)))
noncomputable def ap_watch (N : Int → Int) (A : List (Int → Int)) (p l : Int) : Int × Int × (Int → Int) × List (Int → Int) :=
  tif (¬ ((0 ≤ p ∧ p < N 3) ∧ (l = -1 ∨ (0 ≤ l ∧ l < N 0)))) (1, 0, N, A) (0, (N (95 + (p * 3 + 2))), nwat N p l, (N :: A).take 12)
noncomputable def ap_open (lw : Option (List lln)) (N : Int → Int) (A : List (Int → Int)) (l : Int) : Int × Int × (Int → Int) × List (Int → Int) :=
  tif (¬ (0 ≤ l ∧ l < N 4)) (1, 0, N, A) (tif (¬ WTS N l (aout N (hts (N 13)) (aphi lw N (hts (N 13))) l)) (2, 0, N, A) (0, N 9 - (N (119 + (l * 7 + 3))), nopn N l ((N (119 + (l * 7 + 1)))), (N :: A).take 12))
noncomputable def ap_yrs (lw : Option (List lln)) (N : Int → Int) (y : Int) : (Int → Int) × Int := yrs (fun N2 => apsi lw N2 (hts (N 13))) (aout N (hts (N 13)) (aphi lw N (hts (N 13)))) (adp N (hts (N 13)) (aphi lw N (hts (N 13)))) (N, 0) y.toNat
noncomputable def ap_years (lw : Option (List lln)) (N : Int → Int) (A : List (Int → Int)) (y : Int) : Int × Int × (Int → Int) × List (Int → Int) :=
  tif (¬ (1 ≤ y ∧ y ≤ 50 ∧ y ≤ 299 - N 9)) (1, 0, N, A) (0, (ap_yrs lw N y).2, (ap_yrs lw N y).1, (N :: A).take 12)
/-- how the references change: not, or one more is remembered, or one less -/
def STEP (R R1 : gm_R) (M M1 : gm_M) (A A' : List (Int → Int)) : Prop := (R1 = R ∧ M1 42 1 = M 42 1 ∧ A' = A) ∨ (∃ p : Nat, p < 12 ∧ (M 42 1 = (p : Int) ∧ M1 42 1 = ((p : Int) + 1) % 12) ∧ R1 = gm_uR R (44 + 13 * p) 8 (R 3 8) ∧ ∃ N0, A' = (N0 :: A).take 12) ∨ (∃ p : Nat, p < 12 ∧ (M1 42 1 = (p : Int) ∧ M 42 1 = ((p : Int) + 1) % 12) ∧ R1 = gm_uR R 3 8 (R (44 + 13 * p) 8) ∧ ∃ N0, A = N0 :: A')
/-- what one of the law's own methods hands back -/
noncomputable def AQ (n : Nat) (K : gm_K) (R : gm_R) (M : gm_M) (r : Int × Int × (Int → Int) × List (Int → Int)) (lw : Option (List lln)) (im : Option ((Int → Int) × Option (List lln))) (t w : Int) (f : Int → Int) (A : List (Int → Int)) : gm_Q := fun o n1 K1 R1 M1 => (n1 = n ∧ K1 = K ∧ ∀ (k : Nat) (j : Int), 246 ≤ k → M1 k j = M k j) ∧ o = .inl (some (gm_vi r.1)) ∧ (r.1 = 0 → M1 245 0 = gm_w r.2.1) ∧ CLV r.2.2.1 lw r.2.2.2 im t w f M1 ∧ STEP R R1 M M1 A r.2.2.2
/-- behind a call that the law's own method makes: the answer, or which refusal -/
def hQ (l : List (Nat × Int)) (Q : gm_Q) : gm_Q := fun o n1 K1 R1 M1 => (245 ≤ n1 ∧ K1 245 = (2, 1)) ∧ ((∃ v, o = .inl (some (gm_vi v)) ∧ Q (.inl (some (gm_vi 0))) n1 K1 R1 (gm_uM M1 245 0 (gm_w v))) ∨ ∃ i ∈ l, o = .inr i.1 ∧ Q (.inl (some (gm_vi i.2))) n1 K1 R1 M1)
theorem hQ_v {l : List (Nat × Int)} {Q : gm_Q} {n1 : Nat} {K1 : gm_K} {R1 : gm_R} {M1 : gm_M} {v : Int} (hn : 245 ≤ n1) (hK : K1 245 = (2, 1)) (h : Q (.inl (some (gm_vi 0))) n1 K1 R1 (gm_uM M1 245 0 (gm_w v))) : hQ l Q (.inl (some (gm_vi v))) n1 K1 R1 M1 := ⟨⟨hn, hK⟩, Or.inl ⟨v, rfl, h⟩⟩
theorem hQ_x {l : List (Nat × Int)} {Q : gm_Q} {n1 x : Nat} {K1 : gm_K} {R1 : gm_R} {M1 : gm_M} {c : Int} (hn : 245 ≤ n1) (hK : K1 245 = (2, 1)) (hm : (x, c) ∈ l) (h : Q (.inl (some (gm_vi c))) n1 K1 R1 M1) : hQ l Q (.inr x) n1 K1 R1 M1 := ⟨⟨hn, hK⟩, Or.inr ⟨(x, c), hm, rfl, h⟩⟩
theorem hgeo_thr {N : Int → Int} {a b l r : Int} (h0 : 0 ≤ N 4) : hgeo N (nthr N a b l r) := fun i i0 i1 i2 => nthr_o ⟨i0, by omega⟩ (fun e => i2 (Or.inl e)) h0
theorem hgeo_wat {N : Int → Int} {p l : Int} (h0 : 0 ≤ p) : hgeo N (nwat N p l) := fun i i0 i1 i2 => nwat_o (by omega)
section CA5
variable {X : Int → Int} {LX d bc bs n : Nat} {K : gm_K} {R : gm_R} {M : gm_M} {N : Int → Int} {lw : Option (List lln)} {A : List (Int → Int)} {im : Option ((Int → Int) × Option (List lln))} {t w : Int} {f : Int → Int} {a b p l y : Int} {NC : Nat} {C Ln G : Int → Int}
theorem aq_0 {r : Int × Int × (Int → Int) × List (Int → Int)} {c : Int} (hr : r = (c, 0, N, A)) (hc : ¬ c = 0) (hV : CLV N lw A im t w f M) : AQ n K R M r lw im t w f A (.inl (some (gm_vi c))) n K R M := by
  subst hr
  exact ⟨⟨rfl, rfl, fun _ _ _ => rfl⟩, rfl, fun e => absurd e hc, hV, Or.inl ⟨rfl, rfl, rfl⟩⟩
theorem clv_245 {v : Int} (hV : CLV N lw A im t w f M) (hC : CST M) : CLV N lw A im t w f (gm_uM M 245 0 v) := clv_e hV (cst_fr (W := [(245, some 0)]) hC (fr_p fr_0 (Or.inr (by decide))) (by decide +kernel)) (fun k j hk => uM_ne (by unfold cK at hk; omega))
/-- post -/
theorem ca_post (hd : 12 ≤ d) (hbc : 4 ≤ bc) (hbs : 24 ≤ bs) (hE : E0 n K R) (hn : 245 ≤ n) (hK : K 245 = (2, 1)) (hG : GJ N) (hV : CLV N lw A im t w f M) (ha : gm_ir a) (hb : gm_ir b) : gm_Wp X LX d bc bs 152 0 (gm_ent 152 [gm_vr 1, gm_vi a, gm_vi b]) [] n K R M (hQ [(3, 1), (0, 2), (1, 3)] (AQ n K R M (ap_post N A a b) lw im t w f A)) := by
  have h4 := hG.1.1.2.1.2.2.2.1
  refine ac_152 hd hbc hbs hE hV.1.1 hG.1.1 hV.1.2 ha hb (fun h => ?_) (fun h1 h2 h3 => ?_) (fun h1 h2 h3 h5 => ?_) (fun h1 h2 h3 h5 p M2 hp hk hH hC hc h15 hx => ?_)
  · exact hQ_x hn hK (c := 1) (by decide) (aq_0 (tif_t h) (by decide) hV)
  · exact hQ_x hn hK (c := 2) (by decide) (aq_0 ((tif_f (fun hh => hh ⟨h1, h2⟩)).trans (tif_t h3)) (by decide) hV)
  · exact hQ_x hn hK (c := 3) (by decide) (aq_0 ((tif_f (fun hh => hh ⟨h1, h2⟩)).trans ((tif_f h3).trans (tif_t h5))) (by decide) hV)
  · refine hQ_v hn hK ?_
    have er : ap_post N A a b = (0, N 4, nthr N a b ((N (95 + (a * 3 + 0)))) ((N (95 + (a * 3 + 1)))), (N :: A).take 12) := (tif_f (fun hh => hh ⟨h1, h2⟩)).trans ((tif_f h3).trans (tif_f (by omega)))
    rw [er]
    have e1 : ∀ j, j = 1 ∨ j = 2 ∨ j = 6 → M2 1 j = M 1 j := fun j hj => hx 1 j (Or.inl (by decide)) (by decide) (by decide) (by omega)
    have e9 : ∀ (k : Nat) (j : Int), k = 2 ∨ (29 ≤ k ∧ k ≤ 41) ∨ (200 ≤ k) → M2 k j = M k j := fun k j hk => hx k j (by omega) (by omega) (by omega) (by omega)
    have hV2 := clv_up hV hG.1.1 (hgeo_thr h4.1) hC hc hH (Or.inl h15) (fun hn => kfl_e (hV.2.2.1 hn) (e9 200 6 (by omega)) (fun j => e9 205 j (by omega))) e1 (fun k j hk => e9 k j (by omega))
    exact ⟨⟨rfl, rfl, fun k j hk9 => (uM_ne (by omega)).trans (e9 k j (by omega))⟩, rfl, fun _ => uM_at, clv_245 hV2 hC, Or.inr (Or.inl ⟨p, hp, ⟨hk.1, (uM_ne (by decide)).trans hk.2⟩, rfl, N, rfl⟩)⟩
/-- watch -/
theorem ca_watch (hd : 12 ≤ d) (hbc : 4 ≤ bc) (hbs : 24 ≤ bs) (hE : E0 n K R) (hn : 245 ≤ n) (hK : K 245 = (2, 1)) (hG : GJ N) (hV : CLV N lw A im t w f M) (ha : gm_ir p) (hb : gm_ir l) : gm_Wp X LX d bc bs 156 0 (gm_ent 156 [gm_vr 1, gm_vi p, gm_vi l]) [] n K R M (hQ [(3, 1)] (AQ n K R M (ap_watch N A p l) lw im t w f A)) := by
  have h3 := hG.1.1.2.1.2.2.1
  refine ac_156 hd hbc hbs hE hV.1.1 hG.1.1 hV.1.2 ha hb (fun h => ?_) (fun h1 h2 q M2 hp hk hH hC hc hx => ?_)
  · exact hQ_x hn hK (c := 1) (by decide) (aq_0 (tif_t h) (by decide) hV)
  · refine hQ_v hn hK ?_
    have er : ap_watch N A p l = (0, (N (95 + (p * 3 + 2))), nwat N p l, (N :: A).take 12) := tif_f (fun hh => hh ⟨h1, h2⟩)
    rw [er]
    have e9 : ∀ (k : Nat) (j : Int), k = 1 ∨ k = 2 ∨ (29 ≤ k ∧ k ≤ 41) ∨ (200 ≤ k) → M2 k j = M k j := fun k j hk => hx k j (by omega) (by omega)
    have hg : geo N (nwat N p l) := geo_nwat ⟨h1.1, by omega⟩
    have h15 : M2 1 15 = 0 ∨ (M2 1 15 = 1 ∧ ENDS (nwat N p l) (hts (nwat N p l 13)) (aphi lw (nwat N p l) (hts (nwat N p l 13))) M2) := by
      rw [e9 1 15 (Or.inl rfl), hg_hts (hgeo_g hg)]
      exact hV.2.1.imp_right fun h => ⟨h.1, ends_g hg hG.1.1 (nwat_o (by omega)) h.2 (fun k j hk => e9 k j (by omega))⟩
    have hV2 := clv_up hV hG.1.1 (hgeo_g hg) hC hc hH h15 (fun hn => kfl_e (hV.2.2.1 hn) (e9 200 6 (by omega)) (fun j => e9 205 j (by omega))) (fun j _ => e9 1 j (by omega)) (fun k j hk => e9 k j (by omega))
    exact ⟨⟨rfl, rfl, fun k j hk9 => (uM_ne (by omega)).trans (e9 k j (by omega))⟩, rfl, fun _ => uM_at, clv_245 hV2 hC, Or.inr (Or.inl ⟨q, hp, ⟨hk.1, (uM_ne (by decide)).trans hk.2⟩, rfl, N, rfl⟩)⟩
/-- the class's law in what a call sees -/
def LBX (NC : Nat) (C Ln : Int → Int) (lw : Option (List lln)) (M : gm_M) : Prop := ∀ ls, lw = some ls → LB NC C Ln (ls.length : Int) M
theorem fic_of (hL : LBX NC C Ln lw M) (hV : CLV N lw A im t w f M) : FIC NC C Ln lw N (hts (N 13)) M := fun ls e => ⟨hL ls e, hV.2.2.1 (by rw [e]; exact fun hh => nomatch hh)⟩
/-- open -/
theorem ca_open (hd : 24 ≤ d) (hbc : 4 ≤ bc) (hbs : 24 ≤ bs) (hE : E0 n K R) (hn : 245 ≤ n) (hK : K 245 = (2, 1)) (hc : CC n K R NC C Ln G lw) (hL : LBX NC C Ln lw M) (hG : GJ N) (hV : CLV N lw A im t w f M) (hl : gm_ir l) : gm_Wp X LX d bc bs 158 0 (gm_ent 158 [gm_vr 1, gm_vi l]) [] n K R M (hQ [(3, 1), (2, 2)] (AQ n K R M (ap_open lw N A l) lw im t w f A)) := by
  have h4 := hG.1.1.2.1.2.2.2.1
  have ou : ∀ {o9 d9 : Int}, OUTR N (hts (N 13)) (aphi lw N (hts (N 13))) l o9 d9 → o9 = aout N (hts (N 13)) (aphi lw N (hts (N 13))) l := fun h => (OUTR_u h (aout_s l)).1
  refine ac_158 hd hbc hbs hE hV.1.1 hG.1.1 hG.1.2.2 hV.1.2 (flw_a hE hc hG.1.1 hG.1.2.1) (fic_of hL hV) hV.2.1 hl (fun h => ?_) (fun h1 o9 d9 M2 ho hw hf hI h15 he => ?_) (fun h1 o9 d9 p M1 M2 ho hw hf hI h15 he hp hk hH hC hc2 hx => ?_)
  · exact hQ_x hn hK (c := 1) (by decide) (aq_0 (tif_t h) (by decide) hV)
  · refine hQ_x hn hK (c := 2) (by decide) ?_
    rw [ou ho] at hw
    have er : ap_open lw N A l = (2, 0, N, A) := (tif_f (fun hh => hh h1)).trans (tif_t hw)
    rw [er]
    have hC2 : CST M2 := cst_fr hV.1.1.1 hf (by decide +kernel)
    have e1 : ∀ j, j = 1 ∨ j = 2 ∨ j = 6 → M2 1 j = M 1 j := fun j hj => by rcases hj with rfl | rfl | rfl <;> exact fr_j hf (by decide)
    refine ⟨⟨rfl, rfl, fun k j hk9 => hf k j (by intro hm; simp at hm; omega) (by intro hm; simp at hm; omega)⟩, rfl, fun e => absurd (show (2 : Int) = 0 from e) (by decide), ?_, Or.inl ⟨rfl, fr_c hf (by decide), rfl⟩⟩
    exact clv_up hV hG.1.1 hgeo_r hC2 ((cs_fr hf (by decide)).trans hV.1.1.2.1) (his_w hV.1.2 hf (by decide)) (Or.inr ⟨h15, he⟩) (fun hn => by
      cases hlw : lw with
      | none => exact absurd hlw hn
      | some ls => rw [← hlw]; exact (hI ls hlw).2) e1 (fun k j hk => hf k j (by intro hm; simp at hm; omega) (by intro hm; simp at hm; omega))
  · refine hQ_v hn hK ?_
    have hw9 := hw
    rw [ou ho] at hw
    have er : ap_open lw N A l = (0, N 9 - (N (119 + (l * 7 + 3))), nopn N l ((N (119 + (l * 7 + 1)))), (N :: A).take 12) := (tif_f (fun hh => hh h1)).trans (tif_f (fun hh => hh hw))
    rw [er]
    have h14 := logi_lt hG.1.1 hG.1.2.2 h1 hw.2.1
    have hl24 : 0 ≤ l ∧ l < 24 := ⟨h1.1, by omega⟩
    have hg : geo N (nopn N l ((N (119 + (l * 7 + 1))))) := geo_nopn hl24 h14
    have e1 : ∀ j, j = 1 ∨ j = 2 ∨ j = 6 → M2 1 j = M 1 j := fun j hj => (hx 1 j (Or.inl (by decide)) (by decide) (by decide) (by decide)).trans (by rcases hj with rfl | rfl | rfl <;> exact fr_j hf (by decide))
    have e9 : ∀ (k : Nat) (j : Int), (k = 1 ∧ j = 15) ∨ k = 2 ∨ (29 ≤ k ∧ k ≤ 41) ∨ (200 ≤ k) → M2 k j = M1 k j := fun k j hk => hx k j (by omega) (by omega) (by omega) (by omega)
    have h15b : M2 1 15 = 0 ∨ (M2 1 15 = 1 ∧ ENDS (nopn N l ((N (119 + (l * 7 + 1))))) (hts (nopn N l ((N (119 + (l * 7 + 1)))) 13)) (aphi lw (nopn N l ((N (119 + (l * 7 + 1))))) (hts (nopn N l ((N (119 + (l * 7 + 1)))) 13))) M2) := by
      rw [hg_hts (hgeo_g hg)]
      exact Or.inr ⟨(e9 1 15 (by decide)).trans h15, ends_g hg hG.1.1 (nopn_o ⟨by decide, by decide⟩ (by decide) hl24 h14) he (fun k j hk => e9 k j (by omega))⟩
    have hV2 := clv_up hV hG.1.1 (hgeo_g hg) hC hc2 hH h15b (fun hn => by
      cases hlw : lw with
      | none => exact absurd hlw hn
      | some ls => rw [← hlw]; exact kfl_e (hI ls hlw).2 (e9 200 6 (by omega)) (fun j => e9 205 j (by omega))) e1 (fun k j hk => (e9 k j (by omega)).trans (hf k j (by intro hm; simp at hm; omega) (by intro hm; simp at hm; omega)))
    exact ⟨⟨rfl, rfl, fun k j hk9 => (uM_ne (by omega)).trans ((e9 k j (by omega)).trans (hf k j (by intro hm; simp at hm; omega) (by intro hm; simp at hm; omega)))⟩, rfl, fun _ => uM_at, clv_245 hV2 hC, Or.inr (Or.inl ⟨p, hp, ⟨(fr_c hf (by decide)).symm.trans hk.1, (uM_ne (by decide)).trans hk.2⟩, rfl, N, rfl⟩)⟩
/-- years -/
theorem ca_years (hd : 24 ≤ d) (hbc : 4 ≤ bc) (hbs : 24 ≤ bs) (hE : E0 n K R) (hn : 245 ≤ n) (hK : K 245 = (2, 1)) (hc : CC n K R NC C Ln G lw) (hL : LBX NC C Ln lw M) (hG : GJ N) (hV : CLV N lw A im t w f M) (hy : gm_ir y) : gm_Wp X LX d bc bs 161 0 (gm_ent 161 [gm_vr 1, gm_vi y]) [] n K R M (hQ [(0, 1)] (AQ n K R M (ap_years lw N A y) lw im t w f A)) := by
  have hE2 : ∀ p : Nat, p < 12 → E0 n K (gm_uR R (44 + 13 * p) 8 (R 3 8)) := fun p hp => e0h hE hp
  have hc2 : ∀ p : Nat, p < 12 → CC n K (gm_uR R (44 + 13 * p) 8 (R 3 8)) NC C Ln G lw := fun p hp => cc_u hc (by omega) (by omega)
  refine ac_161 (Ψ := fun N2 => apsi lw N2 (hts (N 13))) (o := aout N (hts (N 13)) (aphi lw N (hts (N 13)))) (dd := adp N (hts (N 13)) (aphi lw N (hts (N 13)))) hd hbc hbs hE hV.1.1 hG.1.1 hG.1.2.2 hV.1.2 (flw_a hE hc hG.1.1 hG.1.2.1) (fic_of hL hV) hV.2.1 (fun M M2 hx hI ls e => ?_) (fun p hp => flw_a (hE2 p hp) (hc2 p hp) hG.1.1 hG.1.2.1) (fun p hp N2 hg hN2 => mow_a (hE2 p hp) (hc2 p hp) hG.1.1 hg hN2) hy (fun l _ _ => aout_s l) (fun h => ?_) (fun h p M1 M2 hp hk hH hI h15 h220 he hC hc9 hx hf => ?_)
  · obtain ⟨⟨i1, i2, i3, i4⟩, i5⟩ := hI ls e
    have e9 : ∀ (k : Nat) (j : Int), 199 < k → M2 k j = M k j := fun k j hk => hx k j (Or.inr hk)
    have e7 : M2 247 = M 247 := funext fun j => e9 247 j (by decide)
    have e8 : M2 248 = M 248 := funext fun j => e9 248 j (by decide)
    have e0 : M2 249 = M 249 := funext fun j => e9 249 j (by decide)
    refine ⟨⟨?_, fun j => (e9 247 j (by decide)).trans (i2 j), fun j => (e9 249 j (by decide)).trans (i3 j), (e9 248 3 (by decide)).trans i4⟩, kfl_e i5 (e9 200 6 (by decide)) (fun j => e9 205 j (by decide))⟩
    unfold LM at i1 ⊢
    rw [e7, e8, e0]
    exact i1
  · exact hQ_x hn hK (c := 1) (by decide) (aq_0 (tif_t h) (by decide) hV)
  · refine hQ_v hn hK ?_
    have er : ap_years lw N A y = (0, (ap_yrs lw N y).2, (ap_yrs lw N y).1, (N :: A).take 12) := tif_f (fun hh => hh h)
    rw [er]
    have hh9 : N 9 + (y.toNat : Int) ≤ 299 := by omega
    obtain ⟨-, -, hg, h4, -⟩ := yrs_i (Ψ := fun N2 => apsi lw N2 (hts (N 13))) (o := aout N (hts (N 13)) (aphi lw N (hts (N 13)))) (dd := adp N (hts (N 13)) (aphi lw N (hts (N 13)))) hG.1.1 hG.1.2.2 y.toNat hh9
    have hg : geo N (ap_yrs lw N y).1 := hg
    have h4 : (ap_yrs lw N y).1 4 = N 4 := h4
    have hc9 : cs M2 3 = (ap_yrs lw N y).1 := hc9
    have e1 : ∀ j, j = 1 ∨ j = 2 ∨ j = 6 → M2 1 j = M 1 j := fun j hj => Eq.trans (by rcases hj with rfl | rfl | rfl <;> exact fr_j hf (by decide)) (hx 1 j (Or.inl (by decide)))
    have e9 : ∀ (k : Nat) (j : Int), k = 2 ∨ (29 ≤ k ∧ k ≤ 41) ∨ (201 ≤ k ∧ k ≤ 203) ∨ 246 ≤ k → M2 k j = M k j := fun k j hk => (hf k j (by intro hm; simp at hm; omega) (by intro hm; simp at hm; omega)).trans (hx k j (by omega))
    have h15b : M2 1 15 = 0 ∨ (M2 1 15 = 1 ∧ ENDS (ap_yrs lw N y).1 (hts ((ap_yrs lw N y).1 13)) (aphi lw (ap_yrs lw N y).1 (hts ((ap_yrs lw N y).1 13))) M2) := by
      rw [hg_hts (hgeo_g hg)]
      exact Or.inr ⟨h15, ends_g hg hG.1.1 h4 ⟨h220, he⟩ (fun _ _ _ => rfl)⟩
    have hV2 := clv_up hV hG.1.1 (hgeo_g hg) hC hc9 hH h15b (fun hn => by
      cases hlw : lw with
      | none => exact absurd hlw hn
      | some ls => rw [← hlw]; exact (hI ls hlw).2) e1 (fun k j hk => e9 k j (by omega))
    exact ⟨⟨rfl, rfl, fun k j hk9 => (uM_ne (by omega)).trans (e9 k j (by omega))⟩, rfl, fun _ => uM_at, clv_245 hV2 hC, Or.inr (Or.inl ⟨p, hp, ⟨hk.1, (uM_ne (by decide)).trans hk.2⟩, rfl, N, rfl⟩)⟩
end CA5
end
/-! 7c06.cd -/
section
/-! UNDO, THE IMAGE, BACK, a text of the valley, a law: the class upon the abstract state. -/
/-- what a call on the class itself leaves -/
noncomputable def CQ (n : Nat) (K : gm_K) (M : gm_M) (o9 : gm_O) (RR : gm_R → gm_M → Prop) (N : Int → Int) (lw : Option (List lln)) (A : List (Int → Int)) (im : Option ((Int → Int) × Option (List lln))) (t w : Int) (f : Int → Int) : gm_Q := fun o n1 K1 R1 M1 => (n1 = n ∧ K1 = K ∧ ∀ (k : Nat) (j : Int), 246 ≤ k → M1 k j = M k j) ∧ o = o9 ∧ CLV N lw A im t w f M1 ∧ RR R1 M1
def ap_undo (N : Int → Int) : List (Int → Int) → Int × (Int → Int) × List (Int → Int)
  | [] => (0, N, [])
  | N0 :: A1 => (1, N0, A1)
def ap_back (N : Int → Int) (lw : Option (List lln)) (A : List (Int → Int)) : Option ((Int → Int) × Option (List lln)) → Int × (Int → Int) × Option (List lln) × List (Int → Int)
  | none => (0, N, lw, A)
  | some q => (1, q.1, q.2, [])
noncomputable def ap_valley (f : Int → Int) (t : Int) (N : Int → Int) (A : List (Int → Int)) : Int × Int × (Int → Int) × List (Int → Int) × Int :=
  tif (¬ (v_val f t N).1 = true) (1, 0, N, A, (v_val f t N).2.1) (tif (N 7 = 12) (2, 0, N, A, -1) (0, N 7 + 1, nup (v_val f t N).2.2 7 (N 7 + 1), [], -1))
/-- what the law's own method for a text of the valley hands back -/
noncomputable def VQ (n : Nat) (K : gm_K) (R : gm_R) (M : gm_M) (r : Int × Int × (Int → Int) × List (Int → Int) × Int) (lw : Option (List lln)) (im : Option ((Int → Int) × Option (List lln))) (f : Int → Int) : gm_Q := fun o n1 K1 R1 M1 => (n1 = n ∧ K1 = K ∧ ∀ (k : Nat) (j : Int), 246 ≤ k → M1 k j = M k j) ∧ o = .inl (some (gm_vi r.1)) ∧ (r.1 = 0 → M1 245 0 = gm_w r.2.1) ∧ CLV r.2.2.1 lw r.2.2.2.1 im 0 r.2.2.2.2 f M1 ∧ M1 42 1 = M 42 1 ∧ (R1 = gm_uR R 16 8 (R 3 8) ∨ R1 = gm_uR (gm_uR R 16 8 (R 3 8)) 3 8 ((gm_uR R 16 8 (R 3 8)) 16 8))
section CD6
variable {X : Int → Int} {LX d bc bs n : Nat} {K : gm_K} {R : gm_R} {M M2 : gm_M} {N NI : Int → Int} {lw lI : Option (List lln)} {A : List (Int → Int)} {im : Option ((Int → Int) × Option (List lln))} {t w : Int} {f : Int → Int}
theorem kfl_new {φ : Int → Int → Int → Int} (h : M 200 6 = 1) : KFL N φ M := by
  refine ⟨by rw [h]; decide, fun l r y _ _ _ _ _ _ => Or.inl ?_⟩
  unfold kv
  rw [h]
  rfl
theorem his_nil {nx : Int} (h0 : 0 ≤ nx ∧ nx < 12) (h1 : M 42 1 = nx) (h2 : M 42 2 = 0) : HIS [] M := ⟨nx, h0, h1, h2, by decide, fun i N1 h => by simp at h⟩
theorem his_nx (h : HIS A M) : 0 ≤ M 42 1 ∧ M 42 1 < 12 := by
  obtain ⟨nx, h0, h1, -⟩ := h
  omega
theorem ca_undo (hd : 8 ≤ d) (hE : E0 n K R) (hG : GJ N) (hA : ∀ N1 ∈ A, GJ N1 ∧ hgeo N N1) (hV : CLV N lw A im t w f M) : gm_Wp X LX d bc bs 54 0 (gm_ent 54 [gm_vr 1]) [] n K R M (CQ n K M (.inl (some (gm_vi (ap_undo N A).1))) (fun R1 M1 => STEP R R1 M M1 A (ap_undo N A).2.2) (ap_undo N A).2.1 lw (ap_undo N A).2.2 im t w f) := by
  refine ac_54 hd hE hV.1.1 hG.1.1 hV.1.2 (fun N1 h => (hA N1 h).1.1.1) (fun hA0 M2 hf h15 => ?_) (fun N0 A1 p M2 hA0 hp hk hH hC hc h15 hx => ?_)
  · subst hA0
    have hC2 : CST M2 := cst_fr hV.1.1.1 hf (by decide +kernel)
    exact ⟨⟨rfl, rfl, fun k j hk => hf k j (by intro hm; simp at hm) (by intro hm; simp at hm; omega)⟩, rfl, clv_up hV hG.1.1 hgeo_r hC2 ((cs_fr hf (by decide)).trans hV.1.1.2.1) (his_w hV.1.2 hf (by decide)) (Or.inl h15) (fun hn => kfl_e (hV.2.2.1 hn) (fr_c hf (by decide)) (fun j => fr_c hf (by decide))) (fun j hj => by rcases hj with rfl | rfl | rfl <;> exact fr_j hf (by decide)) (fun k j hk => hf k j (by intro hm; simp at hm) (by intro hm; simp at hm; omega)), Or.inl ⟨rfl, fr_c hf (by decide), rfl⟩⟩
  · subst hA0
    have hg := (hA N0 List.mem_cons_self).2
    have e9 : ∀ (k : Nat) (j : Int), (k = 1 ∧ ¬ j = 15) ∨ k = 2 ∨ (29 ≤ k ∧ k ≤ 41) ∨ (200 ≤ k) → M2 k j = M k j := fun k j hk => hx k j (by omega) (by omega)
    exact ⟨⟨rfl, rfl, fun k j hk => e9 k j (by omega)⟩, rfl, clv_up hV hG.1.1 hg hC hc hH (Or.inl h15) (fun hn => kfl_e (hV.2.2.1 hn) (e9 200 6 (by omega)) (fun j => e9 205 j (by omega))) (fun j hj => e9 1 j (by omega)) (fun k j hk => e9 k j (by omega)), Or.inr (Or.inr ⟨p, hp, hk, rfl, N0, rfl⟩)⟩
theorem ca_image (hd : 5 ≤ d) (hE : E0 n K R) (hG : GJ N) (hV : CLV N lw A im t w f M) : gm_Wp X LX d bc bs 59 0 (gm_ent 59 [gm_vr 1]) [] n K R M (CQ n K M (.inl none) (fun R1 M1 => R1 = gm_uR R 29 8 (R 3 8) ∧ M1 42 1 = M 42 1) N lw A (some (N, lw)) t w f) := by
  refine im_t59 hd hE hV.1.1 hG.1.1 (fun M2 hT hc h6 hx => ?_)
  have e9 : ∀ (k : Nat) (j : Int), ¬ (k = 1 ∧ j = 6) → k < 29 ∨ 41 < k → M2 k j = M k j := hx
  refine ⟨⟨rfl, rfl, fun k j hk => e9 k j (by omega) (by omega)⟩, rfl, ⟨⟨hT, his_fr hV.1.2 (fun x j h1 h2 => e9 x j (by omega) (by omega))⟩, ?_, fun hn => kfl_e (hV.2.2.1 hn) (e9 200 6 (by omega) (by omega)) (fun j => e9 205 j (by omega) (by omega)), Or.inr ⟨h6, N, lw, rfl, hc⟩, ⟨(e9 1 1 (by omega) (by omega)).trans hV.2.2.2.2.1.1, (e9 1 2 (by omega) (by omega)).trans hV.2.2.2.2.1.2⟩, fun j j0 j1 => (e9 2 j (by omega) (by omega)).trans (hV.2.2.2.2.2 j j0 j1)⟩, rfl, e9 42 1 (by omega) (by omega)⟩
  rw [e9 1 15 (by omega) (by omega)]
  exact hV.2.1.imp_right fun h => ⟨h.1, ends_x h.2 (fun k j hk => e9 k j (by omega) (by omega))⟩
theorem ca_back (hd : 8 ≤ d) (hE : E0 n K R) (hG : GJ N) (hI : ∀ NI lI, im = some (NI, lI) → GJ NI) (hV : CLV N lw A im t w f M) : gm_Wp X LX d bc bs 60 0 (gm_ent 60 [gm_vr 1]) [] n K R M (CQ n K M (.inl (some (gm_vi (ap_back N lw A im).1))) (fun R1 M1 => M1 42 1 = M 42 1 ∧ ((im = none ∧ R1 = R) ∨ ((∃ q, im = some q) ∧ R1 = gm_uR R 3 8 (R 29 8)))) (ap_back N lw A im).2.1 (ap_back N lw A im).2.2.1 (ap_back N lw A im).2.2.2 im t w f) := by
  rcases hV.2.2.2.1 with ⟨h6, hi⟩ | ⟨h6, NI, lI, hi, hc⟩
  · subst hi
    exact ac_60 (NI := N) hd hE hV.1.1 hG.1.1 (Or.inl h6) (fun _ => ⟨⟨rfl, rfl, fun _ _ _ => rfl⟩, rfl, hV, rfl, Or.inl ⟨rfl, rfl⟩⟩) (fun h => absurd (h6.symm.trans h) (by decide)) (fun h => absurd (h6.symm.trans h) (by decide))
  · subst hi
    have gi := hI NI lI rfl
    refine ac_60 (NI := NI) hd hE hV.1.1 hG.1.1 (Or.inr h6) (fun h => absurd (h6.symm.trans h) (by decide)) (fun _ => ⟨hc, gi.1.1, gi.1.2.1⟩) (fun _ M2 hT h200 h42 h15 hx => ?_)
    have e9 : ∀ (k : Nat) (j : Int), (k = 1 ∧ ¬ j = 15) ∨ k = 2 ∨ (16 ≤ k ∧ ¬ (201 ≤ k ∧ k ≤ 203) ∧ ¬ (k = 200 ∧ j = 6) ∧ ¬ (k = 42 ∧ j = 2)) → M2 k j = M k j := fun k j hk => hx k j (by omega) (by omega) (by omega) (by omega) (by omega) (by omega) (by omega)
    refine ⟨⟨rfl, rfl, fun k j hk => e9 k j (by omega)⟩, rfl, ⟨⟨hT, his_nil (his_nx hV.1.2) (e9 42 1 (by omega)) h42⟩, Or.inl h15, fun _ => kfl_new h200, Or.inr ⟨(e9 1 6 (by omega)).trans h6, NI, lI, rfl, ?_⟩, ⟨(e9 1 1 (by omega)).trans hV.2.2.2.2.1.1, (e9 1 2 (by omega)).trans hV.2.2.2.2.1.2⟩, fun j j0 j1 => (e9 2 j (by omega)).trans (hV.2.2.2.2.2 j j0 j1)⟩, e9 42 1 (by omega), Or.inr ⟨⟨_, rfl⟩, rfl⟩⟩
    rw [← hc]
    exact cs_same fun x j h1 h2 => e9 x j (by omega)
/-- a text of the valley -/
theorem ca_valley (hd : 14 ≤ d) (hbc : 4 ≤ bc) (hbs : 24 ≤ bs) (hE : E0 n K R) (hn : 245 ≤ n) (hK : K 245 = (2, 1)) (hF : VF f t) (hf : M 2 = f) (h4 : M 214 1 = 4) (h13 : M 213 1 = 14) (hG : GJ N) (hV : CLV N lw A im t w f M) : gm_Wp X LX d bc bs 71 0 (gm_ent 71 [gm_vr 1]) [] n K R M (hQ [(0, 1), (1, 2)] (VQ n K R M (ap_valley f t N A) lw im f)) := by
  have ht := hV.2.2.2.2.1.1
  have hsame : ∀ {M2 : gm_M} {w2 : Int}, (∀ (x : Nat) (j : Int), x < 16 ∨ 28 < x → ¬ x = 214 → ¬ (x = 1 ∧ (j = 1 ∨ j = 2)) → M2 x j = M x j) → CST M2 → cs M2 3 = N → M2 1 1 = 0 → M2 1 2 = w2 → CLV N lw A im 0 w2 f M2 := fun {M2 w2} hx hC hc h1 h2 => by
    have e9 : ∀ (k : Nat) (j : Int), (k = 1 ∧ ¬ (j = 1 ∨ j = 2)) ∨ k = 2 ∨ (29 ≤ k ∧ ¬ k = 214) → M2 k j = M k j := fun k j hk => hx k j (by omega) (by omega) (by omega)
    refine ⟨⟨hg_ti hG.1.1 hgeo_r hV.1.1 hC hc (fun k j h1 h2 => e9 k j (by omega)), his_fr hV.1.2 (fun x j h1 h2 => e9 x j (by omega))⟩, ?_, fun hn => kfl_e (hV.2.2.1 hn) (e9 200 6 (by omega)) (fun j => e9 205 j (by omega)), ?_, ⟨h1, h2⟩, fun j j0 j1 => (e9 2 j (by omega)).trans (hV.2.2.2.2.2 j j0 j1)⟩
    · rw [e9 1 15 (by omega)]
      exact hV.2.1.imp_right fun h => ⟨h.1, ends_x h.2 (fun k j hk => e9 k j (by omega))⟩
    · rw [e9 1 6 (by omega)]
      refine hV.2.2.2.1.imp_right fun ⟨h1, NI, lI, h2, h3⟩ => ⟨h1, NI, lI, h2, ?_⟩
      rw [← h3]
      exact cs_same fun x j h1 h2 => e9 x j (by omega)
  refine vy_71 hd hbc hbs hE hV.1.1.1 (by rw [hf, ht]; exact hF) h4 h13 hV.1.1.2.1 hG.1 (fun M2 hx hC hc hv h2 h1 => ?_) (fun M2 hx hC hc hv h7 h2 h1 => ?_) (fun M2 hv h7 hGI hT h200 h42 h15 h2 h1 hx => ?_)
  · rw [hf, ht] at hv h2
    have er : ap_valley f t N A = (1, 0, N, A, (v_val f t N).2.1) := tif_t hv
    rw [er]
    exact hQ_x hn hK (c := 1) (by decide) ⟨⟨rfl, rfl, fun k j hk => hx k j (by omega) (by omega) (by omega)⟩, rfl, fun e => absurd (show (1 : Int) = 0 from e) (by decide), hsame hx hC hc h1 h2, hx 42 1 (by omega) (by omega) (by omega), Or.inl rfl⟩
  · rw [hf, ht] at hv
    have er : ap_valley f t N A = (2, 0, N, A, -1) := (tif_f (fun hh => hh hv)).trans (tif_t h7)
    rw [er]
    exact hQ_x hn hK (c := 2) (by decide) ⟨⟨rfl, rfl, fun k j hk => hx k j (by omega) (by omega) (by omega)⟩, rfl, fun e => absurd (show (2 : Int) = 0 from e) (by decide), hsame hx hC hc h1 h2, hx 42 1 (by omega) (by omega) (by omega), Or.inl rfl⟩
  · rw [hf, ht] at hv hT
    have er : ap_valley f t N A = (0, N 7 + 1, nup (v_val f t N).2.2 7 (N 7 + 1), [], -1) := (tif_f (fun hh => hh hv)).trans (tif_f (by omega))
    rw [er]
    have e9 : ∀ (k : Nat) (j : Int), (k = 1 ∧ ¬ (j = 1 ∨ j = 2 ∨ j = 15)) ∨ k = 2 ∨ (29 ≤ k ∧ ¬ k = 214 ∧ ¬ (201 ≤ k ∧ k ≤ 203) ∧ ¬ (k = 200 ∧ j = 6) ∧ ¬ (k = 42 ∧ j = 2)) → M2 k j = M k j := fun k j hk => hx k j (by omega) (by omega) (by omega) (by omega) (by omega) (by omega) (by omega) (by omega)
    have hV2 : CLV (nup (v_val f t N).2.2 7 (N 7 + 1)) lw [] im 0 (-1) f M2 := by
      refine ⟨⟨hT, his_nil (his_nx hV.1.2) (e9 42 1 (by omega)) h42⟩, Or.inl h15, fun _ => kfl_new h200, ?_, ⟨h1, h2⟩, fun j j0 j1 => (e9 2 j (by omega)).trans (hV.2.2.2.2.2 j j0 j1)⟩
      rw [e9 1 6 (by omega)]
      refine hV.2.2.2.1.imp_right fun ⟨h1, NI, lI, h2, h3⟩ => ⟨h1, NI, lI, h2, ?_⟩
      rw [← h3]
      exact cs_same fun x j h1 h2 => e9 x j (by omega)
    exact hQ_v hn hK ⟨⟨rfl, rfl, fun k j hk => (uM_ne (by omega)).trans (e9 k j (by omega))⟩, rfl, fun _ => uM_at, clv_245 hV2 hT.1, (uM_ne (by decide)).trans (e9 42 1 (by omega)), Or.inr rfl⟩
/-- the codes of a right law -/
theorem scds_b {B : Nat} : ∀ (ls : List lst) (h k : Nat), shg B ls h k → ∀ c ∈ scds ls, -17 ≤ c ∧ c ≤ 999 := by
  intro ls
  induction ls with
  | nil => intro h k _ c hc; cases hc
  | cons s r ih =>
    intro h k hs c hc
    have hc : c ∈ scd s ++ scds r := hc
    have pb : ∀ {ps : List (Int × Int)}, (∀ p ∈ ps, pwf p) → c ∈ ps.map pcd → -17 ≤ c ∧ c ≤ 999 := fun {ps} hp hm => by
      obtain ⟨p, hp2, rfl⟩ := List.mem_map.mp hm
      have := hp p hp2
      unfold pwf at this
      unfold pcd
      split <;> omega
    rcases List.mem_append.mp hc with hc | hc
    · unfold scd at hc
      rcases hs with ⟨h1, -⟩ | ⟨h1, -⟩ | ⟨h1, -⟩
      · rcases h1 with ⟨h0, hw⟩ | h0 | h0
        · rw [if_pos h0] at hc
          rcases List.mem_append.mp hc with hc | hc
          · exact pb hw.1 hc
          · rcases List.mem_cons.mp hc with rfl | hc
            · decide
            · rcases List.mem_append.mp hc with hc | hc
              · exact pb hw.2.1 hc
              · rw [List.mem_singleton.mp hc]
                split <;> decide
        · rw [h0] at hc
          have hc : c ∈ [(-2 - 8 : Int)] := hc
          rw [List.mem_singleton.mp hc]
          decide
        · rw [h0] at hc
          have hc : c ∈ [(-2 - 9 : Int)] := hc
          rw [List.mem_singleton.mp hc]
          decide
      · rw [h1] at hc
        have hc : c ∈ [(-15 : Int)] := hc
        rw [List.mem_singleton.mp hc]
        decide
      · rcases h1 with h1 | h1
        · rw [h1] at hc
          have hc : c ∈ [(-16 : Int)] := hc
          rw [List.mem_singleton.mp hc]
          decide
        · rw [h1] at hc
          have hc : c ∈ [(-17 : Int)] := hc
          rw [List.mem_singleton.mp hc]
          decide
    · rcases hs with ⟨-, -, h2⟩ | ⟨-, -, h2⟩ | ⟨-, -, h2⟩
      · exact ih _ _ h2 c hc
      · exact ih _ _ h2 c hc
      · exact ih _ _ h2 c hc
theorem lb_of {ls : List lln} {us : Int} (hW : LW ls) (h8 : M 248 0 = 12 ∧ M 248 1 = 4 ∧ M 248 3 = (ls.length : Int)) (hu : 0 ≤ us ∧ us ≤ 400) (hc : cdl ls us (M 249) (M 247)) : LB us.toNat (M 247) (M 249) (ls.length : Int) M := by
  have h12 := hW.1
  refine ⟨⟨⟨h8.1, h8.2.1, by omega, by omega⟩, fun i i0 i1 => ?_, fun k k0 k1 => ?_⟩, fun _ => rfl, fun _ => rfl, h8.2.2⟩
  · obtain ⟨k, x, t, j, a1, a2, a3⟩ := hc.2.1 i i0 (by omega)
    exact scds_b t 0 1 ((hW.2 k x a1).2.2 t a2) _ (List.mem_of_getElem? a3)
  · rw [h8.2.2] at k1
    obtain ⟨u, rfl⟩ : ∃ u : Nat, k = (u : Int) := ⟨k.toNat, by omega⟩
    obtain ⟨⟨b1, b2, b3⟩, b4, b5⟩ := hc.2.2 u (by omega)
    exact ⟨b4, b5, ⟨b1, b2, by omega⟩⟩
end CD6
end
/-! 7c07.en -/
section
/-! END: of both. -/
section EN7
variable {X : Int → Int} {LX d bc bs n : Nat} {K : gm_K} {R : gm_R} {M : gm_M} {Q : gm_Q} {x : Int}
theorem ce_21 (hE : E0 n K R) (hx : gm_ir x) (ht : gm_ir (M 1 1)) (q0 : x < 0 → Q (.inl (some (gm_vi 0))) n K R (M)) (q1 : ¬ x < 0 → x ≤ (M 1 1) → Q (.inl (some (gm_vi 1))) n K R (gm_uM M 1 1 x)) (q2 : ¬ x < 0 → ¬ x ≤ (M 1 1) → Q (.inl (some (gm_vi 0))) n K R (M)) : gm_Wp X LX d bc bs 21 0 (gm_ent 21 [gm_vr 1, gm_vi x]) [] n K R M Q := by
  refine gm_sz (gm_p_load (pc := 0) (i := .iload_n 1) (sr := 0) (j := 1) (by decide +kernel) rfl rfl rfl) ?_
  refine fw_if (cc := .lt) (pc := 1) (off := 11) (by decide +kernel) (by decide) hx (fun h1 => ?_) (fun h1 => ?_)
  · have h1 : x < 0 := h1
    refine gm_sz (gm_p_const (pc := 12) (i := .iconst 0) (v := gm_vi 0) (by decide +kernel) (by decide +kernel)) ?_
    exact gm_r_int (pc := 13) (by decide +kernel) (Or.inr ⟨(by decide +kernel), Or.inl rfl⟩) (q0 h1)
  · have h1 : ¬ x < 0 := h1
    refine gm_sz (gm_p_load (pc := 4) (i := .iload_n 1) (sr := 0) (j := 1) (by decide +kernel) rfl rfl rfl) ?_
    refine gm_sz (gm_p_load (pc := 5) (i := .aload_n 0) (sr := 2) (j := 0) (by decide +kernel) rfl rfl rfl) ?_
    refine gm_sz (fw_gi (pc := 6) (ix := 13) (ci := 0) (j := 1) (x := M 1 1) (by decide +kernel) (e0k hE (k := 1) (c := 0) (by decide +kernel)) (by decide +kernel) (by decide +kernel) rfl) ?_
    refine fw_ic (cc := .le) (pc := 9) (off := 5) (by decide +kernel) (by decide) hx ht (fun h9 => ?_) (fun h9 => ?_)
    · have h9 : x ≤ (M 1 1) := h9
      refine gm_sz (gm_p_load (pc := 14) (i := .aload_n 0) (sr := 2) (j := 0) (by decide +kernel) rfl rfl rfl) ?_
      refine gm_sz (gm_p_load (pc := 15) (i := .iload_n 1) (sr := 0) (j := 1) (by decide +kernel) rfl rfl rfl) ?_
      refine gm_sz (fw_pi (pc := 16) (ix := 13) (ci := 0) (j := 1) (M' := gm_uM M 1 1 x) (by decide +kernel) (e0k hE (k := 1) (c := 0) (by decide +kernel)) (by decide +kernel) (by decide +kernel) (by decide +kernel) rfl) ?_
      refine gm_sz (gm_p_const (pc := 19) (i := .iconst 1) (v := gm_vi 1) (by decide +kernel) (by decide +kernel)) ?_
      exact gm_r_int (pc := 20) (by decide +kernel) (Or.inr ⟨(by decide +kernel), Or.inr rfl⟩) (q1 h1 h9)
    · have h9 : ¬ x ≤ (M 1 1) := h9
      refine gm_sz (gm_p_const (pc := 12) (i := .iconst 0) (v := gm_vi 0) (by decide +kernel) (by decide +kernel)) ?_
      exact gm_r_int (pc := 13) (by decide +kernel) (Or.inr ⟨(by decide +kernel), Or.inl rfl⟩) (q2 h1 h9)
theorem re_240 (hE : E0 n K R) (hx : gm_ir x) (ht : gm_ir (M 226 8)) (q0 : x < 0 → Q (.inl (some (gm_vi 0))) n K R (gm_uM M 226 0 0)) (q1 : ¬ x < 0 → x ≤ (M 226 8) → Q (.inl (some (gm_vi 1))) n K R (gm_uM (gm_uM M 226 0 0) 226 8 x)) (q2 : ¬ x < 0 → ¬ x ≤ (M 226 8) → Q (.inl (some (gm_vi 0))) n K R (gm_uM M 226 0 0)) : gm_Wp X LX d bc bs 240 0 (gm_ent 240 [gm_vr 226, gm_vi x]) [] n K R M Q := by
  refine gm_sz (gm_p_load (pc := 0) (i := .aload_n 0) (sr := 2) (j := 0) (by decide +kernel) rfl rfl rfl) ?_
  refine gm_sz (gm_p_const (pc := 1) (i := .iconst 0) (v := gm_vi 0) (by decide +kernel) (by decide +kernel)) ?_
  refine gm_sz (fw_pi (pc := 2) (ix := 3) (ci := 11) (j := 0) (M' := gm_uM M 226 0 0) (by decide +kernel) (e0k hE (k := 226) (c := 11) (by decide +kernel)) (by decide +kernel) (by decide +kernel) (by decide +kernel) rfl) ?_
  refine gm_sz (gm_p_load (pc := 5) (i := .iload_n 1) (sr := 0) (j := 1) (by decide +kernel) rfl rfl rfl) ?_
  refine fw_if (cc := .lt) (pc := 6) (off := 11) (by decide +kernel) (by decide) hx (fun h6 => ?_) (fun h6 => ?_)
  · have h6 : x < 0 := h6
    refine gm_sz (gm_p_const (pc := 17) (i := .iconst 0) (v := gm_vi 0) (by decide +kernel) (by decide +kernel)) ?_
    exact gm_r_int (pc := 18) (by decide +kernel) (Or.inr ⟨(by decide +kernel), Or.inl rfl⟩) (q0 h6)
  · have h6 : ¬ x < 0 := h6
    refine gm_sz (gm_p_load (pc := 9) (i := .iload_n 1) (sr := 0) (j := 1) (by decide +kernel) rfl rfl rfl) ?_
    refine gm_sz (gm_p_load (pc := 10) (i := .aload_n 0) (sr := 2) (j := 0) (by decide +kernel) rfl rfl rfl) ?_
    refine gm_sz (fw_gi (pc := 11) (ix := 103) (ci := 11) (j := 8) (x := M 226 8) (by decide +kernel) (e0k hE (k := 226) (c := 11) (by decide +kernel)) (by decide +kernel) (by decide +kernel) (uM_ne (by omega))) ?_
    refine fw_ic (cc := .le) (pc := 14) (off := 5) (by decide +kernel) (by decide) hx ht (fun h14 => ?_) (fun h14 => ?_)
    · have h14 : x ≤ (M 226 8) := h14
      refine gm_sz (gm_p_load (pc := 19) (i := .aload_n 0) (sr := 2) (j := 0) (by decide +kernel) rfl rfl rfl) ?_
      refine gm_sz (gm_p_load (pc := 20) (i := .iload_n 1) (sr := 0) (j := 1) (by decide +kernel) rfl rfl rfl) ?_
      refine gm_sz (fw_pi (pc := 21) (ix := 103) (ci := 11) (j := 8) (M' := gm_uM (gm_uM M 226 0 0) 226 8 x) (by decide +kernel) (e0k hE (k := 226) (c := 11) (by decide +kernel)) (by decide +kernel) (by decide +kernel) (by decide +kernel) rfl) ?_
      refine gm_sz (gm_p_const (pc := 24) (i := .iconst 1) (v := gm_vi 1) (by decide +kernel) (by decide +kernel)) ?_
      exact gm_r_int (pc := 25) (by decide +kernel) (Or.inr ⟨(by decide +kernel), Or.inr rfl⟩) (q1 h6 h14)
    · have h14 : ¬ x ≤ (M 226 8) := h14
      refine gm_sz (gm_p_const (pc := 17) (i := .iconst 0) (v := gm_vi 0) (by decide +kernel) (by decide +kernel)) ?_
      exact gm_r_int (pc := 18) (by decide +kernel) (Or.inr ⟨(by decide +kernel), Or.inl rfl⟩) (q2 h6 h14)
end EN7
end
/-! 7c08.cl -/
section
/-! A LAW, FEED, END: the class upon the abstract state. -/
/-- a text of a law: how it ends, the answer, the law, what is remembered, the wrong byte -/
noncomputable def ap_law (f : Int → Int) (t : Int) (lw : Option (List lln)) (A : List (Int → Int)) : Int × Int × Option (List lln) × List (Int → Int) × Int :=
  tif (¬ (g_law f t).1 = true) (1, 0, lw, A, (g_law f t).2) (0, (g_law f t).2, some (s_law f t), [], -1)
/-- the new law's cells -/
def NL (ls : List lln) (K1 : gm_K) (R1 : gm_R) (M1 : gm_M) : Prop := ∃ us : Int, (0 ≤ us ∧ us ≤ 400) ∧ (K1 246 = (14, 0) ∧ K1 247 = (0, us.toNat) ∧ K1 248 = (6, 0) ∧ K1 249 = (0, 48)) ∧ (R1 3 8 = 246 ∧ R1 246 0 = 248 ∧ R1 246 1 = 247 ∧ R1 248 2 = 249) ∧ LB us.toNat (M1 247) (M1 249) (ls.length : Int) M1 ∧ LC ls (M1 247) (M1 249) ∧ LW ls
noncomputable def LQ (K : gm_K) (R : gm_R) (M : gm_M) (r : Int × Int × Option (List lln) × List (Int → Int) × Int) (N : Int → Int) (im : Option ((Int → Int) × Option (List lln))) (f : Int → Int) : gm_Q := fun o n1 K1 R1 M1 => o = .inl (some (gm_vi r.1)) ∧ (r.1 = 0 → M1 245 0 = gm_w r.2.1) ∧ CLV N r.2.2.1 r.2.2.2.1 im 0 r.2.2.2.2 f M1 ∧ M1 42 1 = M 42 1 ∧ (∀ c, c ≤ 245 → K1 c = K c) ∧ ((r.1 = 1 ∧ n1 = 245 ∧ ∀ c j, c ≤ 245 → R1 c j = R c j) ∨ (r.1 = 0 ∧ n1 = 249 ∧ (∀ c j, c ≤ 245 → ¬ (c = 3 ∧ j = 8) → R1 c j = R c j) ∧ ∃ ls, r.2.2.1 = some ls ∧ NL ls K1 R1 M1))
noncomputable def ap_feed (a : Int → Int) (t : Int) (f : Int → Int) : Int × Int × (Int → Int) := tif (381 ≤ t) (-1, t, f) (t + 20, t + 20, fdc a t 20 f)
noncomputable def ap_end (x t : Int) : Int × Int := tif (x < 0 ∨ t < x) (0, t) (1, x)
section CL8
variable {X : Int → Int} {LX d bc bs n : Nat} {K : gm_K} {R : gm_R} {M M2 : gm_M} {N : Int → Int} {lw : Option (List lln)} {A : List (Int → Int)} {im : Option ((Int → Int) × Option (List lln))} {t w x : Int} {f a : Int → Int}
theorem nl_245 {ls : List lln} {K1 : gm_K} {R1 : gm_R} {M1 : gm_M} {v : Int} (h : NL ls K1 R1 M1) : NL ls K1 R1 (gm_uM M1 245 0 v) := by
  obtain ⟨us, h1, h2, h3, h4, h5, h6⟩ := h
  have e7 : gm_uM M1 245 0 v 247 = M1 247 := funext fun j => uM_ne (by omega)
  have e8 : gm_uM M1 245 0 v 248 = M1 248 := funext fun j => uM_ne (by omega)
  have e9 : gm_uM M1 245 0 v 249 = M1 249 := funext fun j => uM_ne (by omega)
  refine ⟨us, h1, h2, h3, ?_, by rw [e7, e9]; exact h5, h6⟩
  unfold LB LM at h4 ⊢
  rw [e7, e8, e9]
  exact h4
theorem ca_law (hd : 26 ≤ d) (hbc : 4 ≤ bc) (hbs : 454 ≤ bs) (hF : gm_Fx p2_O 245 K R M) (hf : M 2 = f) (hG : GJ N) (hV : CLV N lw A im t w f M) : gm_Wp X LX d bc bs 123 0 (gm_ent 123 [gm_vr 1]) [] 245 K R M (hQ [(0, 1)] (LQ K R M (ap_law f t lw A) N im f)) := by
  have ht := hV.2.2.2.2.1.1
  have hK : K 245 = (2, 1) := (hF.1 245 (2, 1) (by decide +kernel)).2.2
  have h11 : 0 ≤ M 1 1 ∧ M 1 1 ≤ 400 := ((gm_tyr_s hF (show gm_tyr p2_O 1 1 1 = some (0, 400) by decide +kernel)).2 1 (Int.le_refl _) (Int.le_refl _)).2
  have b0 : 0 ≤ t := by rw [← ht]; exact h11.1
  refine cl_123 (N := N) hd hbc hbs hF ⟨hV.1.1.1, hV.1.1.2.1⟩ hG.1 h11 (fun K2 R2 M2 hk hr hx hg h2 h1 => ?_) (fun us K2 R2 M2 hg hk hr hk2 hr2 hm hu hcd hT h200 h42 h15 h2 h1 hx => ?_)
  · rw [hf, ht] at hg h2
    have er : ap_law f t lw A = (1, 0, lw, A, (g_law f t).2) := tif_t hg
    rw [er]
    have e9 : ∀ (k : Nat) (j : Int), k ≤ 214 → ¬ (k = 1 ∧ (j = 1 ∨ j = 2)) → M2 k j = M k j := fun k j hk h => hx k j (by omega) (by unfold kxw; omega) h
    have e9b : ∀ (k : Nat) (j : Int), 220 ≤ k → k ≤ 245 → M2 k j = M k j := fun k j hk h => hx k j h (by unfold kxw; omega) (by omega)
    have hC : CST M2 := fun q hq => by
      have e := of_decide_eq_true (List.all_eq_true.mp (show cstL.all (fun q => decide (q.1 ≤ 245 ∧ ¬ (q.1 = 216 ∨ q.1 = 218 ∨ q.1 = 219 ∨ (q.1 = 215 ∧ q.2.1 = 4) ∨ (q.1 = 217 ∧ q.2.1 = 3)) ∧ ¬ (q.1 = 1 ∧ (q.2.1 = 1 ∨ q.2.1 = 2)))) = true by decide +kernel) q hq)
      exact (hx q.1 q.2.1 e.1 e.2.1 e.2.2).trans (hV.1.1.1 q hq)
    refine hQ_x (Nat.le_refl _) ((hk 245 (Nat.le_refl _)).trans hK) (c := 1) (by decide) ⟨rfl, fun e => absurd (show (1 : Int) = 0 from e) (by decide), ⟨⟨hg_ti hG.1.1 hgeo_r hV.1.1 hC ((cs_same fun x j h1 h2 => e9 x j (by omega) (by omega)).trans hV.1.1.2.1) (fun k j h1 h2 => e9 k j (by omega) (by omega)), his_fr hV.1.2 (fun x j h1 h2 => e9 x j (by omega) (by omega))⟩, ?_, fun hn => kfl_e (hV.2.2.1 hn) (e9 200 6 (by omega) (by omega)) (fun j => e9 205 j (by omega) (by omega)), ?_, ⟨h1, h2⟩, fun j j0 j1 => (e9 2 j (by omega) (by omega)).trans (hV.2.2.2.2.2 j j0 j1)⟩, e9 42 1 (by omega) (by omega), hk, Or.inl ⟨rfl, rfl, hr⟩⟩
    · rw [e9 1 15 (by omega) (by omega)]
      exact hV.2.1.imp_right fun h => ⟨h.1, ends_x h.2 (fun k j hk => e9b k j (by omega) (by omega))⟩
    · rw [e9 1 6 (by omega) (by omega)]
      refine hV.2.2.2.1.imp_right fun ⟨h1, NI, lI, h2, h3⟩ => ⟨h1, NI, lI, h2, ?_⟩
      rw [← h3]
      exact cs_same fun x j h1 h2 => e9 x j (by omega) (by omega)
  · rw [hf, ht] at hg hm hcd
    have er : ap_law f t lw A = (0, (g_law f t).2, some (s_law f t), [], -1) := tif_f (fun hh => hh hg)
    rw [hf, ht, er]
    have hW := s_law_w b0 hg
    have hlen := s_law_len hg
    have e9 : ∀ (k : Nat) (j : Int), (k = 1 ∧ j = 6) ∨ k = 2 ∨ (29 ≤ k ∧ k ≤ 41) ∨ (k = 42 ∧ j = 1) → M2 k j = M k j := fun k j hk => hx k j (by omega) (by unfold lwr kxw; omega)
    have hV2 : CLV N (some (s_law f t)) [] im 0 (-1) f M2 := by
      refine ⟨⟨hT, his_nil (his_nx hV.1.2) (e9 42 1 (by omega)) h42⟩, Or.inl h15, fun _ => kfl_new h200, ?_, ⟨h1, h2⟩, fun j j0 j1 => (e9 2 j (by omega)).trans (hV.2.2.2.2.2 j j0 j1)⟩
      rw [e9 1 6 (by omega)]
      refine hV.2.2.2.1.imp_right fun ⟨h1, NI, lI, h2, h3⟩ => ⟨h1, NI, lI, h2, ?_⟩
      rw [← h3]
      exact cs_same fun x j h1 h2 => e9 x j (by omega)
    have hnl : NL (s_law f t) K2 R2 M2 := ⟨us, hu, hk2, hr2, lb_of hW ⟨hm.1, hm.2.1, hm.2.2.trans hlen.symm⟩ hu (hcd hW.1), (hcd hW.1).1, hW⟩
    exact hQ_v (by decide) ((hk 245 (Nat.le_refl _)).trans hK) ⟨rfl, fun _ => uM_at, clv_245 hV2 hT.1, (uM_ne (by decide)).trans (e9 42 1 (by omega)), hk, Or.inr ⟨rfl, rfl, hr, _, rfl, nl_245 hnl⟩⟩
theorem fe_x {M : gm_M} {T : Int} {F : Int → Int} {k : Nat} {j : Int} (h : ¬ (k = 1 ∧ j = 1)) (h2 : ¬ k = 2) : fe M T F k j = M k j := by unfold fe; rw [if_neg h, if_neg h2]
theorem fe_2 {M : gm_M} {T : Int} {F : Int → Int} {j : Int} : fe M T F 2 j = F j := by unfold fe; rw [if_neg (by omega), if_pos rfl]
theorem fe_11 {M : gm_M} {T : Int} {F : Int → Int} : fe M T F 1 1 = T := by unfold fe; rw [if_pos ⟨rfl, rfl⟩]
theorem fe_self {M : gm_M} : fe M (M 1 1) (M 2) = M := by
  funext b j
  by_cases h1 : b = 1 ∧ j = 1
  · obtain ⟨rfl, rfl⟩ := h1
    exact fe_11
  · by_cases h2 : b = 2
    · subst h2
      exact fe_2
    · exact fe_x h1 h2
theorem clv_tape {t2 : Int} {F f2 : Int → Int} (hV : CLV N lw A im t w f M) (hF : ∀ j, 0 ≤ j → j < 400 → F j = f2 j) : CLV N lw A im t2 w f2 (fe M t2 F) := by
  have e9 : ∀ (k : Nat) (j : Int), ¬ (k = 1 ∧ j = 1) → ¬ k = 2 → fe M t2 F k j = M k j := fun k j h1 h2 => fe_x h1 h2
  obtain ⟨⟨hT, hH⟩, h15, hk, hi, ht, hf⟩ := hV
  have hC : CST (fe M t2 F) := fun q hq => by
    have e := of_decide_eq_true (List.all_eq_true.mp (show cstL.all (fun q => decide (¬ q.1 = 1 ∧ ¬ q.1 = 2)) = true by decide +kernel) q hq)
    exact (e9 q.1 q.2.1 (fun h => e.1 h.1) e.2).trans (hT.1 q hq)
  refine ⟨⟨⟨hC, (cs_same fun x j h1 h2 => e9 x j (by omega) (by omega)).trans hT.2.1, fun y y0 y1 => ?_, fun l r l0 l1 r0 r1 => ?_⟩, his_fr hH (fun x j h1 h2 => e9 x j (by omega) (by omega))⟩, ?_, fun hn => kfl_e (hk hn) (e9 200 6 (by omega) (by omega)) (fun j => e9 205 j (by omega) (by omega)), ?_, ⟨fe_11, (e9 1 2 (by omega) (by omega)).trans ht.2⟩, fun j j0 j1 => fe_2.trans (hF j j0 j1)⟩
  · rw [e9 201 y (by omega) (by omega), e9 203 y (by omega) (by omega)]
    exact hT.2.2.1 y y0 y1
  · rw [e9 202 _ (by omega) (by omega)]
    exact hT.2.2.2 l r l0 l1 r0 r1
  · rw [e9 1 15 (by omega) (by omega)]
    exact h15.imp_right fun h => ⟨h.1, ends_x h.2 (fun k j hk => e9 k j (by omega) (by omega))⟩
  · rw [e9 1 6 (by omega) (by omega)]
    refine hi.imp_right fun ⟨h1, NI, lI, h2, h3⟩ => ⟨h1, NI, lI, h2, ?_⟩
    rw [← h3]
    exact cs_same fun x j h1 h2 => e9 x j (by omega) (by omega)
theorem ca_feed (hd : 1 ≤ d) (hE : E0 n K R) (ht0 : 0 ≤ t ∧ t ≤ 400) (hV : CLV N lw A im t w f M) : gm_Wp X LX d bc bs 19 0 (gm_ent 19 [gm_vr 1, gm_vi (a 0), gm_vi (a 1), gm_vi (a 2), gm_vi (a 3), gm_vi (a 4)]) [] n K R M (CQ n K M (.inl (some (gm_vi (ap_feed a t f).1))) (fun R1 M1 => R1 = R ∧ M1 42 1 = M 42 1) N lw A im (ap_feed a t f).2.1 w (ap_feed a t f).2.2) := by
  have ht := hV.2.2.2.2.1.1
  have q := fd_c19 (X := X) (LX := LX) (d := d) (bc := bc) (bs := bs) (n := n) (K := K) (R := R) (a := a) (M := M) (t := M 1 1) (f := M 2) (Q := CQ n K M (.inl (some (gm_vi (ap_feed a t f).1))) (fun R1 M1 => R1 = R ∧ M1 42 1 = M 42 1) N lw A im (ap_feed a t f).2.1 w (ap_feed a t f).2.2) hd (e0k hE (k := 1) (c := 0) (by decide +kernel)) (e0a hE (k := 2) (q := (1, 400)) (by decide +kernel)) (e0r hE (k := 1) (j := 0) (r := 2) (by decide +kernel)) (by rw [ht]; exact ht0) (fun h => ?_) (fun h => ?_)
  · rw [fe_self] at q
    exact q
  · rw [ht] at h
    have er : ap_feed a t f = (-1, t, f) := tif_t h
    rw [er, fe_self]
    exact ⟨⟨rfl, rfl, fun _ _ _ => rfl⟩, rfl, hV, rfl, rfl⟩
  · rw [ht] at h
    have er : ap_feed a t f = (t + 20, t + 20, fdc a t 20 f) := tif_f (by omega)
    rw [er, ht]
    refine ⟨⟨rfl, rfl, fun k j hk => fe_x (by omega) (by omega)⟩, rfl, clv_tape hV (fun j j0 j1 => ?_), rfl, fe_x (by omega) (by omega)⟩
    show fdc a t 20 (M 2) j = fdc a t 20 f j
    unfold fdc
    by_cases h9 : t ≤ j ∧ j < t + 20
    · rw [if_pos h9, if_pos h9]
    · rw [if_neg h9, if_neg h9]
      exact hV.2.2.2.2.2 j j0 j1
theorem ca_end (hE : E0 n K R) (hx : gm_ir x) (ht0 : 0 ≤ t ∧ t ≤ 400) (hV : CLV N lw A im t w f M) : gm_Wp X LX d bc bs 21 0 (gm_ent 21 [gm_vr 1, gm_vi x]) [] n K R M (CQ n K M (.inl (some (gm_vi (ap_end x t).1))) (fun R1 M1 => R1 = R ∧ M1 42 1 = M 42 1) N lw A im (ap_end x t).2 w f) := by
  have ht := hV.2.2.2.2.1.1
  have hs : ∀ {y : Int}, gm_uM M 1 1 y = fe M y (M 2) := fun {y} => by
    funext b j
    unfold gm_uM fe
    by_cases h1 : b = 1 ∧ j = 1
    · rw [if_pos h1, if_pos h1]
    · rw [if_neg h1, if_neg h1]
      by_cases h2 : b = 2
      · rw [if_pos h2, h2]
      · rw [if_neg h2]
  refine ce_21 hE hx (by rw [ht]; exact ⟨by omega, by omega⟩) (fun h => ?_) (fun h1 h2 => ?_) (fun h1 h2 => ?_)
  · have er : ap_end x t = (0, t) := tif_t (Or.inl h)
    rw [er]
    exact ⟨⟨rfl, rfl, fun _ _ _ => rfl⟩, rfl, hV, rfl, rfl⟩
  · rw [ht] at h2
    have er : ap_end x t = (1, x) := tif_f (by omega)
    rw [er, hs]
    exact ⟨⟨rfl, rfl, fun k j hk => fe_x (by omega) (by omega)⟩, rfl, clv_tape hV hV.2.2.2.2.2, rfl, fe_x (by omega) (by omega)⟩
  · rw [ht] at h2
    have er : ap_end x t = (0, t) := tif_t (Or.inr (by omega))
    rw [er]
    exact ⟨⟨rfl, rfl, fun _ _ _ => rfl⟩, rfl, hV, rfl, rfl⟩
end CL8
end
/-! 7c09.ra -/
section
/-! THE ACTS OF THE REFERENCE upon the abstract state. -/
noncomputable def RQ (n : Nat) (K : gm_K) (R : gm_R) (r : Int × Int × (Int → Int) × List (Int → Int)) (lw : Option (List lln)) (im : Option ((Int → Int) × Option (List lln))) (t w : Int) (f : Int → Int) : gm_Q := fun o n1 K1 R1 M1 => (n1 = n ∧ K1 = K ∧ R1 = R) ∧ (∃ v, o = .inl (some (gm_vi v)) ∧ (r.1 = 0 → v = r.2.1)) ∧ M1 226 0 = r.1 ∧ RFV r.2.2.1 lw r.2.2.2 im t w f M1
/-- a call on the reference that cannot be refused -/
noncomputable def RC (n : Nat) (K : gm_K) (R : gm_R) (o9 : gm_O) (N : Int → Int) (lw : Option (List lln)) (A : List (Int → Int)) (im : Option ((Int → Int) × Option (List lln))) (t w : Int) (f : Int → Int) : gm_Q := fun o n1 K1 R1 M1 => (n1 = n ∧ K1 = K ∧ R1 = R) ∧ o = o9 ∧ RFV N lw A im t w f M1
noncomputable def RV (n : Nat) (K : gm_K) (R : gm_R) (c v : Int) (N : Int → Int) (lw : Option (List lln)) (A : List (Int → Int)) (im : Option ((Int → Int) × Option (List lln))) (t w : Int) (f : Int → Int) : gm_Q := fun o n1 K1 R1 M1 => (n1 = n ∧ K1 = K ∧ R1 = R) ∧ (∃ v2, o = .inl (some (gm_vi v2)) ∧ (c = 0 → v2 = v)) ∧ M1 226 0 = c ∧ RFV N lw A im t w f M1
section RA9
variable {X : Int → Int} {LX d bc bs n : Nat} {K : gm_K} {R : gm_R} {M M2 : gm_M} {N N2 : Int → Int} {lw : Option (List lln)} {A : List (Int → Int)} {im : Option ((Int → Int) × Option (List lln))} {t w : Int} {f a : Int → Int} {x y l p : Int}
theorem lawr_cg {W W2 : Int → Int} (h : LAWR lw W) (e : ∀ j, (395 ≤ j ∨ j = 8) → j < 1244 → W2 j = W j) : LAWR lw W2 := by
  refine ⟨fun hn => (e 8 (Or.inr rfl) (by decide)).trans (h.1 hn), fun ls hs => ?_⟩
  obtain ⟨⟨a1, a2⟩, a3, a4, a5⟩ := h.2 ls hs
  have h12 := a3.1
  refine ⟨⟨(e 8 (Or.inr rfl) (by decide)).trans a1, (e 395 (Or.inl (by decide)) (by decide)).trans a2⟩, a3, fun k x hx => ?_, fun k x hx => ?_⟩
  · have hk := (List.getElem?_eq_some_iff.mp hx).1
    obtain ⟨b0, b1, b2, b3⟩ := a4 k x hx
    obtain ⟨c0, c1⟩ := a5 k x hx
    rw [e (396 + 4 * (k : Int)) (by omega) (by omega), e (396 + 4 * (k : Int) + 1) (by omega) (by omega), e (396 + 4 * (k : Int) + 2) (by omega) (by omega), e (396 + 4 * (k : Int) + 3) (by omega) (by omega)]
    refine ⟨b0, b1, b2, fun t ht => ⟨(b3 t ht).1, fun j v hv => ?_⟩⟩
    have := c1 t ht j v hv
    rw [e _ (by omega) (by omega), e _ (by omega) (by omega)]
    exact (b3 t ht).2 j v hv
  · have hk := (List.getElem?_eq_some_iff.mp hx).1
    rw [e (396 + 4 * (k : Int) + 2) (by omega) (by omega)]
    exact a5 k x hx
theorem lawr_b {W : Int → Int} (h : LAWR lw W) : ∀ ls, lw = some ls → ∀ k : Nat, k < ls.length → 0 ≤ W (396 + 4 * (k : Int) + 2) := fun ls hs k hk => by
  obtain ⟨x, hx⟩ := lq_at (ls := ls) hk
  exact ((h.2 ls hs).2.2.2 k x hx).1
theorem lawg_of {W : Int → Int} (h : LAWR lw W) (hT : jT fun j => W (395 + j)) : LAWG lw W := ⟨h.1, fun ls hs => by
  obtain ⟨⟨a1, a2⟩, a3, a4, a5⟩ := h.2 ls hs
  exact ⟨a3, a4, lg_of a3 a4 a1 a2 hT⟩⟩
theorem nsb_geo (hg : hgeo N N2) (hN : NR N) (hS : NSb 6 N) : NSb 6 N2 := fun s s0 s1 => by
  have h2 := hN.2.1.1
  have e2 := hg 2 (by decide) (by decide) (by decide)
  rw [e2] at s1
  obtain ⟨a, b⟩ := hS s s0 s1
  refine ⟨by rw [hg (15 + 7 * s) (by omega) (by omega) (by omega)]; exact a, fun l l0 l1 => ?_⟩
  rw [hg (15 + 7 * s + 1 + l) (by omega) (by omega) (by omega)]
  exact b l l0 l1
theorem ns_geo (hg : geo N N2) (hN : NR N) (hS : NS N) : NS N2 := by
  have h2 := hN.2.1.1
  have h0 := hN.1.1
  exact ns_same hS (hg.1 0 (by decide) (by decide) (by decide) (by decide)) (hg.1 2 (by decide) (by decide) (by decide) (by decide)) (fun j j0 j1 => hg.1 j (by omega) (by omega) (by omega) (by omega)) h2.2 h0.2
/-- what lies beside the reference's state -/
theorem rfv_fr {W : List (Nat × Option Int)} (hV : RFV N lw A im t w f M) (hf : fr W M M2) (hw : W.all (fun w => !(w.1 == 227) && (!(w.1 == 228) && (!(w.1 == 230) && (!(w.1 == 231) && (!(w.1 == 234) && (!(w.1 == 235) && !(w.1 == 226 && (w.2 == none || (w.2 == some 5 || (w.2 == some 6 || (w.2 == some 8 || (w.2 == some 13 || w.2 == some 26))))))))))))= true) : RFV N lw A im t w f M2 := by
  refine rfv_e hV (fun k j hk => ?_)
  refine hf k j (fun hm => ?_) (fun hm => ?_)
  · have := List.all_eq_true.mp hw _ hm
    unfold rK at hk
    simp only [Bool.and_eq_true, Bool.not_eq_true', beq_eq_false_iff_ne, ne_eq, Bool.and_eq_false_imp, beq_iff_eq, Bool.or_eq_false_iff] at this
    obtain ⟨g1, g2, g3, g4, g5, g6, g7⟩ := this
    have g7 : ¬ k = 226 := fun e => absurd (g7 e).1 (by simp)
    omega
  · have := List.all_eq_true.mp hw _ hm
    unfold rK at hk
    simp only [Bool.and_eq_true, Bool.not_eq_true', beq_eq_false_iff_ne, ne_eq, Bool.and_eq_false_imp, beq_iff_eq, Bool.or_eq_false_iff, Option.some.injEq] at this
    obtain ⟨g1, g2, g3, g4, g5, g6, g7⟩ := this
    rcases hk with h | h | h | h | h | h | ⟨h, h2⟩
    · exact g1 h
    · exact g2 h
    · exact g3 h
    · exact g4 h
    · exact g5 h
    · exact g6 h
    · obtain ⟨-, c1, c2, c3, c4, c5⟩ := g7 h
      omega
theorem rq_0 {r : Int × Int × (Int → Int) × List (Int → Int)} {c v : Int} (hr : r = (c, 0, N, A)) (hc : ¬ c = 0) (h0 : M 226 0 = c) (hV : RFV N lw A im t w f M) : RQ n K R r lw im t w f (.inl (some (gm_vi v))) n K R M := by
  subst hr
  exact ⟨⟨rfl, rfl, rfl⟩, ⟨v, rfl, fun e => absurd e hc⟩, h0, hV⟩
theorem rr_post {b : Int} {a : Int} (hd : 6 ≤ d) (hE : E0 n K R) (hG : GJ N) (hV : RFV N lw A im t w f M) (ha : gm_ir a) (hb : gm_ir b) : gm_Wp X LX d bc bs 315 0 (gm_ent 315 [gm_vr 226, gm_vi a, gm_vi b]) [] n K R M (RQ n K R (ap_post N A a b) lw im t w f) := by
  have h4 := hG.1.1.2.1.2.2.2.1
  refine ra_315 hd hE hV.1.1 hG.1.1 hV.1.2.2 ha hb (fun h M2 hf h0 => ?_) (fun h1 h2 h3 M2 hf h0 => ?_) (fun h1 h2 h3 h5 M2 hf h0 => ?_) (fun h1 h2 h3 h5 M2 hf hH hw h395 h8 h0 => ?_)
  · exact rq_0 (tif_t h) (by decide) h0 (rfv_fr hV hf (by decide))
  · exact rq_0 ((tif_f (fun hh => hh ⟨h1, h2⟩)).trans (tif_t h3)) (by decide) h0 (rfv_fr hV hf (by decide))
  · exact rq_0 ((tif_f (fun hh => hh ⟨h1, h2⟩)).trans ((tif_f h3).trans (tif_t h5))) (by decide) h0 (rfv_fr hV hf (by decide))
  · have er : ap_post N A a b = (0, N 4, nthr N a b ((N (95 + (a * 3 + 0)))) ((N (95 + (a * 3 + 1)))), (N :: A).take 12) := (tif_f (fun hh => hh ⟨h1, h2⟩)).trans ((tif_f h3).trans (tif_f (by omega)))
    rw [er]
    exact ⟨⟨rfl, rfl, rfl⟩, ⟨_, rfl, fun _ => rfl⟩, h0, rfv_up hV hG.1.1 (hgeo_thr h4.1) hw h395 h8 hH (kfr_e hV.2.1 (fr_j hf (by decide)) (fun j => fr_c hf (by decide))) (fun j hj => by rcases hj with rfl | rfl | rfl <;> exact fr_j hf (by decide)) (fun k j hk => by rcases hk with rfl | rfl | rfl <;> exact fr_c hf (by decide)) (lawr_b hV.1.2.1)⟩
theorem rr_watch (hd : 6 ≤ d) (hE : E0 n K R) (hG : GJ N) (hV : RFV N lw A im t w f M) (ha : gm_ir p) (hb : gm_ir l) : gm_Wp X LX d bc bs 317 0 (gm_ent 317 [gm_vr 226, gm_vi p, gm_vi l]) [] n K R M (RQ n K R (ap_watch N A p l) lw im t w f) := by
  refine ra_317 hd hE hV.1.1 hG.1.1 hV.1.2.2 ha hb (fun h M2 hf h0 => ?_) (fun h1 h2 M2 hf hH hw h395 h8 h0 => ?_)
  · exact rq_0 (tif_t h) (by decide) h0 (rfv_fr hV hf (by decide))
  · have er : ap_watch N A p l = (0, (N (95 + (p * 3 + 2))), nwat N p l, (N :: A).take 12) := tif_f (fun hh => hh ⟨h1, h2⟩)
    rw [er]
    exact ⟨⟨rfl, rfl, rfl⟩, ⟨_, rfl, fun _ => rfl⟩, h0, rfv_up hV hG.1.1 (hgeo_wat h1.1) hw h395 h8 hH (kfr_e hV.2.1 (fr_j hf (by decide)) (fun j => fr_c hf (by decide))) (fun j hj => by rcases hj with rfl | rfl | rfl <;> exact fr_j hf (by decide)) (fun k j hk => by rcases hk with rfl | rfl | rfl <;> exact fr_c hf (by decide)) (lawr_b hV.1.2.1)⟩
theorem rr_open (hd : 20 ≤ d) (hE : E0 n K R) (hT : jT fun j => M 227 (395 + j)) (hS6 : NSb 6 N) (hG : GJ N) (hV : RFV N lw A im t w f M) (hl : gm_ir l) : gm_Wp X LX d bc bs 318 0 (gm_ent 318 [gm_vr 226, gm_vi l]) [] n K R M (RQ n K R (ap_open lw N A l) lw im t w f) := by
  have h4 := hG.1.1.2.1.2.2.2.1
  have hLG := lawg_of hV.1.2.1 hT
  refine ra_318 (φ := aphi lw N (hts (N 13))) (FI := FIR (M 227) lw N (hts (N 13))) (o := aout N (hts (N 13)) (aphi lw N (hts (N 13)))) (dd := adp N (hts (N 13)) (aphi lw N (hts (N 13)))) hd hE hV.1.1 hG.1.1 hG.1.2.2 hV.1.2.2 (flr_a hE hLG hgeo_r hG.1.1 hG.1.1 hS6) ⟨hV.2.1, fun _ _ => rfl⟩ hl (fun _ => aout_s l) (fun h M2 hf h0 => ?_) (fun h1 hw M2 hf hI h0 => ?_) (fun h1 hw M1 M2 hI hf1 hf hH hws h395 h8 h0 => ?_)
  · exact rq_0 (tif_t h) (by decide) h0 (rfv_fr hV hf (by decide))
  · have er : ap_open lw N A l = (2, 0, N, A) := (tif_f (fun hh => hh h1)).trans (tif_t hw)
    refine rq_0 er (by decide) h0 ?_
    exact rfv_up hV hG.1.1 hgeo_r ((congrArg ws (funext fun j => fr_c hf (by decide))).trans hV.1.1.1) (fun j _ => fr_c hf (by decide)) (fr_c hf (by decide)) (hisr_w hV.1.2.2 hf (by decide)) hI.1 (fun j hj => by rcases hj with rfl | rfl | rfl <;> exact fr_j hf (by decide)) (fun k j hk => by rcases hk with rfl | rfl | rfl <;> exact fr_c hf (by decide)) (lawr_b hV.1.2.1)
  · have er : ap_open lw N A l = (0, N 9 - (N (119 + (l * 7 + 3))), nopn N l ((N (119 + (l * 7 + 1)))), (N :: A).take 12) := (tif_f (fun hh => hh h1)).trans (tif_f (fun hh => hh hw))
    rw [er]
    have h14 := logi_lt hG.1.1 hG.1.2.2 h1 hw.2.1
    have hg : geo N (nopn N l ((N (119 + (l * 7 + 1))))) := geo_nopn ⟨h1.1, by omega⟩ h14
    exact ⟨⟨rfl, rfl, rfl⟩, ⟨_, rfl, fun _ => rfl⟩, h0, rfv_up hV hG.1.1 (hgeo_g hg) hws h395 h8 hH (kfr_e hI.1 (fr_j hf1 (by decide)) (fun j => fr_c hf1 (by decide))) (fun j hj => by rcases hj with rfl | rfl | rfl <;> exact fr_j hf (by decide)) (fun k j hk => by rcases hk with rfl | rfl | rfl <;> exact fr_c hf (by decide)) (lawr_b hV.1.2.1)⟩
theorem rr_years (hd : 22 ≤ d) (hE : E0 n K R) (hT : jT fun j => M 227 (395 + j)) (hS6 : NSb 6 N) (hG : GJ N) (hV : RFV N lw A im t w f M) (hy : gm_ir y) : gm_Wp X LX d bc bs 320 0 (gm_ent 320 [gm_vr 226, gm_vi y]) [] n K R M (RQ n K R (ap_years lw N A y) lw im t w f) := by
  have hLG := lawg_of hV.1.2.1 hT
  refine ra_320 (φ := aphi lw N (hts (N 13))) (FI := FIR (M 227) lw N (hts (N 13))) (Ψ := fun N2 => apsi lw N2 (hts (N 13))) (o := aout N (hts (N 13)) (aphi lw N (hts (N 13)))) (dd := adp N (hts (N 13)) (aphi lw N (hts (N 13)))) hd hE hV.1.1 hG.1.1 hG.1.2.2 (fun N2 hg hN2 => flr_a hE hLG (hgeo_g hg) hG.1.1 hN2 (nsb_geo (hgeo_g hg) hG.1.1 hS6)) ⟨hV.2.1, fun _ _ => rfl⟩ (fun N2 hg hN2 => mor_a hE hLG hN2) (fun M1 M2 hI hf h395 h8 => ⟨kfr_e hI.1 (fr_c hf (by decide)) (fun j => fr_c hf (by decide)), fun j hj => by
    rcases hj with hj | rfl
    · exact (h395 j hj).trans (hI.2 j (Or.inl hj))
    · exact h8.trans (hI.2 8 (Or.inr rfl))⟩) (fun l _ _ => aout_s l) hV.1.2.2 hy (fun h M2 hf h0 => ?_) (fun h M2 hf hI hH hws h395 h8 h0 => ?_)
  · exact rq_0 (tif_t h) (by decide) h0 (rfv_fr hV hf (by decide))
  · have er : ap_years lw N A y = (0, (ap_yrs lw N y).2, (ap_yrs lw N y).1, (N :: A).take 12) := tif_f (fun hh => hh h)
    rw [er]
    have hh9 : N 9 + (y.toNat : Int) ≤ 299 := by omega
    obtain ⟨-, -, hg, -⟩ := yrs_i (Ψ := fun N2 => apsi lw N2 (hts (N 13))) (o := aout N (hts (N 13)) (aphi lw N (hts (N 13)))) (dd := adp N (hts (N 13)) (aphi lw N (hts (N 13)))) hG.1.1 hG.1.2.2 y.toNat hh9
    have hg : geo N (ap_yrs lw N y).1 := hg
    exact ⟨⟨rfl, rfl, rfl⟩, ⟨_, rfl, fun _ => rfl⟩, h0, rfv_up hV hG.1.1 (hgeo_g hg) hws h395 h8 hH hI.1 (fun j hj => by rcases hj with rfl | rfl | rfl <;> exact fr_j hf (by decide)) (fun k j hk => by rcases hk with rfl | rfl | rfl <;> exact fr_c hf (by decide)) (lawr_b hV.1.2.1)⟩
theorem rr_undo (hE : E0 n K R) (hG : GJ N) (hA : ∀ N1 ∈ A, GJ N1 ∧ hgeo N N1) (hV : RFV N lw A im t w f M) : gm_Wp X LX d bc bs 238 0 (gm_ent 238 [gm_vr 226]) [] n K R M (RC n K R (.inl (some (gm_vi (ap_undo N A).1))) (ap_undo N A).2.1 lw (ap_undo N A).2.2 im t w f) := by
  refine ud_c238 hE hV.1.2.2 (fun hA0 => ?_) (fun N0 A1 M2 hA0 hH hws h8 h395 h0 hf => ?_)
  · subst hA0
    exact ⟨⟨rfl, rfl, rfl⟩, rfl, rfv_fr hV (W := [(226, some 0)]) (fr_p fr_0 (Or.inr (by decide))) (by decide)⟩
  · subst hA0
    exact ⟨⟨rfl, rfl, rfl⟩, rfl, rfv_up hV hG.1.1 (hA N0 List.mem_cons_self).2 hws h395 h8 hH (kfr_e hV.2.1 (fr_j hf (by decide)) (fun j => fr_c hf (by decide))) (fun j hj => by rcases hj with rfl | rfl | rfl <;> exact fr_j hf (by decide)) (fun k j hk => by rcases hk with rfl | rfl | rfl <;> exact fr_c hf (by decide)) (lawr_b hV.1.2.1)⟩
theorem rr_image (hE : E0 n K R) (hV : RFV N lw A im t w f M) : gm_Wp X LX d bc bs 236 0 (gm_ent 236 [gm_vr 226]) [] n K R M (RC n K R (.inl none) N lw A (some (N, lw)) t w f) := by
  refine ig_c236 hE (fun M2 hf h228 h5 h0 => ?_)
  have e7 : M2 227 = M 227 := funext fun j => fr_c hf (by decide)
  refine ⟨⟨rfl, rfl, rfl⟩, rfl, ⟨⟨by rw [e7]; exact hV.1.1.1, fun y y0 y1 => by rw [fr_c hf (by decide)]; exact hV.1.1.2 y y0 y1⟩, by rw [e7]; exact hV.1.2.1, by rw [e7]; exact hisr_w hV.1.2.2 hf (by decide)⟩, kfr_e hV.2.1 (fr_j hf (by decide)) (fun j => fr_c hf (by decide)), Or.inr ⟨h5, N, lw, rfl, (ws_ext (fun j j0 j1 => h228 j j0 (by omega))).trans hV.1.1.1, lawr_cg hV.1.2.1 (fun j hj h1 => h228 j (by omega) h1)⟩, ⟨(fr_j hf (by decide)).trans hV.2.2.2.1.1, (fr_j hf (by decide)).trans hV.2.2.2.1.2⟩, fun j j0 j1 => (fr_c hf (by decide)).trans (hV.2.2.2.2 j j0 j1)⟩
theorem hisr_nil {g8 : Int} (h : M 226 6 = 0) : HISR [] g8 M := ⟨⟨h, by decide⟩, fun i N1 hi => by simp at hi⟩
theorem kfr_new {φ : Int → Int → Int → Int} (h : M 226 26 = -1) (hb : ∀ j, 0 ≤ j → j < 29700 → 0 ≤ M 235 j ∧ M 235 j ≤ 31) : KFR N φ M := ⟨by rw [h]; decide, hb, fun r y h0 => by rw [h] at h0; exact absurd h0 (by decide)⟩
theorem rr_back (hd : 1 ≤ d) (hE : E0 n K R) (hV : RFV N lw A im t w f M) : gm_Wp X LX d bc bs 237 0 (gm_ent 237 [gm_vr 226]) [] n K R M (RC n K R (.inl (some (gm_vi (ap_back N lw A im).1))) (ap_back N lw A im).2.1 (ap_back N lw A im).2.2.1 (ap_back N lw A im).2.2.2 im t w f) := by
  rcases hV.2.2.1 with ⟨h5, hi⟩ | ⟨h5, NI, lI, hi, hc, hl⟩
  · subst hi
    exact bk_c237 (NI := N) hd hE (Or.inl h5) (fun h => absurd (h5.symm.trans h) (by decide)) (fun _ => ⟨⟨rfl, rfl, rfl⟩, rfl, rfv_fr hV (W := [(226, some 0)]) (fr_p fr_0 (Or.inr (by decide))) (by decide)⟩) (fun h => absurd (h5.symm.trans h) (by decide))
  · subst hi
    refine bk_c237 (NI := NI) hd hE (Or.inr h5) (fun _ => hc) (fun h => absurd (h5.symm.trans h) (by decide)) (fun _ M2 hf hT h227 h1244 h26 h6 h0 => ?_)
    have e8 : M2 228 = M 228 := funext fun j => fr_c hf (by decide)
    exact ⟨⟨rfl, rfl, rfl⟩, rfl, ⟨hT, lawr_cg hl (fun j hj h1 => h227 j hj h1), hisr_nil h6⟩, kfr_new h26 (fun j j0 j1 => by rw [fr_c hf (by decide)]; exact hV.2.1.2.1 j j0 j1), Or.inr ⟨(fr_j hf (by decide)).trans h5, NI, lI, rfl, by rw [e8]; exact hc, by rw [e8]; exact hl⟩, ⟨(fr_j hf (by decide)).trans hV.2.2.2.1.1, (fr_j hf (by decide)).trans hV.2.2.2.1.2⟩, fun j j0 j1 => (fr_c hf (by decide)).trans (hV.2.2.2.2 j j0 j1)⟩
theorem rr_valley (hd : 14 ≤ d) (hE : E0 n K R) (hF : VF f t) (hf9 : M 231 = f) (hG : GJ N) (hV : RFV N lw A im t w f M) : gm_Wp X LX d bc bs 242 0 (gm_ent 242 [gm_vr 226]) [] n K R M (RV n K R (ap_valley f t N A).1 (ap_valley f t N A).2.1 (ap_valley f t N A).2.2.1 lw (ap_valley f t N A).2.2.2.1 im 0 (ap_valley f t N A).2.2.2.2 f) := by
  have hsame : ∀ {M2 : gm_M} {w2 : Int}, fr [(229, none), (226, some 13), (226, some 0), (226, some 10), (226, some 8), (226, some 15), (226, some 9), (226, some 11), (227, none)] M M2 → (∀ j, 0 ≤ j → j < 1244 → M2 227 j = M 227 j) → M2 226 13 = w2 → M2 226 8 = 0 → RFV N lw A im 0 w2 f M2 := fun {M2 w2} hf h227 h13 h8 => by
    have e8 : M2 228 = M 228 := funext fun j => fr_c hf (by decide)
    refine ⟨⟨⟨(ws_ext (fun j j0 j1 => h227 j j0 (by omega))).trans hV.1.1.1, fun y y0 y1 => by rw [fr_c hf (by decide)]; exact hV.1.1.2 y y0 y1⟩, lawr_cg hV.1.2.1 (fun j hj h1 => h227 j (by omega) h1), by rw [h227 8 (by decide) (by decide)]; exact hisr_w hV.1.2.2 hf (by decide)⟩, kfr_e hV.2.1 (fr_j hf (by decide)) (fun j => fr_c hf (by decide)), ?_, ⟨h8, h13⟩, fun j j0 j1 => (fr_c hf (by decide)).trans (hV.2.2.2.2 j j0 j1)⟩
    rw [fr_j (j := 5) hf (by decide), e8]
    exact hV.2.2.1
  refine rv_242 hd hE hF hf9 hV.2.2.2.1.1 hV.1.1 hG.1 (fun M2 hf h227 hv h13 h8 h0 => ?_) (fun M2 hf h227 hv h7 h13 h8 h0 => ?_) (fun M2 hf hv h7 hGI hT hB h13 h8 h0 h6 h26 => ?_)
  · have er : ap_valley f t N A = (1, 0, N, A, (v_val f t N).2.1) := tif_t hv
    rw [er]
    exact ⟨⟨rfl, rfl, rfl⟩, ⟨_, rfl, fun e => absurd (show (1 : Int) = 0 from e) (by decide)⟩, h0, hsame hf h227 h13 h8⟩
  · have er : ap_valley f t N A = (2, 0, N, A, -1) := (tif_f (fun hh => hh hv)).trans (tif_t h7)
    rw [er]
    exact ⟨⟨rfl, rfl, rfl⟩, ⟨_, rfl, fun e => absurd (show (2 : Int) = 0 from e) (by decide)⟩, h0, hsame hf h227 h13 h8⟩
  · have er : ap_valley f t N A = (0, N 7 + 1, nup (v_val f t N).2.2 7 (N 7 + 1), [], -1) := (tif_f (fun hh => hh hv)).trans (tif_f (by omega))
    rw [er]
    have e8 : M2 228 = M 228 := funext fun j => fr_c hf (by decide)
    refine ⟨⟨rfl, rfl, rfl⟩, ⟨_, rfl, fun _ => rfl⟩, h0, ⟨hT, lawr_cg hV.1.2.1 (fun j hj h1 => ?_), hisr_nil h6⟩, kfr_new h26 (fun j j0 j1 => by rw [fr_c hf (by decide)]; exact hV.2.1.2.1 j j0 j1), ?_, ⟨h8, h13⟩, fun j j0 j1 => (fr_c hf (by decide)).trans (hV.2.2.2.2 j j0 j1)⟩
    · rcases hj with hj | rfl
      · exact hB.1 j hj
      · exact hB.2
    · rw [fr_j (j := 5) hf (by decide), e8]
      exact hV.2.2.1
theorem rr_law (hd : 36 ≤ d) (hE : E0 n K R) (hF : VF f t) (hf9 : M 231 = f) (hV : RFV N lw A im t w f M) : gm_Wp X LX d bc bs 283 0 (gm_ent 283 [gm_vr 226]) [] n K R M (RV n K R (ap_law f t lw A).1 (ap_law f t lw A).2.1 N (ap_law f t lw A).2.2.1 (ap_law f t lw A).2.2.2.1 im 0 (ap_law f t lw A).2.2.2.2 f) := by
  refine rl_283 hd hE hF hf9 hV.2.2.2.1.1 hV.1.1 (fun M2 hf h227 hg h13 h8 h0 => ?_) (fun M2 hf hg hLR h395 h1 hT h13 h8 h0 h6 h26 => ?_)
  · have er : ap_law f t lw A = (1, 0, lw, A, (g_law f t).2) := tif_t hg
    rw [er]
    have e8 : M2 228 = M 228 := funext fun j => fr_c hf (by decide)
    refine ⟨⟨rfl, rfl, rfl⟩, ⟨_, rfl, fun e => absurd (show (1 : Int) = 0 from e) (by decide)⟩, h0, ⟨⟨(ws_ext (fun j j0 j1 => h227 j (by omega))).trans hV.1.1.1, fun y y0 y1 => by rw [fr_c hf (by decide)]; exact hV.1.1.2 y y0 y1⟩, lawr_cg hV.1.2.1 (fun j hj h1 => h227 j h1), by rw [h227 8 (by decide)]; exact hisr_w hV.1.2.2 hf (by decide)⟩, kfr_e hV.2.1 (fr_j hf (by decide)) (fun j => fr_c hf (by decide)), ?_, ⟨h8, h13⟩, fun j j0 j1 => (fr_c hf (by decide)).trans (hV.2.2.2.2 j j0 j1)⟩
    rw [fr_j (j := 5) hf (by decide), e8]
    exact hV.2.2.1
  · have er : ap_law f t lw A = (0, (g_law f t).2, some (s_law f t), [], -1) := tif_f (fun hh => hh hg)
    rw [er]
    have e8 : M2 228 = M 228 := funext fun j => fr_c hf (by decide)
    have hW := s_law_w hF.1.1 hg
    obtain ⟨r1, r2⟩ := hLR hW.1
    refine ⟨⟨rfl, rfl, rfl⟩, ⟨_, rfl, fun _ => rfl⟩, h0, ⟨hT, ⟨(fun e => nomatch e), fun ls e => ?_⟩, hisr_nil h6⟩, kfr_new h26 (fun j j0 j1 => by rw [fr_c hf (by decide)]; exact hV.2.1.2.1 j j0 j1), ?_, ⟨h8, h13⟩, fun j j0 j1 => (fr_c hf (by decide)).trans (hV.2.2.2.2 j j0 j1)⟩
    · cases e
      exact ⟨⟨h1, h395.trans (s_law_len hg).symm⟩, hW, r1, r2⟩
    · rw [fr_j (j := 5) hf (by decide), e8]
      exact hV.2.2.1
end RA9
end
/-! 7c10.rf -/
section
/-! FEED AND END of the reference upon the abstract state. -/
section RF10
variable {X : Int → Int} {LX d bc bs n : Nat} {K : gm_K} {R : gm_R} {M M2 : gm_M} {N : Int → Int} {lw : Option (List lln)} {A : List (Int → Int)} {im : Option ((Int → Int) × Option (List lln))} {t t2 w x : Int} {f f2 a : Int → Int}
theorem rfv_tape (hV : RFV N lw A im t w f M) (h8 : M2 226 8 = t2) (hf : ∀ j, 0 ≤ j → j < 400 → M2 231 j = f2 j) (e : ∀ k j, rK k j → ¬ k = 231 → ¬ (k = 226 ∧ j = 8) → M2 k j = M k j) : RFV N lw A im t2 w f2 M2 := by
  obtain ⟨⟨hT, hL, hH⟩, hk, hi, ht, -⟩ := hV
  have e7 : M2 227 = M 227 := funext fun j => e 227 j (by unfold rK; omega) (by omega) (by omega)
  have e8 : M2 228 = M 228 := funext fun j => e 228 j (by unfold rK; omega) (by omega) (by omega)
  refine ⟨⟨⟨by rw [e7]; exact hT.1, fun y y0 y1 => ?_⟩, by rw [e7]; exact hL, ?_⟩, kfr_e hk (e 226 26 (by unfold rK; omega) (by omega) (by omega)) (fun j => e 235 j (by unfold rK; omega) (by omega) (by omega)), ?_, ⟨h8, ?_⟩, hf⟩
  · rw [e 234 y (by unfold rK; omega) (by omega) (by omega)]
    exact hT.2 y y0 y1
  · rw [e7]
    exact hisr_e hH (e 226 6 (by unfold rK; omega) (by omega) (by omega)) (fun j => e 230 j (by unfold rK; omega) (by omega) (by omega))
  · rw [e 226 5 (by unfold rK; omega) (by omega) (by omega), e8]
    exact hi
  · rw [e 226 13 (by unfold rK; omega) (by omega) (by omega)]; exact ht.2
theorem ff_x {T : Int} {F V : Int → Int} {k : Nat} {j : Int} (h : rK k j) (h1 : ¬ k = 231) (h2 : ¬ (k = 226 ∧ j = 8)) : ff M T F V k j = M k j := by
  unfold rK at h
  unfold ff
  by_cases h3 : k = 226
  · rw [if_pos h3, if_neg (by omega), if_neg (by omega)]
  · rw [if_neg h3, if_neg h1, if_neg (by omega)]
theorem ff_231 {T : Int} {F V : Int → Int} {j : Int} : ff M T F V 231 j = F j := by unfold ff; rw [if_neg (by decide), if_pos rfl]
theorem rr_feed (hE : E0 n K R) (ht0 : 0 ≤ t ∧ t ≤ 400) (hV : RFV N lw A im t w f M) : gm_Wp X LX d bc bs 239 0 (gm_ent 239 [gm_vr 226, gm_vi (a 0), gm_vi (a 1), gm_vi (a 2), gm_vi (a 3), gm_vi (a 4)]) [] n K R M (RC n K R (.inl (some (gm_vi (ap_feed a t f).1))) N lw A im (ap_feed a t f).2.1 w (ap_feed a t f).2.2) := by
  have ht := hV.2.2.2.1.1
  refine fd_c239 (a := a) (e0k hE (k := 226) (c := 11) (by decide +kernel)) (e0a hE (k := 231) (q := (1, 400)) (by decide +kernel)) (e0a hE (k := 232) (q := (0, 5)) (by decide +kernel)) (e0r hE (k := 226) (j := 7) (r := 231) (by decide +kernel)) (e0r hE (k := 226) (j := 14) (r := 232) (by decide +kernel)) (by rw [ht]; exact ht0) (fun h => ?_) (fun V h => ?_)
  · rw [ht] at h
    have er : ap_feed a t f = (-1, t, f) := tif_t h
    rw [er]
    exact ⟨⟨rfl, rfl, rfl⟩, rfl, rfv_tape hV (ff_8.trans ht) (fun j j0 j1 => ff_231.trans (hV.2.2.2.2 j j0 j1)) (fun k j h1 h2 h3 => ff_x h1 h2 h3)⟩
  · rw [ht] at h
    have er : ap_feed a t f = (t + 20, t + 20, fdc a t 20 f) := tif_f (by omega)
    rw [er, ht]
    refine ⟨⟨rfl, rfl, rfl⟩, rfl, rfv_tape hV ff_8 (fun j j0 j1 => ff_231.trans ?_) (fun k j h1 h2 h3 => ff_x h1 h2 h3)⟩
    show fdc a t 20 (M 231) j = fdc a t 20 f j
    unfold fdc
    by_cases h9 : t ≤ j ∧ j < t + 20
    · rw [if_pos h9, if_pos h9]
    · rw [if_neg h9, if_neg h9]
      exact hV.2.2.2.2 j j0 j1
theorem rr_end (hE : E0 n K R) (hx : gm_ir x) (ht0 : 0 ≤ t ∧ t ≤ 400) (hV : RFV N lw A im t w f M) : gm_Wp X LX d bc bs 240 0 (gm_ent 240 [gm_vr 226, gm_vi x]) [] n K R M (RC n K R (.inl (some (gm_vi (ap_end x t).1))) N lw A im (ap_end x t).2 w f) := by
  have ht := hV.2.2.2.1.1
  have s0 : RFV N lw A im t w f (gm_uM M 226 0 0) := rfv_fr hV (W := [(226, some 0)]) (fr_p fr_0 (Or.inr (by decide))) (by decide)
  refine re_240 hE hx (by rw [ht]; exact ⟨by omega, by omega⟩) (fun h => ?_) (fun h1 h2 => ?_) (fun h1 h2 => ?_)
  · have er : ap_end x t = (0, t) := tif_t (Or.inl h)
    rw [er]
    exact ⟨⟨rfl, rfl, rfl⟩, rfl, s0⟩
  · rw [ht] at h2
    have er : ap_end x t = (1, x) := tif_f (by omega)
    rw [er]
    exact ⟨⟨rfl, rfl, rfl⟩, rfl, rfv_tape s0 uM_at (fun j j0 j1 => (uM_ne (by omega)).trans (s0.2.2.2.2 j j0 j1)) (fun k j h1 h2 h3 => uM_ne h3)⟩
  · rw [ht] at h2
    have er : ap_end x t = (0, t) := tif_t (Or.inr (by omega))
    rw [er]
    exact ⟨⟨rfl, rfl, rfl⟩, rfl, s0⟩
end RF10
end
/-! 7c11.gj -/
section
/-! WHAT THE ABSTRACT STATE ALWAYS IS stays by every act. -/
section GJ11
variable {N N' : Int → Int} {lw : Option (List lln)} {A : List (Int → Int)} {im : Option ((Int → Int) × Option (List lln))} {t w x y a b p l : Int} {f : Int → Int} {e : Int}
theorem ir_nup {i v : Int} (h : irN N) (hv : gm_ir v) : irN (nup N i v) := fun j => by
  unfold nup
  split
  · exact hv
  · exact h j
theorem tx_u_b {f : Int → Int} {e b : Int} : ∀ (n : Nat) (p v : Int), b ≤ p → (v = -1 ∨ (0 ≤ v ∧ ((p - b = 0 ∧ v < 1) ∨ (p - b = 1 ∧ v < 10) ∨ (p - b = 2 ∧ v < 100) ∨ (p - b = 3 ∧ v < 1000) ∨ (4 ≤ p - b ∧ v < 10000)))) → -1 ≤ tx_u f e 4 b n p v ∧ tx_u f e 4 b n p v ≤ 9999 := by
  intro n
  induction n with
  | zero =>
    intro p v hp hv
    show -1 ≤ v ∧ v ≤ 9999
    omega
  | succ n ih =>
    intro p v hp hv
    show -1 ≤ (if p < e ∧ tx_d f p = true then tx_u f e 4 b n (p + 1) (if p - b < 4 ∧ ¬ v = -1 then v * 10 + f p - 48 else -1) else v) ∧ (if p < e ∧ tx_d f p = true then tx_u f e 4 b n (p + 1) (if p - b < 4 ∧ ¬ v = -1 then v * 10 + f p - 48 else -1) else v) ≤ 9999
    by_cases h : p < e ∧ tx_d f p = true
    · rw [if_pos h]
      have hd := of_decide_eq_true h.2
      refine ih (p + 1) _ (by omega) ?_
      by_cases h2 : p - b < 4 ∧ ¬ v = -1
      · rw [if_pos h2]
        omega
      · rw [if_neg h2]
        exact Or.inl rfl
    · rw [if_neg h]
      omega
theorem tx_v_ir {f : Int → Int} {e b : Int} : gm_ir (tx_v f e 4 b) := by
  unfold tx_v
  split
  · exact ⟨by decide, by decide⟩
  split
  · exact ⟨by decide, by decide⟩
  split
  · have := tx_u_b (f := f) (e := e) (b := b) (e - b).toNat b 0 (Int.le_refl _) (Or.inr ⟨by decide, Or.inl ⟨by omega, by decide⟩⟩)
    exact ⟨by omega, by omega⟩
  · exact ⟨by decide, by decide⟩
theorem ir_s {v : Int} (h : 0 ≤ v ∧ v ≤ 300) : gm_ir (v + 1) := ⟨by omega, by omega⟩
theorem ir_thr {f9 t9 l9 r9 : Int} (h : irN N) (h4 : 0 ≤ N 4 ∧ N 4 ≤ 24) (hf : gm_ir f9) (ht : gm_ir t9) (hl : gm_ir l9) (hr : gm_ir r9) : irN (nthr N f9 t9 l9 r9) := by
  unfold nthr
  exact ir_nup (ir_nup (ir_nup (ir_nup (ir_nup (ir_nup (ir_nup (ir_nup h (ir_s ⟨h4.1, by omega⟩)) hf) ht) hl) (h 9)) hr) ⟨by decide, by decide⟩) ⟨by decide, by decide⟩
theorem ir_per {l9 r9 w9 : Int} (h : irN N) (h3 : 0 ≤ N 3 ∧ N 3 ≤ 8) (hl : gm_ir l9) (hr : gm_ir r9) (hw : gm_ir w9) : irN (nper N l9 r9 w9) := by
  unfold nper
  exact ir_nup (ir_nup (ir_nup (ir_nup h (ir_s ⟨h3.1, by omega⟩)) hl) hr) hw
theorem ir_opn (h : irN N) (h14 : 0 ≤ N 14 ∧ N 14 ≤ 24) (hl : gm_ir l) (hp : gm_ir p) : irN (nopn N l p) := by
  unfold nopn
  exact ir_nup (ir_nup (ir_nup (ir_nup (ir_nup (ir_nup h hp) (h 9)) (ir_s ⟨h14.1, by omega⟩)) (h 9)) hl) hp
theorem v_sp_ir : ∀ (t : Nat) (N : Int → Int) (a b : Int), irN N → irN (v_sp f e t N a b).2.2 := by
  intro t
  induction t with
  | zero => exact fun N a b h => h
  | succ t ih => exact fun N a b h => tif_i (C := fun q : Bool × Int × (Int → Int) => irN q.2.2) (ih _ _ _ (ir_nup h tx_v_ir)) h
theorem v_line_ir (h : irN N) (hR : NR N) : irN (v_line f e N b).2.2 := by
  have T : ∀ {P : Prop} {a c : Bool × Int × (Int → Int)}, irN a.2.2 → irN c.2.2 → irN (tif P a c).2.2 := fun {P a c} ha hc => tif_i (C := fun q : Bool × Int × (Int → Int) => irN q.2.2) ha hc
  have c2 := hR.2.1.1
  have c5 := hR.2.1.2.1
  have c3 := hR.2.1.2.2.1
  have c4 := hR.2.1.2.2.2.1
  have c6 := hR.2.1.2.2.2.2.1
  unfold v_line
  refine T ?_ (T ?_ (T ?_ (T ?_ (T ?_ (T ?_ (T ?_ (T ?_ (T ?_ (T ?_ h)))))))))
  · exact T (T (ir_nup (ir_nup h tx_v_ir) tx_v_ir) h) h
  · exact T (T (ir_nup (ir_nup h tx_v_ir) ⟨by decide, by decide⟩) h) h
  · exact T h (T (v_sp_ir _ _ _ _ (ir_nup (ir_nup h (ir_s ⟨c2.1, by omega⟩)) tx_v_ir)) h)
  · exact T (T (T (ir_nup (ir_nup h tx_v_ir) tx_v_ir) h) h) h
  · exact T (ir_nup h tx_v_ir) h
  · exact T (ir_nup h tx_v_ir) h
  · exact T h (T (T (T (ir_nup (ir_nup (ir_nup (ir_nup h (ir_s ⟨c5.1, by omega⟩)) tx_v_ir) tx_v_ir) tx_v_ir) h) h) h)
  · exact T h (T (T (T (T (ir_per h c3 tx_v_ir tx_v_ir tx_v_ir) h) (ir_per h c3 tx_v_ir tx_v_ir ⟨by decide, by decide⟩)) h) h)
  · exact T h (T (T (ir_thr h c4 ⟨by decide, by decide⟩ ⟨by decide, by decide⟩ tx_v_ir tx_v_ir) h) h)
  · exact T h (v_sp_ir _ _ _ _ (ir_nup h (ir_s ⟨c6.1, by omega⟩)))
theorem v_txt_ir : ∀ (t : Nat) (N : Int → Int) (b : Int), GJ N → 0 ≤ b ∧ b ≤ e → (v_txt f e t N b).1 = true → irN (v_txt f e t N b).2.2 := by
  intro t
  induction t with
  | zero => exact fun N b _ _ h => by cases h
  | succ t ih =>
    intro N b h hb ht
    have q := v_line_b (f := f) (N := N) hb
    by_cases h1 : (v_line f e N b).1 = true
    · by_cases h2 : tx_k f e (v_line f e N b).2.1 = 256
      · rw [show v_txt f e (t + 1) N b = v_line f e N b by show tif _ _ _ = _; rw [tif_t h1, tif_t h2]]
        exact v_line_ir h.2 h.1.1
      · by_cases h3 : tx_k f e (v_line f e N b).2.1 = 59
        · rw [show v_txt f e (t + 1) N b = v_txt f e t (v_line f e N b).2.2 (tx_n f e (v_line f e N b).2.1) by show tif _ _ _ = _; rw [tif_t h1, tif_f h2, tif_t h3]] at ht ⊢
          have n1 := tx_nb (f := f) q.2
          exact ih _ _ ⟨v_line_g h.1 hb h1, v_line_ir h.2 h.1.1⟩ ⟨by omega, n1.2.1⟩ ht
        · rw [show v_txt f e (t + 1) N b = (false, (v_line f e N b).2.1, N) by show tif _ _ _ = _; rw [tif_t h1, tif_f h2, tif_f h3]] at ht
          cases ht
    · rw [show v_txt f e (t + 1) N b = (false, (v_line f e N b).2.1, N) from tif_f h1] at ht
      cases ht
theorem v_val_ir (h : GJ N) (he : 0 ≤ e) (ht : (v_val f e N).1 = true) : irN (v_val f e N).2.2 := by
  obtain ⟨g1, g2, -⟩ := tx_gb (f := f) he
  by_cases h1 : tx_k f e (tx_g f e 0) = 256
  · rw [show v_val f e N = (true, tx_g f e 0, N) from tif_t h1]
    exact h.2
  · rw [show v_val f e N = v_txt f e 14 N (tx_g f e 0) from tif_f h1] at ht ⊢
    exact v_txt_ir _ _ _ h ⟨g1, g2⟩ ht
theorem ym_ir {Ψ : (Int → Int) → Int → Int → Int → Int → Prop} {o dd : Int → Int} (hN : NR N) (hg : LOGI N) (hi : irN N) {s0 : Int} (h0 : 0 ≤ s0) : ∀ k : Nat, (k : Int) ≤ N 4 → irN (yrun Ψ o dd (N, s0) k).1 := by
  intro k
  induction k with
  | zero => exact fun _ => hi
  | succ k ih =>
    intro hk
    obtain ⟨i1, i2, i3, i4, -⟩ := ym_i (Ψ := Ψ) (o := o) (dd := dd) hN hg h0 k (by omega)
    have i := ih (by omega)
    have h4 := hN.2.1.2.2.2.1
    show irN (ystep Ψ o dd (k : Int) (yrun Ψ o dd (N, s0) k)).1
    generalize yrun Ψ o dd (N, s0) k = s at i i1 i2 i4 ⊢
    unfold ystep
    by_cases hw : WTS s.1 (k : Int) (o (k : Int)) ∧ ¬ opf s.1 (Ψ s.1) (k : Int) (dd (k : Int)) = -1
    · rw [tif_t hw]
      have hk4 : (0 : Int) ≤ (k : Int) ∧ (k : Int) < s.1 4 := by rw [i4]; omega
      have hr : 0 ≤ (s.1 (119 + ((k : Int) * 7 + 0))) := by
        have := (i1.2.2.2.2 (k : Int) hk4.1 hk4.2).1
        have := hw.1.1
        omega
      have hb := opf_b (ψ := Ψ s.1) (dp := dd (k : Int)) i1 hk4 hr
      have h3 := i1.2.1.2.2.1
      exact ir_opn i i1.2.1.2.2.2.2.2.1 ⟨by omega, by omega⟩ ⟨by omega, by omega⟩
    · rw [tif_f hw]
      exact i
theorem yrs_ir {Ψ : (Int → Int) → Int → Int → Int → Int → Prop} {o dd : Int → Int} (hN : NR N) (hg : LOGI N) (hi : irN N) : ∀ k : Nat, N 9 + (k : Int) ≤ 299 → irN (yrs Ψ o dd (N, 0) k).1 := by
  intro k
  induction k with
  | zero => exact fun _ => hi
  | succ k ih =>
    intro hk
    obtain ⟨i1, i2, i3, i4, i5, i6, i7⟩ := yrs_i (Ψ := Ψ) (o := o) (dd := dd) hN hg k (by omega)
    have i := ih (by omega)
    show irN (yrun Ψ o dd (nyr (yrs Ψ o dd (N, 0) k).1, 0) ((yrs Ψ o dd (N, 0) k).1 4).toNat).1
    have h9 := hN.1.2.2.2.2.2
    have h4 := i1.2.1.2.2.2.1
    have e4 : nyr (yrs Ψ o dd (N, 0) k).1 4 = (yrs Ψ o dd (N, 0) k).1 4 := nup_ne (by decide)
    refine ym_ir (nr_nyr i1 (by omega)) (logi_nyr i2) ?_ (Int.le_refl 0) _ (by rw [e4]; omega)
    unfold nyr
    exact ir_nup i ⟨by omega, by omega⟩
/-- one more is remembered -/
theorem ra_take (hG : GJ N) (hA : ∀ N1 ∈ A, GJ N1 ∧ hgeo N N1) (hg : hgeo N N') : ∀ N1 ∈ (N :: A).take 12, GJ N1 ∧ hgeo N' N1 := fun N1 h => by
  rcases List.mem_cons.mp (List.mem_of_mem_take h) with rfl | h
  · exact ⟨hG, hgeo_s hg⟩
  · exact ⟨(hA N1 h).1, hgeo_t (hgeo_s hg) (hA N1 h).2⟩
theorem ra_post (h : RA N lw A im t w f) (ha : gm_ir a) (hb : gm_ir b) : RA (ap_post N A a b).2.2.1 lw (ap_post N A a b).2.2.2 im t w f := by
  obtain ⟨hG, hL, hA, hrest⟩ := h
  unfold ap_post
  by_cases h1 : ¬ ((0 ≤ a ∧ a < N 3) ∧ (0 ≤ b ∧ b < N 3))
  · rw [tif_t h1]; exact ⟨hG, hL, hA, hrest⟩
  rw [tif_f h1]
  by_cases h2 : a = b
  · rw [tif_t h2]; exact ⟨hG, hL, hA, hrest⟩
  rw [tif_f h2]
  by_cases h3 : N 4 = 24
  · rw [tif_t h3]; exact ⟨hG, hL, hA, hrest⟩
  rw [tif_f h3]
  have h1 := Classical.not_not.mp h1
  have h4 := hG.1.1.2.1.2.2.2.1
  have hP := hG.1.1.2.2.2.1 a h1.1.1 h1.1.2
  exact ⟨⟨gi_nthr hG.1 (by omega) ⟨by omega, h1.1.2⟩ ⟨by omega, h1.2.2⟩ hP.1 hP.2.1 (fun _ => h1.2.1), ir_thr hG.2 h4 ha hb (hG.2 _) (hG.2 _)⟩, hL, ra_take hG hA (hgeo_thr h4.1), hrest⟩
theorem ra_watch (h : RA N lw A im t w f) (hl : gm_ir l) : RA (ap_watch N A p l).2.2.1 lw (ap_watch N A p l).2.2.2 im t w f := by
  obtain ⟨hG, hL, hA, hrest⟩ := h
  unfold ap_watch
  by_cases h1 : ¬ ((0 ≤ p ∧ p < N 3) ∧ (l = -1 ∨ (0 ≤ l ∧ l < N 0)))
  · rw [tif_t h1]; exact ⟨hG, hL, hA, hrest⟩
  rw [tif_f h1]
  have h1 := Classical.not_not.mp h1
  have h0 := hG.1.1.1.1
  refine ⟨⟨gi_nwat hG.1 h1.1 ⟨by omega, by omega⟩, ?_⟩, hL, ra_take hG hA (hgeo_wat h1.1.1), hrest⟩
  show irN (nwat N p l)
  unfold nwat
  exact ir_nup hG.2 hl
theorem ra_open (h : RA N lw A im t w f) : RA (ap_open lw N A l).2.2.1 lw (ap_open lw N A l).2.2.2 im t w f := by
  obtain ⟨hG, hL, hA, hrest⟩ := h
  unfold ap_open
  by_cases h1 : ¬ (0 ≤ l ∧ l < N 4)
  · rw [tif_t h1]; exact ⟨hG, hL, hA, hrest⟩
  rw [tif_f h1]
  by_cases h2 : ¬ WTS N l (aout N (hts (N 13)) (aphi lw N (hts (N 13))) l)
  · rw [tif_t h2]; exact ⟨hG, hL, hA, hrest⟩
  rw [tif_f h2]
  have h1 := Classical.not_not.mp h1
  have h2 := Classical.not_not.mp h2
  have h4 := hG.1.1.2.1.2.2.2.1
  have h3 := hG.1.1.2.1.2.2.1
  have hB := hG.1.1.2.2.2.2 l h1.1 h1.2
  have h14 := logi_lt hG.1.1 hG.1.2.2 h1 h2.2.1
  have hl24 : 0 ≤ l ∧ l < 24 := ⟨h1.1, by omega⟩
  have w0 := h2.1
  have hp : 0 ≤ (N (119 + (l * 7 + 1))) ∧ (N (119 + (l * 7 + 1))) < N 3 := ⟨hB.2.2.2.2.2.2.2 (by omega), hB.2.1.2⟩
  have hg : geo N (nopn N l ((N (119 + (l * 7 + 1))))) := geo_nopn hl24 h14
  exact ⟨⟨⟨nr_nopn hG.1.1 h1 h14 hp, ns_geo hg hG.1.1 hG.1.2.1, logi_nopn hG.1.1 hG.1.2.2 h1 h2.2.1 (by omega)⟩, ir_opn hG.2 ⟨h14.1, by omega⟩ ⟨by omega, by omega⟩ (hG.2 _)⟩, hL, ra_take hG hA (hgeo_g hg), hrest⟩
theorem ra_years (h : RA N lw A im t w f) : RA (ap_years lw N A y).2.2.1 lw (ap_years lw N A y).2.2.2 im t w f := by
  obtain ⟨hG, hL, hA, hrest⟩ := h
  unfold ap_years
  by_cases h1 : ¬ (1 ≤ y ∧ y ≤ 50 ∧ y ≤ 299 - N 9)
  · rw [tif_t h1]; exact ⟨hG, hL, hA, hrest⟩
  rw [tif_f h1]
  have h1 := Classical.not_not.mp h1
  have hh9 : N 9 + (y.toNat : Int) ≤ 299 := by omega
  obtain ⟨i1, i2, hg, -⟩ := yrs_i (Ψ := fun N2 => apsi lw N2 (hts (N 13))) (o := aout N (hts (N 13)) (aphi lw N (hts (N 13)))) (dd := adp N (hts (N 13)) (aphi lw N (hts (N 13)))) hG.1.1 hG.1.2.2 y.toNat hh9
  have ii := yrs_ir (Ψ := fun N2 => apsi lw N2 (hts (N 13))) (o := aout N (hts (N 13)) (aphi lw N (hts (N 13)))) (dd := adp N (hts (N 13)) (aphi lw N (hts (N 13)))) hG.1.1 hG.1.2.2 hG.2 y.toNat hh9
  exact ⟨⟨⟨i1, ns_geo hg hG.1.1 hG.1.2.1, i2⟩, ii⟩, hL, ra_take hG hA (hgeo_g hg), hrest⟩
theorem ra_undo (h : RA N lw A im t w f) : RA (ap_undo N A).2.1 lw (ap_undo N A).2.2 im t w f := by
  obtain ⟨hG, hL, hA, hrest⟩ := h
  cases A with
  | nil => exact ⟨hG, hL, hA, hrest⟩
  | cons N0 A1 =>
    have h0 := hA N0 List.mem_cons_self
    exact ⟨h0.1, hL, fun N1 h1 => ⟨(hA N1 (List.mem_cons_of_mem _ h1)).1, hgeo_t (hgeo_s h0.2) (hA N1 (List.mem_cons_of_mem _ h1)).2⟩, hrest⟩
theorem ra_image (h : RA N lw A im t w f) : RA N lw A (some (N, lw)) t w f := by
  obtain ⟨hG, hL, hA, hi, hrest⟩ := h
  refine ⟨hG, hL, hA, fun NI lI e => ?_, hrest⟩
  cases e
  exact ⟨hG, hL⟩
theorem ra_back (h : RA N lw A im t w f) : RA (ap_back N lw A im).2.1 (ap_back N lw A im).2.2.1 (ap_back N lw A im).2.2.2 im t w f := by
  obtain ⟨hG, hL, hA, hi, hrest⟩ := h
  cases im with
  | none => exact ⟨hG, hL, hA, hi, hrest⟩
  | some q =>
    obtain ⟨g1, g2⟩ := hi q.1 q.2 rfl
    exact ⟨g1, g2, (fun N1 h1 => nomatch h1), hi, hrest⟩
theorem ra_valley (h : RA N lw A im t w f) : RA (ap_valley f t N A).2.2.1 lw (ap_valley f t N A).2.2.2.1 im 0 (ap_valley f t N A).2.2.2.2 f := by
  obtain ⟨hG, hL, hA, hi, ht, hw, hf⟩ := h
  unfold ap_valley
  by_cases h1 : ¬ (v_val f t N).1 = true
  · rw [tif_t h1]
    have := v_val_b (f := f) (N := N) ht.1
    exact ⟨hG, hL, hA, hi, ⟨by decide, by decide⟩, ⟨by show -1 ≤ (v_val f t N).2.1; omega, by show (v_val f t N).2.1 ≤ 400; omega⟩, hf⟩
  rw [tif_f h1]
  by_cases h2 : N 7 = 12
  · rw [tif_t h2]
    exact ⟨hG, hL, hA, hi, ⟨by decide, by decide⟩, (show (-1 : Int) ≤ -1 ∧ (-1 : Int) ≤ 400 from ⟨by decide, by decide⟩), hf⟩
  rw [tif_f h2]
  have h1 := Classical.not_not.mp h1
  have h7 := hG.1.1.2.1.2.2.2.2.2.2.1
  exact ⟨⟨gi_7 (v_val_g hG.1 ht.1 h1) ⟨by omega, by omega⟩, ir_nup (v_val_ir hG ht.1 h1) ⟨by omega, by omega⟩⟩, hL, (fun N1 h => nomatch h), hi, ⟨by decide, by decide⟩, (show (-1 : Int) ≤ -1 ∧ (-1 : Int) ≤ 400 from ⟨by decide, by decide⟩), hf⟩
theorem ra_law (h : RA N lw A im t w f) : RA N (ap_law f t lw A).2.2.1 (ap_law f t lw A).2.2.2.1 im 0 (ap_law f t lw A).2.2.2.2 f := by
  obtain ⟨hG, hL, hA, hi, ht, hw, hf⟩ := h
  obtain ⟨b0, b1, b2⟩ := g_law_b (f := f) (e := t) ht.1
  unfold ap_law
  by_cases h1 : ¬ (g_law f t).1 = true
  · rw [tif_t h1]
    have b2 := b2 h1
    exact ⟨hG, hL, hA, hi, ⟨by decide, by decide⟩, ⟨by show -1 ≤ (g_law f t).2; omega, by show (g_law f t).2 ≤ 400; omega⟩, hf⟩
  rw [tif_f h1]
  have h1 := Classical.not_not.mp h1
  refine ⟨hG, fun ls e => ?_, (fun N1 h => nomatch h), hi, ⟨by decide, by decide⟩, (show (-1 : Int) ≤ -1 ∧ (-1 : Int) ≤ 400 from ⟨by decide, by decide⟩), hf⟩
  cases e
  exact s_law_w ht.1 h1
theorem ra_feed {a : Int → Int} (h : RA N lw A im t w f) : RA N lw A im (ap_feed a t f).2.1 w (ap_feed a t f).2.2 := by
  obtain ⟨hG, hL, hA, hi, ht, hw, hf⟩ := h
  unfold ap_feed
  by_cases h1 : 381 ≤ t
  · rw [tif_t h1]; exact ⟨hG, hL, hA, hi, ht, hw, hf⟩
  rw [tif_f h1]
  refine ⟨hG, hL, hA, hi, (show 0 ≤ t + 20 ∧ t + 20 ≤ 400 from ⟨by omega, by omega⟩), hw, fun j j0 j1 => ?_⟩
  show -128 ≤ fdc a t 20 f j ∧ fdc a t 20 f j ≤ 127
  unfold fdc
  split
  · exact fb_ir
  · exact hf j j0 j1
theorem ra_end (h : RA N lw A im t w f) : RA N lw A im (ap_end x t).2 w f := by
  obtain ⟨hG, hL, hA, hi, ht, hw, hf⟩ := h
  unfold ap_end
  by_cases h1 : x < 0 ∨ t < x
  · rw [tif_t h1]; exact ⟨hG, hL, hA, hi, ht, hw, hf⟩
  rw [tif_f h1]
  exact ⟨hG, hL, hA, hi, ⟨by omega, by omega⟩, hw, hf⟩
end GJ11
end
/-! 7c12.dt -/
section
/-! ONE HEAP TOLD TWICE: what the class and the reference hold, by the row's numbers. -/
section DT12
variable {n n2 : Nat} {K1 K2 : gm_K} {R2 : gm_R} {M1 M2 : gm_M} {N : Int → Int} {lw : Option (List lln)} {A : List (Int → Int)} {im : Option ((Int → Int) × Option (List lln))} {t w : Int} {f : Int → Int}
/-- the numbers of an array, of an object's field, by the types -/
noncomputable def tyA (k len : Nat) : Bool := ((p2_O.1 k == some (0, len)) || (p2_O.1 k == some (1, len))) && (gm_tyr p2_O k 0 ((len : Int) - 1)).isSome
noncomputable def tyF (k c j : Nat) : Bool := (p2_O.1 k == some (c + 4, 0)) && (decide (j < gm_nf c) && (!gm_isr c j && (gm_tyr p2_O k (j : Int) (j : Int)).isSome))
theorem dw_x {x y : Int} (h : Int32.ofInt x = Int32.ofInt y) (hy : gm_ir y) : y = gm_w x := by
  have := dt_w h
  rw [this]
  exact (gm_w_id hy.1 hy.2).symm
theorem dw_i {x : Int} (h : gm_ir x) : gm_w x = x := gm_w_id h.1 h.2
theorem dw_a {k len : Nat} {j : Int} (hd : dt_m n K1 M1 K2 M2) (hn : 245 ≤ n) (hK : ∀ k, 1 ≤ k → k ≤ n → K1 k = K2 k) (hF : gm_Fx p2_O n2 K2 R2 M2) (hb : tyA k len = true) (j0 : 0 ≤ j) (j1 : j < (len : Int)) : M2 k j = gm_w (M1 k j) := by
  simp only [tyA, Bool.and_eq_true, Bool.or_eq_true, beq_iff_eq] at hb
  obtain ⟨hq, hs⟩ := hb
  obtain ⟨q, hs⟩ := Option.isSome_iff_exists.mp hs
  have hir := ((gm_tyr_s hF hs).2 j j0 (by omega)).1
  obtain ⟨u, rfl⟩ : ∃ u : Nat, j = (u : Int) := ⟨j.toNat, by omega⟩
  have hk : (1 ≤ k ∧ k ≤ 245) ∧ (K2 k = (0, len) ∨ K2 k = (1, len)) := by
    rcases hq with hq | hq
    · have := bg_O1 hq
      exact ⟨⟨(hF.1 k _ hq).1, by omega⟩, Or.inl (hF.1 k _ hq).2.2⟩
    · have := bg_O1 hq
      exact ⟨⟨(hF.1 k _ hq).1, by omega⟩, Or.inr (hF.1 k _ hq).2.2⟩
  have e := hK k hk.1.1 (by omega)
  refine dw_x ((hd k hk.1.1 (by omega) e).1 ?_ u ?_) hir
  · rw [e]
    rcases hk.2 with h | h <;> rw [h]
    · exact Or.inl rfl
    · exact Or.inr rfl
  · rw [e]
    rcases hk.2 with h | h <;> rw [h] <;> show u < len <;> omega
theorem dw_f {k c j : Nat} (hd : dt_m n K1 M1 K2 M2) (hn : 245 ≤ n) (hK : ∀ k, 1 ≤ k → k ≤ n → K1 k = K2 k) (hF : gm_Fx p2_O n2 K2 R2 M2) (hb : tyF k c j = true) : M2 k (j : Int) = gm_w (M1 k (j : Int)) := by
  simp only [tyF, Bool.and_eq_true, beq_iff_eq, decide_eq_true_eq, Bool.not_eq_true'] at hb
  obtain ⟨hq, hj, hr, hs⟩ := hb
  obtain ⟨q, hs⟩ := Option.isSome_iff_exists.mp hs
  have hir := ((gm_tyr_s hF hs).2 (j : Int) (Int.le_refl _) (Int.le_refl _)).1
  have hk := bg_O1 hq
  obtain ⟨k1, k2, k3⟩ := hF.1 k _ hq
  have e := hK k k1 (by omega)
  exact dw_x ((hd k k1 (by omega) e).2.2 c j (by rw [e, k3]) hj (by rw [hr]; decide)) hir
/-- a State's cells -/
noncomputable def blk (b : Nat) : Bool := (List.range 8).all (fun j => tyF b 1 j) && ((tyF (b + 1) 2 3 && (tyF (b + 3) 2 3 && (tyF (b + 5) 2 3 && (tyF (b + 7) 2 3 && (tyF (b + 9) 2 3 && tyF (b + 11) 2 3))))) && (tyA (b + 2) 56 && (tyA (b + 4) 24 && (tyA (b + 6) 24 && (tyA (b + 8) 168 && (tyA (b + 10) 36 && tyA (b + 12) 72))))))
theorem cs_dt {b : Nat} (hd : dt_m n K1 M1 K2 M2) (hn : 245 ≤ n) (hK : ∀ k, 1 ≤ k → k ≤ n → K1 k = K2 k) (hF : gm_Fx p2_O n2 K2 R2 M2) (hb : blk b = true) (hc : cs M1 b = N) (hi : irN N) : cs M2 b = N := by
  simp only [blk, Bool.and_eq_true] at hb
  obtain ⟨hf, ⟨s1, s3, s5, s7, s9, s11⟩, a2, a4, a6, a8, a10, a12⟩ := hb
  have ff : ∀ j : Nat, j < 8 → M2 b (j : Int) = gm_w (M1 b (j : Int)) := fun j hj => dw_f hd hn hK hF (List.all_eq_true.mp hf j (List.mem_range.mpr hj))
  have key : ∀ i, (0 ≤ i ∧ i < 395 ∧ ¬ i = 8) → M2 (b + (pl i).1) (pl i).2 = gm_w (M1 (b + (pl i).1) (pl i).2) := fun i h => by
    rcases pl_cases h with h | h | h | h | h | h | h | h | h | h | h | h | h | h | h | h | h | h | h | h
    · subst h; exact ff 0 (by decide)
    · subst h; exact ff 1 (by decide)
    · subst h; exact dw_f hd hn hK hF s1
    · subst h; exact dw_f hd hn hK hF s5
    · subst h; exact dw_f hd hn hK hF s7
    · subst h; exact dw_f hd hn hK hF s3
    · subst h; exact dw_f hd hn hK hF s9
    · subst h; exact ff 7 (by decide)
    · subst h; exact ff 6 (by decide)
    · subst h; exact ff 2 (by decide)
    · subst h; exact ff 3 (by decide)
    · subst h; exact ff 4 (by decide)
    · subst h; exact ff 5 (by decide)
    · subst h; exact dw_f hd hn hK hF s11
    · rw [pl_2 h]; exact dw_a hd hn hK hF a2 (by show 0 ≤ i - 15; omega) (by show i - 15 < 56; omega)
    · rw [pl_4 h]; exact dw_a hd hn hK hF a4 (by show 0 ≤ i - 71; omega) (by show i - 71 < 24; omega)
    · rw [pl_6 h]; exact dw_a hd hn hK hF a6 (by show 0 ≤ i - 95; omega) (by show i - 95 < 24; omega)
    · rw [pl_8 h]; exact dw_a hd hn hK hF a8 (by show 0 ≤ i - 119; omega) (by show i - 119 < 168; omega)
    · rw [pl_10 h]; exact dw_a hd hn hK hF a10 (by show 0 ≤ i - 287; omega) (by show i - 287 < 36; omega)
    · rw [pl_12 h]; exact dw_a hd hn hK hF a12 (by show 0 ≤ i - 323; omega) (by show i - 323 < 72; omega)
  funext i
  by_cases h : 0 ≤ i ∧ i < 395 ∧ ¬ i = 8
  · rw [cs_pl h, key i h, ← cs_pl (M := M1) (b := b) h, hc]
    exact dw_i (hi i)
  · rw [← hc, cs_no h, cs_no h]
theorem blk_h : (List.range 12).all (fun p => blk (44 + 13 * p)) = true := by decide +kernel
theorem blk_3 : blk 3 = true ∧ blk 29 = true := by decide +kernel
theorem dt_c1 : tyF 1 0 1 = true ∧ tyF 1 0 2 = true ∧ tyF 1 0 6 = true ∧ tyF 1 0 15 = true := by decide +kernel
theorem dt_c2 : tyF 42 3 1 = true ∧ tyF 42 3 2 = true ∧ tyF 200 4 6 = true ∧ tyF 220 2 3 = true := by decide +kernel
theorem dt_c3 : tyA 2 400 = true ∧ tyA 201 300 = true ∧ tyA 202 594 = true ∧ tyA 203 300 = true ∧ tyA 221 48 = true := by decide +kernel
theorem dt_c4 : p2_O.1 205 = some (2, 14850) := by decide +kernel
theorem fld_cg {x y s : Int} (h : Int64.ofInt x = Int64.ofInt y) : fld x s = fld y s := by unfold fld ll_ushr; rw [h]
theorem outr_w {h : Int → Int} {φ : Int → Int → Int → Int} {l o d : Int} (hN : NR N) (hφ : ∀ l r y, 0 ≤ φ l r y ∧ φ l r y ≤ 30) (hh : ∀ y, 0 ≤ y → y < 300 → 0 ≤ h y ∧ h y ≤ 9) (hl : 0 ≤ l ∧ l < N 4) (ho : OUTR N h φ l o d) : OUTR N h φ l (gm_w o) (gm_w d) := by
  obtain ⟨b0, b1, b2, b3, b4, -⟩ := hN.2.2.2.2 l hl.1 hl.2
  have b9 := hN.1.2.2.2.2.2
  have b1' := hN.1.2.1
  have ob := OUTR_b ho b3.1
  have e : gm_w o = o := gm_w_id (by omega) (by omega)
  rw [e]
  rcases ho with ho | ⟨j, h1, h2, h3, h4, h5⟩
  · exact Or.inl ho
  · refine Or.inr ⟨j, h1, h2, h3, h4, ?_⟩
    have := (nwy_b (lane := (N (119 + (l * 7 + 2)))) (rock := (if (N (119 + (l * 7 + 0))) = -1 then 1 else 0)) (wo := -1) hN hφ hh b3.1 (r0 := (N (119 + (l * 7 + 4)))) ⟨b4.1, by omega⟩ j (by omega)).2
    rw [h5]
    exact gm_w_id (by omega) (by omega)
theorem clv_dt (hd : dt_m n K1 M1 K2 M2) (hn : 245 ≤ n) (hK : ∀ k, 1 ≤ k → k ≤ n → K1 k = K2 k) (hF : gm_Fx p2_O n2 K2 R2 M2) (hR : RA N lw A im t w f) (hV : CLV N lw A im t w f M1) : CLV N lw A im t w f M2 := by
  obtain ⟨hG, hL, hA, hI, ht9, hw9, hf9⟩ := hR
  obtain ⟨⟨hT, hH⟩, h15, hk, hi, ht, hf⟩ := hV
  have e1 : ∀ j : Nat, (j = 1 ∨ j = 2 ∨ j = 6 ∨ j = 15) → M2 1 (j : Int) = gm_w (M1 1 (j : Int)) := fun j hj => by
    rcases hj with rfl | rfl | rfl | rfl
    · exact dw_f hd hn hK hF dt_c1.1
    · exact dw_f hd hn hK hF dt_c1.2.1
    · exact dw_f hd hn hK hF dt_c1.2.2.1
    · exact dw_f hd hn hK hF dt_c1.2.2.2
  have e15 : M2 1 15 = gm_w (M1 1 15) := e1 15 (by decide)
  have e6 : M2 1 6 = gm_w (M1 1 6) := e1 6 (by decide)
  have e11 : M2 1 1 = gm_w (M1 1 1) := e1 1 (by decide)
  have e12 : M2 1 2 = gm_w (M1 1 2) := e1 2 (by decide)
  have e200 : M2 200 6 = gm_w (M1 200 6) := dw_f hd hn hK hF dt_c2.2.2.1
  have e421 : M2 42 1 = gm_w (M1 42 1) := dw_f hd hn hK hF dt_c2.1
  have e422 : M2 42 2 = gm_w (M1 42 2) := dw_f hd hn hK hF dt_c2.2.1
  have e220 : M2 220 3 = gm_w (M1 220 3) := dw_f hd hn hK hF dt_c2.2.2.2
  refine ⟨⟨⟨cstF hF, cs_dt hd hn hK hF blk_3.1 hT.2.1 hG.2, fun y y0 y1 => ?_, fun l r l0 l1 r0 r1 => ?_⟩, ?_⟩, ?_, fun hlw => ?_, ?_, ⟨?_, ?_⟩, fun j j0 j1 => ?_⟩
  · obtain ⟨b1, b2, b3, b4⟩ := hT.2.2.1 y y0 y1
    rw [dw_a hd hn hK hF dt_c3.2.1 y0 (by omega), dw_a hd hn hK hF dt_c3.2.2.2.1 y0 (by omega), b1, dw_i b3, dw_i ⟨by omega, by omega⟩]
    exact ⟨rfl, b2, b3, b4⟩
  · have := spd_b hG.1.1 hG.1.2.1 (r := r) l0
    rw [dw_a hd hn hK hF dt_c3.2.2.1 (by omega) (by omega), hT.2.2.2 l r l0 l1 r0 r1]
    exact dw_i ⟨by omega, by omega⟩
  · obtain ⟨nx, h0, h1, h2, h3, h4⟩ := hH
    refine ⟨nx, h0, by rw [e421, h1]; exact dw_i ⟨by omega, by omega⟩, by rw [e422, h2]; exact dw_i ⟨by omega, by omega⟩, h3, fun i N1 hi9 => ?_⟩
    have hp : ((nx + 11 - (i : Int)) % 12).toNat < 12 := by omega
    exact cs_dt hd hn hK hF (List.all_eq_true.mp blk_h _ (List.mem_range.mpr hp)) (h4 i N1 hi9) (hA N1 (List.mem_of_getElem? hi9)).1.2
  · rw [e15]
    rcases h15 with h | ⟨h, he⟩
    · exact Or.inl (by rw [h]; decide)
    · refine Or.inr ⟨by rw [h]; decide, ?_⟩
      have h4 := hG.1.1.2.1.2.2.2.1
      refine ⟨by rw [e220, he.1]; exact dw_i ⟨by omega, by omega⟩, fun l l0 l1 => ?_⟩
      rw [dw_a hd hn hK hF dt_c3.2.2.2.2 (by omega) (by omega), dw_a hd hn hK hF dt_c3.2.2.2.2 (by omega) (by omega)]
      exact outr_w hG.1.1 aphi_b (fun _ _ _ => hts_b) ⟨l0, l1⟩ (he.2 l l0 l1)
  · have hk := hk hlw
    have e9 : M2 200 6 = M1 200 6 := by rw [e200]; exact dw_i ⟨by have := hk.1.1; omega, by have := hk.1.2; omega⟩
    refine ⟨by rw [e9]; exact hk.1, fun l r y l0 l1 r0 r1 y0 y1 => ?_⟩
    have b0 := hG.1.1.1.1
    have b1 := hG.1.1.1.2.1
    have ek : kv M2 ((l * 99 + r) * 300 + y) = kv M1 ((l * 99 + r) * 300 + y) := by
      unfold kv
      rw [e9]
      have k205 := hF.1 205 _ dt_c4
      have ee := hK 205 (by decide) (by omega)
      have hj : 0 ≤ ((l * 99 + r) * 300 + y) / 12 ∧ ((l * 99 + r) * 300 + y) / 12 < 14850 := by omega
      obtain ⟨u, hu⟩ : ∃ u : Nat, ((l * 99 + r) * 300 + y) / 12 = (u : Int) := ⟨(((l * 99 + r) * 300 + y) / 12).toNat, by omega⟩
      rw [hu]
      rw [fld_cg ((hd 205 (by decide) (by omega) ee).2.1 (by rw [ee, k205.2.2]) u (by rw [ee, k205.2.2]; show u < 14850; omega)).symm]
    rw [ek]
    exact hk.2 l r y l0 l1 r0 r1 y0 y1
  · rw [e6]
    rcases hi with ⟨h, hi⟩ | ⟨h, NI, lI, hi, hc⟩
    · exact Or.inl ⟨by rw [h]; decide, hi⟩
    · exact Or.inr ⟨by rw [h]; decide, NI, lI, hi, cs_dt hd hn hK hF blk_3.2 hc (hI NI lI hi).1.2⟩
  · rw [e11, ht.1]
    exact dw_i ⟨by omega, by omega⟩
  · rw [e12, ht.2]
    exact dw_i ⟨by omega, by omega⟩
  · rw [dw_a hd hn hK hF dt_c3.1 j0 (by omega), hf j j0 j1]
    have := hf9 j j0 j1
    exact dw_i ⟨by omega, by omega⟩
end DT12
end
/-! 7c13.dr -/
section
/-! ONE HEAP TOLD TWICE: the reference. -/
theorem pwf_b {p : Int × Int} (h : pwf p) : (0 ≤ p.1 ∧ p.1 ≤ 16) ∧ gm_ir p.2 := by
  rcases h with ⟨⟨h1, h2⟩, h3⟩ | ⟨h1, h2, h3⟩
  · exact ⟨⟨h1, by omega⟩, ⟨by omega, by omega⟩⟩
  · exact ⟨⟨by omega, by omega⟩, ⟨by omega, by omega⟩⟩
theorem rps_b {c : Int × Int} : ∀ ps : List (Int × Int), (∀ p ∈ ps, pwf p) → c ∈ rps ps → (0 ≤ c.1 ∧ c.1 ≤ 16) ∧ gm_ir c.2 := by
  intro ps
  induction ps with
  | nil => intro _ hm; cases hm
  | cons q qs ih =>
    intro hp hm
    have hm : c ∈ q :: (11, 0) :: rps qs := hm
    rcases List.mem_cons.mp hm with rfl | hm
    · exact pwf_b (hp _ List.mem_cons_self)
    · rcases List.mem_cons.mp hm with rfl | hm
      · exact ⟨⟨by decide, by decide⟩, ⟨by decide, by decide⟩⟩
      · exact ih (fun p hp2 => hp p (List.mem_cons_of_mem _ hp2)) hm
theorem rpt_b {c : Int × Int} {ps : List (Int × Int)} (hp : ∀ p ∈ ps, pwf p) (hm : c ∈ rpt ps) : (0 ≤ c.1 ∧ c.1 ≤ 16) ∧ gm_ir c.2 := by
  cases ps with
  | nil => cases hm
  | cons q qs =>
    have hm : c ∈ q :: rps qs := hm
    rcases List.mem_cons.mp hm with rfl | hm
    · exact pwf_b (hp _ List.mem_cons_self)
    · exact rps_b qs (fun p hp2 => hp p (List.mem_cons_of_mem _ hp2)) hm
/-- the steps of a right law -/
theorem srds_b {B : Nat} : ∀ (ls : List lst) (h k : Nat), shg B ls h k → ∀ c ∈ srds ls, (0 ≤ c.1 ∧ c.1 ≤ 16) ∧ gm_ir c.2 := by
  intro ls
  induction ls with
  | nil => intro h k _ c hc; cases hc
  | cons s r ih =>
    intro h k hs c hc
    have hc : c ∈ srd s ++ srds r := hc
    rcases List.mem_append.mp hc with hc | hc
    · unfold srd at hc
      by_cases h0 : s.1 = 0
      · rw [if_pos h0] at hc
        have hw : cwf s.2.2.1 s.2.2.2 := by
          rcases hs with ⟨h1, -⟩ | ⟨h1, -⟩ | ⟨h1, -⟩
          · rcases h1 with ⟨-, hw⟩ | h1 | h1
            · exact hw
            · omega
            · omega
          · omega
          · omega
        rcases List.mem_append.mp hc with hc | hc
        · exact rpt_b hw.1 hc
        · rcases List.mem_append.mp hc with hc | hc
          · exact rpt_b hw.2.1 hc
          · rw [List.mem_singleton.mp hc]
            refine ⟨?_, (show (-2147483648 : Int) ≤ 0 from by decide), (show (0 : Int) < 2147483648 from by decide)⟩
            show 0 ≤ (if s.2.1 = true then (13 : Int) else 12) ∧ (if s.2.1 = true then (13 : Int) else 12) ≤ 16
            split <;> decide
      · rw [if_neg h0] at hc
        rw [List.mem_singleton.mp hc]
        refine ⟨?_, (show (-2147483648 : Int) ≤ 0 from by decide), (show (0 : Int) < 2147483648 from by decide)⟩
        show 0 ≤ s.1 ∧ s.1 ≤ 16
        rcases hs with ⟨h1, -⟩ | ⟨h1, -⟩ | ⟨h1, -⟩
        · rcases h1 with ⟨h1, -⟩ | h1 | h1 <;> omega
        · omega
        · omega
    · rcases hs with ⟨-, -, h2⟩ | ⟨-, -, h2⟩ | ⟨-, -, h2⟩
      · exact ih _ _ h2 c hc
      · exact ih _ _ h2 c hc
      · exact ih _ _ h2 c hc
section DR13
variable {n n2 : Nat} {K1 K2 : gm_K} {R2 : gm_R} {M1 M2 : gm_M} {N : Int → Int} {lw : Option (List lln)} {A : List (Int → Int)} {im : Option ((Int → Int) × Option (List lln))} {t w : Int} {f : Int → Int}
/-- a law told by numbers that go round -/
theorem lawr_w {W W2 : Int → Int} (h : LAWR lw W) (hT : jT fun j => W2 (395 + j)) (e : ∀ j, 0 ≤ j → j < 1244 → W2 j = gm_w (W j)) : LAWR lw W2 := by
  refine ⟨fun hn => by rw [e 8 (by decide) (by decide), h.1 hn]; decide, fun ls hs => ?_⟩
  obtain ⟨⟨a1, a2⟩, a3, a4, a5⟩ := h.2 ls hs
  have h12 := a3.1
  have e5 : W2 395 = (ls.length : Int) := by
    rw [e 395 (by decide) (by decide), a2]
    exact gm_w_id (by omega) (by omega)
  have hb : ∀ k : Nat, k < ls.length → 0 ≤ W2 (396 + 4 * (k : Int) + 2) := fun k hk => by
    have ht := (hT (k : Int) (by omega) (by omega) (by show (k : Int) < W2 (395 + 0); rw [show (395 : Int) + 0 = 395 by decide, e5]; omega)).1.1
    have ht : 0 ≤ W2 (395 + (3 + 4 * (k : Int))) := ht
    rw [show 395 + (3 + 4 * (k : Int)) = 396 + 4 * (k : Int) + 2 by omega] at ht
    exact ht
  refine ⟨⟨by rw [e 8 (by decide) (by decide), a1]; decide, e5⟩, a3, fun k x hx => ?_, fun k x hx => ?_⟩
  · have hk := (List.getElem?_eq_some_iff.mp hx).1
    obtain ⟨b0, b1, b2, b3⟩ := a4 k x hx
    obtain ⟨c0, c1⟩ := a5 k x hx
    obtain ⟨w0, w1, w2⟩ := a3.2 k x hx
    rw [e (396 + 4 * (k : Int)) (by omega) (by omega), e (396 + 4 * (k : Int) + 1) (by omega) (by omega), e (396 + 4 * (k : Int) + 2) (by omega) (by omega), e (396 + 4 * (k : Int) + 3) (by omega) (by omega), b0, b1]
    refine ⟨gm_w_id (by omega) (by omega), ?_, fun hn => by rw [b2 hn], fun t ht => ?_⟩
    · split
      · decide
      · exact gm_w_id (by omega) (by omega)
    · obtain ⟨d1, d2⟩ := b3 t ht
      have hsh := w2 t ht
      rw [d1]
      cases hl : srds t with
      | nil => exact ⟨by rw [show ((([] : List (Int × Int)).length : Nat) : Int) = 0 by rfl, Int.add_zero, Int.add_zero], fun j v hv => by simp at hv⟩
      | cons q qs =>
        have hlen : (srds t).length = qs.length + 1 := by rw [hl]; rfl
        have hz := c1 t ht (qs.length) ((srds t)[qs.length]'(by omega)) (List.getElem?_eq_getElem (by omega))
        have eb : gm_w (W (396 + 4 * (k : Int) + 2)) = W (396 + 4 * (k : Int) + 2) := gm_w_id (by omega) (by omega)
        rw [eb, ← hl, hlen]
        refine ⟨gm_w_id (by omega) (by omega), fun j v hv => ?_⟩
        have hj := c1 t ht j v hv
        obtain ⟨g1, g2⟩ := d2 j v hv
        obtain ⟨v1, v2⟩ := srds_b t 0 1 hsh v (List.mem_of_getElem? hv)
        rw [e _ (by omega) (by omega), e _ (by omega) (by omega), g1, g2]
        exact ⟨gm_w_id (by omega) (by omega), dw_i v2⟩
  · have hk := (List.getElem?_eq_some_iff.mp hx).1
    obtain ⟨c0, c1⟩ := a5 k x hx
    refine ⟨hb k hk, fun t ht j v hv => ?_⟩
    have hj := c1 t ht j v hv
    rw [e (396 + 4 * (k : Int) + 2) (by omega) (by omega), gm_w_id (by omega) (by omega)]
    exact hj
theorem dr_c1 : tyA 227 2093 = true ∧ tyA 228 1244 = true ∧ tyA 231 400 = true ∧ tyA 234 300 = true ∧ tyA 235 29700 = true := by decide +kernel
theorem dr_c2 : tyF 226 11 5 = true ∧ tyF 226 11 6 = true ∧ tyF 226 11 8 = true ∧ tyF 226 11 13 = true ∧ tyF 226 11 26 = true := by decide +kernel
theorem dr_c3 : p2_O.1 230 = some (0, 4740) := by decide +kernel
set_option maxRecDepth 100000 in
theorem dr_c4 : (List.range 395).all (fun j => p2_ty.any fun r => decide (r.1 ≤ (j : Int)) && decide ((j : Int) ≤ r.2.1)) = true := by decide +kernel
theorem ws_w {W W2 : Int → Int} (h : ws W = N) (hi : irN N) (e : ∀ j, 0 ≤ j → j < 395 → W2 j = gm_w (W j)) : ws W2 = N := by
  funext j
  by_cases hj : 0 ≤ j ∧ j < 395 ∧ ¬ j = 8
  · have h1 : ws W j = N j := by rw [h]
    unfold ws at h1 ⊢
    rw [if_pos hj] at h1 ⊢
    rw [e j hj.1 hj.2.1, h1]
    exact dw_i (hi j)
  · rw [← h]
    unfold ws
    rw [if_neg hj, if_neg hj]
theorem rfv_dt (hd : dt_m n K1 M1 K2 M2) (hn : 245 ≤ n) (hK : ∀ k, 1 ≤ k → k ≤ n → K1 k = K2 k) (hF : gm_Fx p2_O n2 K2 R2 M2) (hR : RA N lw A im t w f) (hV : RFV N lw A im t w f M1) : RFV N lw A im t w f M2 := by
  obtain ⟨hG, hL, hA, hI, ht9, hw9, hf9⟩ := hR
  obtain ⟨⟨hT, hLR, hH⟩, hk, hi, ht, hf⟩ := hV
  have hJ : jP p2_ty (M2 227) (M2 228) (M2 229) (M2 230) := hF.2.2.2.2
  have e7 : ∀ j, 0 ≤ j → j < 1244 → M2 227 j = gm_w (M1 227 j) := fun j j0 j1 => dw_a hd hn hK hF dr_c1.1 j0 (by omega)
  have e8 : ∀ j, 0 ≤ j → j < 1244 → M2 228 j = gm_w (M1 228 j) := fun j j0 j1 => dw_a hd hn hK hF dr_c1.2.1 j0 (by omega)
  have f5 : M2 226 5 = gm_w (M1 226 5) := dw_f hd hn hK hF dr_c2.1
  have f6 : M2 226 6 = gm_w (M1 226 6) := dw_f hd hn hK hF dr_c2.2.1
  have f8 : M2 226 8 = gm_w (M1 226 8) := dw_f hd hn hK hF dr_c2.2.2.1
  have f13 : M2 226 13 = gm_w (M1 226 13) := dw_f hd hn hK hF dr_c2.2.2.2.1
  have f26 : M2 226 26 = gm_w (M1 226 26) := dw_f hd hn hK hF dr_c2.2.2.2.2
  have l8 : M1 227 8 = 0 ∨ M1 227 8 = 1 := by
    cases hlw : lw with
    | none => exact Or.inl (hLR.1 hlw)
    | some ls => exact Or.inr (hLR.2 ls hlw).1.1
  have g8 : M2 227 8 = M1 227 8 := by
    rw [e7 8 (by decide) (by decide)]
    rcases l8 with h | h <;> rw [h] <;> decide
  refine ⟨⟨⟨ws_w hT.1 hG.2 (fun j j0 j1 => e7 j j0 (by omega)), fun y y0 y1 => ?_⟩, lawr_w hLR hJ.2.2.1 e7, ?_⟩, ?_, ?_, ⟨?_, ?_⟩, fun j j0 j1 => ?_⟩
  · obtain ⟨b1, b2⟩ := hT.2 y y0 y1
    rw [dw_a hd hn hK hF dr_c1.2.2.2.1 y0 (by omega), b1]
    exact ⟨dw_i ⟨by omega, by omega⟩, b2⟩
  · obtain ⟨⟨h1, h2⟩, h3⟩ := hH
    have e30 : ∀ (y j : Int), 0 ≤ y → y < 12 → 0 ≤ j → j < 395 → M2 230 (395 * y + j) = gm_w (M1 230 (395 * y + j)) := fun y j y0 y1 j0 j1 => by
      obtain ⟨u, rfl⟩ : ∃ u : Nat, j = (u : Int) := ⟨j.toNat, by omega⟩
      obtain ⟨r, hr, hr2⟩ := List.any_eq_true.mp (List.all_eq_true.mp dr_c4 u (List.mem_range.mpr (by omega)))
      simp only [Bool.and_eq_true, decide_eq_true_eq] at hr2
      have hir := (hJ.2.1 y y0 y1 r hr (u : Int) hr2.1 hr2.2 j0 j1).1
      obtain ⟨q, hq⟩ : ∃ q : Nat, 395 * y + (u : Int) = (q : Int) := ⟨(395 * y + (u : Int)).toNat, by omega⟩
      have k230 := hF.1 230 _ dr_c3
      have ee := hK 230 (by decide) (by omega)
      rw [hq] at hir ⊢
      exact dw_x ((hd 230 (by decide) (by omega) ee).1 (by rw [ee, k230.2.2]; exact Or.inl rfl) q (by rw [ee, k230.2.2]; show q < 4740; omega)) hir
    refine ⟨⟨by rw [f6, h1]; exact gm_w_id (by omega) (by omega), h2⟩, fun i N1 hi9 => ?_⟩
    obtain ⟨c1, c2⟩ := h3 i N1 hi9
    have hil := (List.getElem?_eq_some_iff.mp hi9).1
    refine ⟨ws_w c1 (hA N1 (List.mem_of_getElem? hi9)).1.2 (fun j j0 j1 => e30 _ j (by omega) (by omega) j0 j1), ?_⟩
    rw [e30 _ 8 (by omega) (by omega) (by decide) (by decide), c2, g8]
    rcases l8 with h | h <;> rw [h] <;> decide
  · have c26 : M2 226 26 = M1 226 26 := by rw [f26]; exact dw_i ⟨by have := hk.1.1; omega, by have := hk.1.2; omega⟩
    have c35 : ∀ j, 0 ≤ j → j < 29700 → M2 235 j = M1 235 j := fun j j0 j1 => by
      have := hk.2.1 j j0 j1
      rw [dw_a hd hn hK hF dr_c1.2.2.2.2 j0 (by omega)]
      exact dw_i ⟨by omega, by omega⟩
    have b1 := hG.1.1.1.2.1
    refine ⟨by rw [c26]; exact hk.1, fun j j0 j1 => by rw [c35 j j0 j1]; exact hk.2.1 j j0 j1, fun r y l0 l1 r0 r1 y0 y1 => ?_⟩
    rw [c26] at l0 l1 ⊢
    rw [c35 _ (by omega) (by omega)]
    exact hk.2.2 r y l0 l1 r0 r1 y0 y1
  · rw [f5]
    rcases hi with ⟨h, hi⟩ | ⟨h, NI, lI, hi, hc, hl⟩
    · exact Or.inl ⟨by rw [h]; decide, hi⟩
    · exact Or.inr ⟨by rw [h]; decide, NI, lI, hi, ws_w hc (hI NI lI hi).1.2 (fun j j0 j1 => e8 j j0 (by omega)), lawr_w hl hJ.2.2.2.1 e8⟩
  · rw [f8, ht.1]
    exact dw_i ⟨by omega, by omega⟩
  · rw [f13, ht.2]
    exact dw_i ⟨by omega, by omega⟩
  · rw [dw_a hd hn hK hF dr_c1.2.2.1 j0 (by omega), hf j j0 j1]
    have := hf9 j j0 j1
    exact dw_i ⟨by omega, by omega⟩
end DR13
end
