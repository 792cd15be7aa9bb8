/-! 7c04.cv -/
section
/-! WHAT THE CLASS HOLDS, what the reference holds, of one abstract state: N told, lw the law, A remembered, im the image, t and f the TAPE, w the wrong byte. -/
noncomputable def CLV (N : Int → Int) (lw : Option (List lln)) (A : List (Int → Int)) (im : Option ((Int → Int) × Option (List lln))) (t w : Int) (f : Int → Int) (M : gm_M) : Prop := (TI N (hts (N 13)) (spd N) M ∧ HIS A M) ∧ (M 1 15 = 0 ∨ (M 1 15 = 1 ∧ ENDS N (hts (N 13)) (aphi lw N (hts (N 13))) M)) ∧ (¬ lw = none → KFL N (aphx lw N (hts (N 13))) M) ∧ ((M 1 6 = 0 ∧ im = none) ∨ (M 1 6 = 1 ∧ ∃ NI lI, im = some (NI, lI) ∧ cs M 29 = NI)) ∧ (M 1 1 = t ∧ M 1 2 = w) ∧ ∀ j, 0 ≤ j → j < 400 → M 2 j = f j
/-- the law that the reference holds -/
def LAWR (lw : Option (List lln)) (W : Int → Int) : Prop := (lw = none → W 8 = 0) ∧ ∀ ls, lw = some ls → (W 8 = 1 ∧ W 395 = (ls.length : Int)) ∧ LW ls ∧ LR ls W ∧ LRb ls W
noncomputable def RFV (N : Int → Int) (lw : Option (List lln)) (A : List (Int → Int)) (im : Option ((Int → Int) × Option (List lln))) (t w : Int) (f : Int → Int) (M : gm_M) : Prop := (TR N (hts (N 13)) M ∧ LAWR lw (M 227) ∧ HISR A (M 227 8) M) ∧ KFR N (aphi lw N (hts (N 13))) M ∧ ((M 226 5 = 0 ∧ im = none) ∨ (M 226 5 = 1 ∧ ∃ NI lI, im = some (NI, lI) ∧ ws (M 228) = NI ∧ LAWR lI (M 228))) ∧ (M 226 8 = t ∧ M 226 13 = w) ∧ ∀ j, 0 ≤ j → j < 400 → M 231 j = f j
/-- what the abstract state always is -/
def RA (N : Int → Int) (lw : Option (List lln)) (A : List (Int → Int)) (im : Option ((Int → Int) × Option (List lln))) (t w : Int) (f : Int → Int) : Prop := GJ N ∧ (∀ ls, lw = some ls → LW ls) ∧ (∀ N1 ∈ A, GJ N1 ∧ hgeo N N1) ∧ (∀ NI lI, im = some (NI, lI) → GJ NI ∧ ∀ ls, lI = some ls → LW ls) ∧ (0 ≤ t ∧ t ≤ 400) ∧ (-1 ≤ w ∧ w ≤ 400) ∧ ∀ j, 0 ≤ j → j < 400 → -128 ≤ f j ∧ f j ≤ 127
section CV4
variable {n : Nat} {K : gm_K} {R : gm_R} {M M2 : gm_M} {N N' : Int → Int} {lw : Option (List lln)} {A A' : List (Int → Int)} {im : Option ((Int → Int) × Option (List lln))} {t w : Int} {f : Int → Int}
theorem kfl_e {φ : Int → Int → Int → Int} (hk : KFL N φ M) (e6 : M2 200 6 = M 200 6) (e5 : ∀ j, M2 205 j = M 205 j) : KFL N φ M2 := by
  refine ⟨by rw [e6]; exact hk.1, fun l r y l0 l1 r0 r1 y0 y1 => ?_⟩
  rw [kv_e e6 e5]
  exact hk.2 l r y l0 l1 r0 r1 y0 y1
theorem ends_x {φ : Int → Int → Int → Int} {h : Int → Int} (he : ENDS N h φ M) (e : ∀ (k : Nat) (j : Int), k = 220 ∨ k = 221 → M2 k j = M k j) : ENDS N h φ M2 := ⟨by rw [e 220 3 (Or.inl rfl)]; exact he.1, fun l l0 l1 => by rw [e 221 _ (Or.inr rfl), e 221 _ (Or.inr rfl)]; exact he.2 l l0 l1⟩
/-- the class's cells -/
def cK (k : Nat) (j : Int) : Prop := (k = 1 ∧ (j = 1 ∨ j = 2 ∨ j = 6 ∨ j = 15)) ∨ k = 2 ∨ (3 ≤ k ∧ k ≤ 15) ∨ (29 ≤ k ∧ k ≤ 199) ∨ (k = 200 ∧ j = 6) ∨ (201 ≤ k ∧ k ≤ 203) ∨ k = 205 ∨ k = 220 ∨ k = 221
theorem clv_e (hV : CLV N lw A im t w f M) (hC : CST M2) (e : ∀ k j, cK k j → M2 k j = M k j) : CLV N lw A im t w f M2 := by
  obtain ⟨⟨hT, hH⟩, h15, hk, hi, ht, hf⟩ := hV
  have e15 : M2 1 15 = M 1 15 := e 1 15 (by unfold cK; omega)
  have e6 : M2 1 6 = M 1 6 := e 1 6 (by unfold cK; omega)
  refine ⟨⟨⟨hC, ?_, fun y y0 y1 => ?_, fun l r l0 l1 r0 r1 => ?_⟩, his_fr hH (fun x j h1 h2 => e x j (by unfold cK; omega))⟩, ?_, fun hn => kfl_e (hk hn) (e 200 6 (by unfold cK; omega)) (fun j => e 205 j (by unfold cK; omega)), ?_, ⟨?_, ?_⟩, fun j j0 j1 => ?_⟩
  · rw [← hT.2.1]
    exact cs_same fun x j h1 h2 => e x j (by unfold cK; omega)
  · rw [e 201 y (by unfold cK; omega), e 203 y (by unfold cK; omega)]
    exact hT.2.2.1 y y0 y1
  · rw [e 202 _ (by unfold cK; omega)]
    exact hT.2.2.2 l r l0 l1 r0 r1
  · rw [e15]
    exact h15.imp_right fun h => ⟨h.1, ends_x h.2 (fun k j hk => e k j (by unfold cK; omega))⟩
  · rw [e6]
    refine hi.imp_right fun ⟨h1, NI, lI, h2, h3⟩ => ⟨h1, NI, lI, h2, ?_⟩
    rw [← h3]
    exact cs_same fun x j h1 h2 => e x j (by unfold cK; omega)
  · rw [e 1 1 (by unfold cK; omega)]; exact ht.1
  · rw [e 1 2 (by unfold cK; omega)]; exact ht.2
  · rw [e 2 j (by unfold cK; omega)]; exact hf j j0 j1
/-- the reference's cells -/
def rK (k : Nat) (j : Int) : Prop := k = 227 ∨ k = 228 ∨ k = 230 ∨ k = 231 ∨ k = 234 ∨ k = 235 ∨ (k = 226 ∧ (j = 5 ∨ j = 6 ∨ j = 8 ∨ j = 13 ∨ j = 26))
theorem kfr_e {φ : Int → Int → Int → Int} (hk : KFR N φ M) (e6 : M2 226 26 = M 226 26) (e5 : ∀ j, M2 235 j = M 235 j) : KFR N φ M2 := by
  refine ⟨by rw [e6]; exact hk.1, fun j j0 j1 => by rw [e5]; exact hk.2.1 j j0 j1, fun r y => ?_⟩
  rw [e6, e5]
  exact hk.2.2 r y
theorem rfv_e (hV : RFV N lw A im t w f M) (e : ∀ k j, rK k j → M2 k j = M k j) : RFV N lw A im t w f M2 := by
  obtain ⟨⟨hT, hL, hH⟩, hk, hi, ht, hf⟩ := hV
  have e7 : M2 227 = M 227 := funext fun j => e 227 j (by unfold rK; omega)
  have e8 : M2 228 = M 228 := funext fun j => e 228 j (by unfold rK; omega)
  refine ⟨⟨⟨by rw [e7]; exact hT.1, fun y y0 y1 => ?_⟩, by rw [e7]; exact hL, ?_⟩, kfr_e hk (e 226 26 (by unfold rK; omega)) (fun j => e 235 j (by unfold rK; omega)), ?_, ⟨?_, ?_⟩, fun j j0 j1 => ?_⟩
  · rw [e 234 y (by unfold rK; omega)]
    exact hT.2 y y0 y1
  · rw [e7]
    exact hisr_e hH (e 226 6 (by unfold rK; omega)) (fun j => e 230 j (by unfold rK; omega))
  · rw [e 226 5 (by unfold rK; omega), e8]
    exact hi
  · rw [e 226 8 (by unfold rK; omega)]; exact ht.1
  · rw [e 226 13 (by unfold rK; omega)]; exact ht.2
  · rw [e 231 j (by unfold rK; omega)]; exact hf j j0 j1
/-- another valley of the same kind in the class -/
theorem clv_up (hV : CLV N lw A im t w f M) (hN : NR N) (hg : hgeo N N') (hC : CST M2) (hc : cs M2 3 = N') (hH : HIS A' M2) (h15 : M2 1 15 = 0 ∨ (M2 1 15 = 1 ∧ ENDS N' (hts (N' 13)) (aphi lw N' (hts (N' 13))) M2)) (hk : ¬ lw = none → KFL N (aphx lw N (hts (N 13))) M2) (e1 : ∀ j, j = 1 ∨ j = 2 ∨ j = 6 → M2 1 j = M 1 j) (e : ∀ (k : Nat) (j : Int), k = 2 ∨ (29 ≤ k ∧ k ≤ 41) ∨ (201 ≤ k ∧ k ≤ 203) → M2 k j = M k j) : CLV N' lw A' im t w f M2 := by
  obtain ⟨⟨hT, -⟩, -, -, hi, ht, hf⟩ := hV
  refine ⟨⟨hg_ti hN hg hT hC hc (fun k j h1 h2 => e k j (by omega)), hH⟩, h15, fun hn => ?_, ?_, ⟨?_, ?_⟩, fun j j0 j1 => ?_⟩
  · rw [hg_hts hg, hg_aphx hg hN]
    exact hg_kfl hg (hk hn)
  · rw [e1 6 (by decide)]
    refine hi.imp_right fun ⟨h1, NI, lI, h2, h3⟩ => ⟨h1, NI, lI, h2, ?_⟩
    rw [← h3]
    exact cs_same fun x j h1 h2 => e x j (by omega)
  · rw [e1 1 (by decide)]; exact ht.1
  · rw [e1 2 (by decide)]; exact ht.2
  · rw [e 2 j (by omega)]; exact hf j j0 j1
/-- another valley of the same kind in the reference -/
theorem rfv_up (hV : RFV N lw A im t w f M) (hN : NR N) (hg : hgeo N N') (hw : ws (M2 227) = N') (h395 : ∀ j, 395 ≤ j → M2 227 j = M 227 j) (h8 : M2 227 8 = M 227 8) (hH : HISR A' (M 227 8) M2) (hk : KFR N (aphi lw N (hts (N 13))) M2) (e1 : ∀ j, j = 5 ∨ j = 8 ∨ j = 13 → M2 226 j = M 226 j) (e : ∀ (k : Nat) (j : Int), k = 228 ∨ k = 231 ∨ k = 234 → M2 k j = M k j) (hb : ∀ ls, lw = some ls → ∀ k : Nat, k < ls.length → 0 ≤ M 227 (396 + 4 * (k : Int) + 2)) : RFV N' lw A' im t w f M2 := by
  obtain ⟨⟨hT, hL, -⟩, -, hi, ht, hf⟩ := hV
  have e8 : M2 228 = M 228 := funext fun j => e 228 j (by omega)
  refine ⟨⟨⟨hw, fun y y0 y1 => ?_⟩, ⟨fun hn => by rw [h8]; exact hL.1 hn, fun ls hs => ?_⟩, by rw [h8]; exact hH⟩, ?_, ?_, ⟨?_, ?_⟩, fun j j0 j1 => ?_⟩
  · rw [hg_hts hg, e 234 y (by omega)]
    exact hT.2 y y0 y1
  · obtain ⟨⟨a1, a2⟩, a3, a4, a5⟩ := hL.2 ls hs
    refine ⟨⟨by rw [h8]; exact a1, by rw [h395 395 (by decide)]; exact a2⟩, a3, fun k x hx => ?_, fun k x hx => ?_⟩
    · have hk9 := hb ls hs k (List.getElem?_eq_some_iff.mp hx).1
      obtain ⟨b0, b1, b2, b3⟩ := a4 k x hx
      rw [h395 (396 + 4 * (k : Int)) (by omega), h395 (396 + 4 * (k : Int) + 1) (by omega), h395 (396 + 4 * (k : Int) + 2) (by omega), h395 (396 + 4 * (k : Int) + 3) (by omega)]
      refine ⟨b0, b1, b2, fun t ht => ⟨(b3 t ht).1, fun j v hv => ?_⟩⟩
      rw [h395 _ (by omega), h395 _ (by omega)]
      exact (b3 t ht).2 j v hv
    · have hk9 := hb ls hs k (List.getElem?_eq_some_iff.mp hx).1
      rw [h395 (396 + 4 * (k : Int) + 2) (by omega)]
      exact a5 k x hx
  · rw [hg_hts hg, hg_aphi hg hN.2.1.1]
    exact hg_kfr hg hk
  · rw [e1 5 (by decide), e8]
    exact hi
  · rw [e1 8 (by decide)]; exact ht.1
  · rw [e1 13 (by decide)]; exact ht.2
  · rw [e 231 j (by omega)]; exact hf j j0 j1
end CV4
end
/-! 7c05.ca -/
section
/-! THE ACTS OF THE CLASS upon the abstract state. -/
/-- post: how it ends (0, or which refusal), the answer, what is told, what is remembered -/
noncomputable def ap_post (N : Int → Int) (A : List (Int → Int)) (a b : Int) : Int × Int × (Int → Int) × List (Int → Int) :=
  tif (¬ ((0 ≤ a ∧ a < N 3) ∧ (0 ≤ b ∧ b < N 3))) (1, 0, N, A) (tif (a = b) (2, 0, N, A) (tif (N 4 = 24) (3, 0, N, A) (0, N 4, nthr N a b ((N (95 + (a * 3 + 0)))) ((N (95 + (a * 3 + 1)))), (N :: A).take 12)))
noncomputable def ap_watch (N : Int → Int) (A : List (Int → Int)) (p l : Int) : Int × Int × (Int → Int) × List (Int → Int) :=
  tif (¬ ((0 ≤ p ∧ p < N 3) ∧ (l = -1 ∨ (0 ≤ l ∧ l < N 0)))) (1, 0, N, A) (0, (N (95 + (p * 3 + 2))), nwat N p l, (N :: A).take 12)
noncomputable def ap_open (lw : Option (List lln)) (N : Int → Int) (A : List (Int → Int)) (l : Int) : Int × Int × (Int → Int) × List (Int → Int) :=
  tif (¬ (0 ≤ l ∧ l < N 4)) (1, 0, N, A) (tif (¬ WTS N l (aout N (hts (N 13)) (aphi lw N (hts (N 13))) l)) (2, 0, N, A) (0, N 9 - (N (119 + (l * 7 + 3))), nopn N l ((N (119 + (l * 7 + 1)))), (N :: A).take 12))
noncomputable def ap_yrs (lw : Option (List lln)) (N : Int → Int) (y : Int) : (Int → Int) × Int := yrs (fun N2 => apsi lw N2 (hts (N 13))) (aout N (hts (N 13)) (aphi lw N (hts (N 13)))) (adp N (hts (N 13)) (aphi lw N (hts (N 13)))) (N, 0) y.toNat
noncomputable def ap_years (lw : Option (List lln)) (N : Int → Int) (A : List (Int → Int)) (y : Int) : Int × Int × (Int → Int) × List (Int → Int) :=
  tif (¬ (1 ≤ y ∧ y ≤ 50 ∧ y ≤ 299 - N 9)) (1, 0, N, A) (0, (ap_yrs lw N y).2, (ap_yrs lw N y).1, (N :: A).take 12)
/-- how the references change: not, or one more is remembered, or one less -/
def STEP (R R1 : gm_R) (M M1 : gm_M) (A A' : List (Int → Int)) : Prop := (R1 = R ∧ M1 42 1 = M 42 1 ∧ A' = A) ∨ (∃ p : Nat, p < 12 ∧ (M 42 1 = (p : Int) ∧ M1 42 1 = ((p : Int) + 1) % 12) ∧ R1 = gm_uR R (44 + 13 * p) 8 (R 3 8) ∧ ∃ N0, A' = (N0 :: A).take 12) ∨ (∃ p : Nat, p < 12 ∧ (M1 42 1 = (p : Int) ∧ M 42 1 = ((p : Int) + 1) % 12) ∧ R1 = gm_uR R 3 8 (R (44 + 13 * p) 8) ∧ ∃ N0, A = N0 :: A')
/-- what one of the law's own methods hands back -/
noncomputable def AQ (n : Nat) (K : gm_K) (R : gm_R) (M : gm_M) (r : Int × Int × (Int → Int) × List (Int → Int)) (lw : Option (List lln)) (im : Option ((Int → Int) × Option (List lln))) (t w : Int) (f : Int → Int) (A : List (Int → Int)) : gm_Q := fun o n1 K1 R1 M1 => (n1 = n ∧ K1 = K ∧ ∀ (k : Nat) (j : Int), 246 ≤ k → M1 k j = M k j) ∧ o = .inl (some (gm_vi r.1)) ∧ (r.1 = 0 → M1 245 0 = gm_w r.2.1) ∧ CLV r.2.2.1 lw r.2.2.2 im t w f M1 ∧ STEP R R1 M M1 A r.2.2.2
/-- behind a call that the law's own method makes: the answer, or which refusal -/
def hQ (l : List (Nat × Int)) (Q : gm_Q) : gm_Q := fun o n1 K1 R1 M1 => (245 ≤ n1 ∧ K1 245 = (2, 1)) ∧ ((∃ v, o = .inl (some (gm_vi v)) ∧ Q (.inl (some (gm_vi 0))) n1 K1 R1 (gm_uM M1 245 0 (gm_w v))) ∨ ∃ i ∈ l, o = .inr i.1 ∧ Q (.inl (some (gm_vi i.2))) n1 K1 R1 M1)
theorem hQ_v {l : List (Nat × Int)} {Q : gm_Q} {n1 : Nat} {K1 : gm_K} {R1 : gm_R} {M1 : gm_M} {v : Int} (hn : 245 ≤ n1) (hK : K1 245 = (2, 1)) (h : Q (.inl (some (gm_vi 0))) n1 K1 R1 (gm_uM M1 245 0 (gm_w v))) : hQ l Q (.inl (some (gm_vi v))) n1 K1 R1 M1 := ⟨⟨hn, hK⟩, Or.inl ⟨v, rfl, h⟩⟩
theorem hQ_x {l : List (Nat × Int)} {Q : gm_Q} {n1 x : Nat} {K1 : gm_K} {R1 : gm_R} {M1 : gm_M} {c : Int} (hn : 245 ≤ n1) (hK : K1 245 = (2, 1)) (hm : (x, c) ∈ l) (h : Q (.inl (some (gm_vi c))) n1 K1 R1 M1) : hQ l Q (.inr x) n1 K1 R1 M1 := ⟨⟨hn, hK⟩, Or.inr ⟨(x, c), hm, rfl, h⟩⟩
theorem hgeo_thr {N : Int → Int} {a b l r : Int} (h0 : 0 ≤ N 4) : hgeo N (nthr N a b l r) := fun i i0 i1 i2 => nthr_o ⟨i0, by omega⟩ (fun e => i2 (Or.inl e)) h0
theorem hgeo_wat {N : Int → Int} {p l : Int} (h0 : 0 ≤ p) : hgeo N (nwat N p l) := fun i i0 i1 i2 => nwat_o (by omega)
section CA5
variable {X : Int → Int} {LX d bc bs n : Nat} {K : gm_K} {R : gm_R} {M : gm_M} {N : Int → Int} {lw : Option (List lln)} {A : List (Int → Int)} {im : Option ((Int → Int) × Option (List lln))} {t w : Int} {f : Int → Int} {a b p l y : Int} {NC : Nat} {C Ln G : Int → Int}
theorem aq_0 {r : Int × Int × (Int → Int) × List (Int → Int)} {c : Int} (hr : r = (c, 0, N, A)) (hc : ¬ c = 0) (hV : CLV N lw A im t w f M) : AQ n K R M r lw im t w f A (.inl (some (gm_vi c))) n K R M := by
  subst hr
  exact ⟨⟨rfl, rfl, fun _ _ _ => rfl⟩, rfl, fun e => absurd e hc, hV, Or.inl ⟨rfl, rfl, rfl⟩⟩
theorem clv_245 {v : Int} (hV : CLV N lw A im t w f M) (hC : CST M) : CLV N lw A im t w f (gm_uM M 245 0 v) := clv_e hV (cst_fr (W := [(245, some 0)]) hC (fr_p fr_0 (Or.inr (by decide))) (by decide +kernel)) (fun k j hk => uM_ne (by unfold cK at hk; omega))
/-- post -/
theorem ca_post (hd : 12 ≤ d) (hbc : 4 ≤ bc) (hbs : 24 ≤ bs) (hE : E0 n K R) (hn : 245 ≤ n) (hK : K 245 = (2, 1)) (hG : GJ N) (hV : CLV N lw A im t w f M) (ha : gm_ir a) (hb : gm_ir b) : gm_Wp X LX d bc bs 152 0 (gm_ent 152 [gm_vr 1, gm_vi a, gm_vi b]) [] n K R M (hQ [(3, 1), (0, 2), (1, 3)] (AQ n K R M (ap_post N A a b) lw im t w f A)) := by
  have h4 := hG.1.1.2.1.2.2.2.1
  refine ac_152 hd hbc hbs hE hV.1.1 hG.1.1 hV.1.2 ha hb (fun h => ?_) (fun h1 h2 h3 => ?_) (fun h1 h2 h3 h5 => ?_) (fun h1 h2 h3 h5 p M2 hp hk hH hC hc h15 hx => ?_)
  · exact hQ_x hn hK (c := 1) (by decide) (aq_0 (tif_t h) (by decide) hV)
  · exact hQ_x hn hK (c := 2) (by decide) (aq_0 ((tif_f (fun hh => hh ⟨h1, h2⟩)).trans (tif_t h3)) (by decide) hV)
  · exact hQ_x hn hK (c := 3) (by decide) (aq_0 ((tif_f (fun hh => hh ⟨h1, h2⟩)).trans ((tif_f h3).trans (tif_t h5))) (by decide) hV)
  · refine hQ_v hn hK ?_
    have er : ap_post N A a b = (0, N 4, nthr N a b ((N (95 + (a * 3 + 0)))) ((N (95 + (a * 3 + 1)))), (N :: A).take 12) := (tif_f (fun hh => hh ⟨h1, h2⟩)).trans ((tif_f h3).trans (tif_f (by omega)))
    rw [er]
    have e1 : ∀ j, j = 1 ∨ j = 2 ∨ j = 6 → M2 1 j = M 1 j := fun j hj => hx 1 j (Or.inl (by decide)) (by decide) (by decide) (by omega)
    have e9 : ∀ (k : Nat) (j : Int), k = 2 ∨ (29 ≤ k ∧ k ≤ 41) ∨ (200 ≤ k) → M2 k j = M k j := fun k j hk => hx k j (by omega) (by omega) (by omega) (by omega)
    have hV2 := clv_up hV hG.1.1 (hgeo_thr h4.1) hC hc hH (Or.inl h15) (fun hn => kfl_e (hV.2.2.1 hn) (e9 200 6 (by omega)) (fun j => e9 205 j (by omega))) e1 (fun k j hk => e9 k j (by omega))
    exact ⟨⟨rfl, rfl, fun k j hk9 => (uM_ne (by omega)).trans (e9 k j (by omega))⟩, rfl, fun _ => uM_at, clv_245 hV2 hC, Or.inr (Or.inl ⟨p, hp, ⟨hk.1, (uM_ne (by decide)).trans hk.2⟩, rfl, N, rfl⟩)⟩
/-- watch -/
theorem ca_watch (hd : 12 ≤ d) (hbc : 4 ≤ bc) (hbs : 24 ≤ bs) (hE : E0 n K R) (hn : 245 ≤ n) (hK : K 245 = (2, 1)) (hG : GJ N) (hV : CLV N lw A im t w f M) (ha : gm_ir p) (hb : gm_ir l) : gm_Wp X LX d bc bs 156 0 (gm_ent 156 [gm_vr 1, gm_vi p, gm_vi l]) [] n K R M (hQ [(3, 1)] (AQ n K R M (ap_watch N A p l) lw im t w f A)) := by
  have h3 := hG.1.1.2.1.2.2.1
  refine ac_156 hd hbc hbs hE hV.1.1 hG.1.1 hV.1.2 ha hb (fun h => ?_) (fun h1 h2 q M2 hp hk hH hC hc hx => ?_)
  · exact hQ_x hn hK (c := 1) (by decide) (aq_0 (tif_t h) (by decide) hV)
  · refine hQ_v hn hK ?_
    have er : ap_watch N A p l = (0, (N (95 + (p * 3 + 2))), nwat N p l, (N :: A).take 12) := tif_f (fun hh => hh ⟨h1, h2⟩)
    rw [er]
    have e9 : ∀ (k : Nat) (j : Int), k = 1 ∨ k = 2 ∨ (29 ≤ k ∧ k ≤ 41) ∨ (200 ≤ k) → M2 k j = M k j := fun k j hk => hx k j (by omega) (by omega)
    have hg : geo N (nwat N p l) := geo_nwat ⟨h1.1, by omega⟩
    have h15 : M2 1 15 = 0 ∨ (M2 1 15 = 1 ∧ ENDS (nwat N p l) (hts (nwat N p l 13)) (aphi lw (nwat N p l) (hts (nwat N p l 13))) M2) := by
      rw [e9 1 15 (Or.inl rfl), hg_hts (hgeo_g hg)]
      exact hV.2.1.imp_right fun h => ⟨h.1, ends_g hg hG.1.1 (nwat_o (by omega)) h.2 (fun k j hk => e9 k j (by omega))⟩
    have hV2 := clv_up hV hG.1.1 (hgeo_g hg) hC hc hH h15 (fun hn => kfl_e (hV.2.2.1 hn) (e9 200 6 (by omega)) (fun j => e9 205 j (by omega))) (fun j _ => e9 1 j (by omega)) (fun k j hk => e9 k j (by omega))
    exact ⟨⟨rfl, rfl, fun k j hk9 => (uM_ne (by omega)).trans (e9 k j (by omega))⟩, rfl, fun _ => uM_at, clv_245 hV2 hC, Or.inr (Or.inl ⟨q, hp, ⟨hk.1, (uM_ne (by decide)).trans hk.2⟩, rfl, N, rfl⟩)⟩
/-- the class's law in what a call sees -/
def LBX (NC : Nat) (C Ln : Int → Int) (lw : Option (List lln)) (M : gm_M) : Prop := ∀ ls, lw = some ls → LB NC C Ln (ls.length : Int) M
theorem fic_of (hL : LBX NC C Ln lw M) (hV : CLV N lw A im t w f M) : FIC NC C Ln lw N (hts (N 13)) M := fun ls e => ⟨hL ls e, hV.2.2.1 (by rw [e]; exact fun hh => nomatch hh)⟩
/-- open -/
theorem ca_open (hd : 24 ≤ d) (hbc : 4 ≤ bc) (hbs : 24 ≤ bs) (hE : E0 n K R) (hn : 245 ≤ n) (hK : K 245 = (2, 1)) (hc : CC n K R NC C Ln G lw) (hL : LBX NC C Ln lw M) (hG : GJ N) (hV : CLV N lw A im t w f M) (hl : gm_ir l) : gm_Wp X LX d bc bs 158 0 (gm_ent 158 [gm_vr 1, gm_vi l]) [] n K R M (hQ [(3, 1), (2, 2)] (AQ n K R M (ap_open lw N A l) lw im t w f A)) := by
  have h4 := hG.1.1.2.1.2.2.2.1
  have ou : ∀ {o9 d9 : Int}, OUTR N (hts (N 13)) (aphi lw N (hts (N 13))) l o9 d9 → o9 = aout N (hts (N 13)) (aphi lw N (hts (N 13))) l := fun h => (OUTR_u h (aout_s l)).1
  refine ac_158 hd hbc hbs hE hV.1.1 hG.1.1 hG.1.2.2 hV.1.2 (flw_a hE hc hG.1.1 hG.1.2.1) (fic_of hL hV) hV.2.1 hl (fun h => ?_) (fun h1 o9 d9 M2 ho hw hf hI h15 he => ?_) (fun h1 o9 d9 p M1 M2 ho hw hf hI h15 he hp hk hH hC hc2 hx => ?_)
  · exact hQ_x hn hK (c := 1) (by decide) (aq_0 (tif_t h) (by decide) hV)
  · refine hQ_x hn hK (c := 2) (by decide) ?_
    rw [ou ho] at hw
    have er : ap_open lw N A l = (2, 0, N, A) := (tif_f (fun hh => hh h1)).trans (tif_t hw)
    rw [er]
    have hC2 : CST M2 := cst_fr hV.1.1.1 hf (by decide +kernel)
    have e1 : ∀ j, j = 1 ∨ j = 2 ∨ j = 6 → M2 1 j = M 1 j := fun j hj => by rcases hj with rfl | rfl | rfl <;> exact fr_j hf (by decide)
    refine ⟨⟨rfl, rfl, fun k j hk9 => hf k j (by intro hm; simp at hm; omega) (by intro hm; simp at hm; omega)⟩, rfl, fun e => absurd (show (2 : Int) = 0 from e) (by decide), ?_, Or.inl ⟨rfl, fr_c hf (by decide), rfl⟩⟩
    exact clv_up hV hG.1.1 hgeo_r hC2 ((cs_fr hf (by decide)).trans hV.1.1.2.1) (his_w hV.1.2 hf (by decide)) (Or.inr ⟨h15, he⟩) (fun hn => by
      cases hlw : lw with
      | none => exact absurd hlw hn
      | some ls => rw [← hlw]; exact (hI ls hlw).2) e1 (fun k j hk => hf k j (by intro hm; simp at hm; omega) (by intro hm; simp at hm; omega))
  · refine hQ_v hn hK ?_
    have hw9 := hw
    rw [ou ho] at hw
    have er : ap_open lw N A l = (0, N 9 - (N (119 + (l * 7 + 3))), nopn N l ((N (119 + (l * 7 + 1)))), (N :: A).take 12) := (tif_f (fun hh => hh h1)).trans (tif_f (fun hh => hh hw))
    rw [er]
    have h14 := logi_lt hG.1.1 hG.1.2.2 h1 hw.2.1
    have hl24 : 0 ≤ l ∧ l < 24 := ⟨h1.1, by omega⟩
    have hg : geo N (nopn N l ((N (119 + (l * 7 + 1))))) := geo_nopn hl24 h14
    have e1 : ∀ j, j = 1 ∨ j = 2 ∨ j = 6 → M2 1 j = M 1 j := fun j hj => (hx 1 j (Or.inl (by decide)) (by decide) (by decide) (by decide)).trans (by rcases hj with rfl | rfl | rfl <;> exact fr_j hf (by decide))
    have e9 : ∀ (k : Nat) (j : Int), (k = 1 ∧ j = 15) ∨ k = 2 ∨ (29 ≤ k ∧ k ≤ 41) ∨ (200 ≤ k) → M2 k j = M1 k j := fun k j hk => hx k j (by omega) (by omega) (by omega) (by omega)
    have h15b : M2 1 15 = 0 ∨ (M2 1 15 = 1 ∧ ENDS (nopn N l ((N (119 + (l * 7 + 1))))) (hts (nopn N l ((N (119 + (l * 7 + 1)))) 13)) (aphi lw (nopn N l ((N (119 + (l * 7 + 1))))) (hts (nopn N l ((N (119 + (l * 7 + 1)))) 13))) M2) := by
      rw [hg_hts (hgeo_g hg)]
      exact Or.inr ⟨(e9 1 15 (by decide)).trans h15, ends_g hg hG.1.1 (nopn_o ⟨by decide, by decide⟩ (by decide) hl24 h14) he (fun k j hk => e9 k j (by omega))⟩
    have hV2 := clv_up hV hG.1.1 (hgeo_g hg) hC hc2 hH h15b (fun hn => by
      cases hlw : lw with
      | none => exact absurd hlw hn
      | some ls => rw [← hlw]; exact kfl_e (hI ls hlw).2 (e9 200 6 (by omega)) (fun j => e9 205 j (by omega))) e1 (fun k j hk => (e9 k j (by omega)).trans (hf k j (by intro hm; simp at hm; omega) (by intro hm; simp at hm; omega)))
    exact ⟨⟨rfl, rfl, fun k j hk9 => (uM_ne (by omega)).trans ((e9 k j (by omega)).trans (hf k j (by intro hm; simp at hm; omega) (by intro hm; simp at hm; omega)))⟩, rfl, fun _ => uM_at, clv_245 hV2 hC, Or.inr (Or.inl ⟨p, hp, ⟨(fr_c hf (by decide)).symm.trans hk.1, (uM_ne (by decide)).trans hk.2⟩, rfl, N, rfl⟩)⟩
/-- years -/
theorem ca_years (hd : 24 ≤ d) (hbc : 4 ≤ bc) (hbs : 24 ≤ bs) (hE : E0 n K R) (hn : 245 ≤ n) (hK : K 245 = (2, 1)) (hc : CC n K R NC C Ln G lw) (hL : LBX NC C Ln lw M) (hG : GJ N) (hV : CLV N lw A im t w f M) (hy : gm_ir y) : gm_Wp X LX d bc bs 161 0 (gm_ent 161 [gm_vr 1, gm_vi y]) [] n K R M (hQ [(0, 1)] (AQ n K R M (ap_years lw N A y) lw im t w f A)) := by
  have hE2 : ∀ p : Nat, p < 12 → E0 n K (gm_uR R (44 + 13 * p) 8 (R 3 8)) := fun p hp => e0h hE hp
  have hc2 : ∀ p : Nat, p < 12 → CC n K (gm_uR R (44 + 13 * p) 8 (R 3 8)) NC C Ln G lw := fun p hp => cc_u hc (by omega) (by omega)
  refine ac_161 (Ψ := fun N2 => apsi lw N2 (hts (N 13))) (o := aout N (hts (N 13)) (aphi lw N (hts (N 13)))) (dd := adp N (hts (N 13)) (aphi lw N (hts (N 13)))) hd hbc hbs hE hV.1.1 hG.1.1 hG.1.2.2 hV.1.2 (flw_a hE hc hG.1.1 hG.1.2.1) (fic_of hL hV) hV.2.1 (fun M M2 hx hI ls e => ?_) (fun p hp => flw_a (hE2 p hp) (hc2 p hp) hG.1.1 hG.1.2.1) (fun p hp N2 hg hN2 => mow_a (hE2 p hp) (hc2 p hp) hG.1.1 hg hN2) hy (fun l _ _ => aout_s l) (fun h => ?_) (fun h p M1 M2 hp hk hH hI h15 h220 he hC hc9 hx hf => ?_)
  · obtain ⟨⟨i1, i2, i3, i4⟩, i5⟩ := hI ls e
    have e9 : ∀ (k : Nat) (j : Int), 199 < k → M2 k j = M k j := fun k j hk => hx k j (Or.inr hk)
    have e7 : M2 247 = M 247 := funext fun j => e9 247 j (by decide)
    have e8 : M2 248 = M 248 := funext fun j => e9 248 j (by decide)
    have e0 : M2 249 = M 249 := funext fun j => e9 249 j (by decide)
    refine ⟨⟨?_, fun j => (e9 247 j (by decide)).trans (i2 j), fun j => (e9 249 j (by decide)).trans (i3 j), (e9 248 3 (by decide)).trans i4⟩, kfl_e i5 (e9 200 6 (by decide)) (fun j => e9 205 j (by decide))⟩
    unfold LM at i1 ⊢
    rw [e7, e8, e0]
    exact i1
  · exact hQ_x hn hK (c := 1) (by decide) (aq_0 (tif_t h) (by decide) hV)
  · refine hQ_v hn hK ?_
    have er : ap_years lw N A y = (0, (ap_yrs lw N y).2, (ap_yrs lw N y).1, (N :: A).take 12) := tif_f (fun hh => hh h)
    rw [er]
    have hh9 : N 9 + (y.toNat : Int) ≤ 299 := by omega
    obtain ⟨-, -, hg, h4, -⟩ := yrs_i (Ψ := fun N2 => apsi lw N2 (hts (N 13))) (o := aout N (hts (N 13)) (aphi lw N (hts (N 13)))) (dd := adp N (hts (N 13)) (aphi lw N (hts (N 13)))) hG.1.1 hG.1.2.2 y.toNat hh9
    have hg : geo N (ap_yrs lw N y).1 := hg
    have h4 : (ap_yrs lw N y).1 4 = N 4 := h4
    have hc9 : cs M2 3 = (ap_yrs lw N y).1 := hc9
    have e1 : ∀ j, j = 1 ∨ j = 2 ∨ j = 6 → M2 1 j = M 1 j := fun j hj => Eq.trans (by rcases hj with rfl | rfl | rfl <;> exact fr_j hf (by decide)) (hx 1 j (Or.inl (by decide)))
    have e9 : ∀ (k : Nat) (j : Int), k = 2 ∨ (29 ≤ k ∧ k ≤ 41) ∨ (201 ≤ k ∧ k ≤ 203) ∨ 246 ≤ k → M2 k j = M k j := fun k j hk => (hf k j (by intro hm; simp at hm; omega) (by intro hm; simp at hm; omega)).trans (hx k j (by omega))
    have h15b : M2 1 15 = 0 ∨ (M2 1 15 = 1 ∧ ENDS (ap_yrs lw N y).1 (hts ((ap_yrs lw N y).1 13)) (aphi lw (ap_yrs lw N y).1 (hts ((ap_yrs lw N y).1 13))) M2) := by
      rw [hg_hts (hgeo_g hg)]
      exact Or.inr ⟨h15, ends_g hg hG.1.1 h4 ⟨h220, he⟩ (fun _ _ _ => rfl)⟩
    have hV2 := clv_up hV hG.1.1 (hgeo_g hg) hC hc9 hH h15b (fun hn => by
      cases hlw : lw with
      | none => exact absurd hlw hn
      | some ls => rw [← hlw]; exact (hI ls hlw).2) e1 (fun k j hk => e9 k j (by omega))
    exact ⟨⟨rfl, rfl, fun k j hk9 => (uM_ne (by omega)).trans (e9 k j (by omega))⟩, rfl, fun _ => uM_at, clv_245 hV2 hC, Or.inr (Or.inl ⟨p, hp, ⟨hk.1, (uM_ne (by decide)).trans hk.2⟩, rfl, N, rfl⟩)⟩
end CA5
end
/-! 7c06.cd -/
section
/-! UNDO, THE IMAGE, BACK, a text of the valley, a law: the class upon the abstract state. -/
/-- what a call on the class itself leaves -/
noncomputable def CQ (n : Nat) (K : gm_K) (M : gm_M) (o9 : gm_O) (RR : gm_R → gm_M → Prop) (N : Int → Int) (lw : Option (List lln)) (A : List (Int → Int)) (im : Option ((Int → Int) × Option (List lln))) (t w : Int) (f : Int → Int) : gm_Q := fun o n1 K1 R1 M1 => (n1 = n ∧ K1 = K ∧ ∀ (k : Nat) (j : Int), 246 ≤ k → M1 k j = M k j) ∧ o = o9 ∧ CLV N lw A im t w f M1 ∧ RR R1 M1
def ap_undo (N : Int → Int) : List (Int → Int) → Int × (Int → Int) × List (Int → Int)
  | [] => (0, N, [])
  | N0 :: A1 => (1, N0, A1)
def ap_back (N : Int → Int) (lw : Option (List lln)) (A : List (Int → Int)) : Option ((Int → Int) × Option (List lln)) → Int × (Int → Int) × Option (List lln) × List (Int → Int)
  | none => (0, N, lw, A)
  | some q => (1, q.1, q.2, [])
noncomputable def ap_valley (f : Int → Int) (t : Int) (N : Int → Int) (A : List (Int → Int)) : Int × Int × (Int → Int) × List (Int → Int) × Int :=
  tif (¬ (v_val f t N).1 = true) (1, 0, N, A, (v_val f t N).2.1) (tif (N 7 = 12) (2, 0, N, A, -1) (0, N 7 + 1, nup (v_val f t N).2.2 7 (N 7 + 1), [], -1))
/-- what the law's own method for a text of the valley hands back -/
noncomputable def VQ (n : Nat) (K : gm_K) (R : gm_R) (M : gm_M) (r : Int × Int × (Int → Int) × List (Int → Int) × Int) (lw : Option (List lln)) (im : Option ((Int → Int) × Option (List lln))) (f : Int → Int) : gm_Q := fun o n1 K1 R1 M1 => (n1 = n ∧ K1 = K ∧ ∀ (k : Nat) (j : Int), 246 ≤ k → M1 k j = M k j) ∧ o = .inl (some (gm_vi r.1)) ∧ (r.1 = 0 → M1 245 0 = gm_w r.2.1) ∧ CLV r.2.2.1 lw r.2.2.2.1 im 0 r.2.2.2.2 f M1 ∧ M1 42 1 = M 42 1 ∧ (R1 = gm_uR R 16 8 (R 3 8) ∨ R1 = gm_uR (gm_uR R 16 8 (R 3 8)) 3 8 ((gm_uR R 16 8 (R 3 8)) 16 8))
section CD6
variable {X : Int → Int} {LX d bc bs n : Nat} {K : gm_K} {R : gm_R} {M M2 : gm_M} {N NI : Int → Int} {lw lI : Option (List lln)} {A : List (Int → Int)} {im : Option ((Int → Int) × Option (List lln))} {t w : Int} {f : Int → Int}
theorem kfl_new {φ : Int → Int → Int → Int} (h : M 200 6 = 1) : KFL N φ M := by
  refine ⟨by rw [h]; decide, fun l r y _ _ _ _ _ _ => Or.inl ?_⟩
  unfold kv
  rw [h]
  rfl
theorem his_nil {nx : Int} (h0 : 0 ≤ nx ∧ nx < 12) (h1 : M 42 1 = nx) (h2 : M 42 2 = 0) : HIS [] M := ⟨nx, h0, h1, h2, by decide, fun i N1 h => by simp at h⟩
theorem his_nx (h : HIS A M) : 0 ≤ M 42 1 ∧ M 42 1 < 12 := by
  obtain ⟨nx, h0, h1, -⟩ := h
  omega
theorem ca_undo (hd : 8 ≤ d) (hE : E0 n K R) (hG : GJ N) (hA : ∀ N1 ∈ A, GJ N1 ∧ hgeo N N1) (hV : CLV N lw A im t w f M) : gm_Wp X LX d bc bs 54 0 (gm_ent 54 [gm_vr 1]) [] n K R M (CQ n K M (.inl (some (gm_vi (ap_undo N A).1))) (fun R1 M1 => STEP R R1 M M1 A (ap_undo N A).2.2) (ap_undo N A).2.1 lw (ap_undo N A).2.2 im t w f) := by
  refine ac_54 hd hE hV.1.1 hG.1.1 hV.1.2 (fun N1 h => (hA N1 h).1.1.1) (fun hA0 M2 hf h15 => ?_) (fun N0 A1 p M2 hA0 hp hk hH hC hc h15 hx => ?_)
  · subst hA0
    have hC2 : CST M2 := cst_fr hV.1.1.1 hf (by decide +kernel)
    exact ⟨⟨rfl, rfl, fun k j hk => hf k j (by intro hm; simp at hm) (by intro hm; simp at hm; omega)⟩, rfl, clv_up hV hG.1.1 hgeo_r hC2 ((cs_fr hf (by decide)).trans hV.1.1.2.1) (his_w hV.1.2 hf (by decide)) (Or.inl h15) (fun hn => kfl_e (hV.2.2.1 hn) (fr_c hf (by decide)) (fun j => fr_c hf (by decide))) (fun j hj => by rcases hj with rfl | rfl | rfl <;> exact fr_j hf (by decide)) (fun k j hk => hf k j (by intro hm; simp at hm) (by intro hm; simp at hm; omega)), Or.inl ⟨rfl, fr_c hf (by decide), rfl⟩⟩
  · subst hA0
    have hg := (hA N0 List.mem_cons_self).2
    have e9 : ∀ (k : Nat) (j : Int), (k = 1 ∧ ¬ j = 15) ∨ k = 2 ∨ (29 ≤ k ∧ k ≤ 41) ∨ (200 ≤ k) → M2 k j = M k j := fun k j hk => hx k j (by omega) (by omega)
    exact ⟨⟨rfl, rfl, fun k j hk => e9 k j (by omega)⟩, rfl, clv_up hV hG.1.1 hg hC hc hH (Or.inl h15) (fun hn => kfl_e (hV.2.2.1 hn) (e9 200 6 (by omega)) (fun j => e9 205 j (by omega))) (fun j hj => e9 1 j (by omega)) (fun k j hk => e9 k j (by omega)), Or.inr (Or.inr ⟨p, hp, hk, rfl, N0, rfl⟩)⟩
theorem ca_image (hd : 5 ≤ d) (hE : E0 n K R) (hG : GJ N) (hV : CLV N lw A im t w f M) : gm_Wp X LX d bc bs 59 0 (gm_ent 59 [gm_vr 1]) [] n K R M (CQ n K M (.inl none) (fun R1 M1 => R1 = gm_uR R 29 8 (R 3 8) ∧ M1 42 1 = M 42 1) N lw A (some (N, lw)) t w f) := by
  refine im_t59 hd hE hV.1.1 hG.1.1 (fun M2 hT hc h6 hx => ?_)
  have e9 : ∀ (k : Nat) (j : Int), ¬ (k = 1 ∧ j = 6) → k < 29 ∨ 41 < k → M2 k j = M k j := hx
  refine ⟨⟨rfl, rfl, fun k j hk => e9 k j (by omega) (by omega)⟩, rfl, ⟨⟨hT, his_fr hV.1.2 (fun x j h1 h2 => e9 x j (by omega) (by omega))⟩, ?_, fun hn => kfl_e (hV.2.2.1 hn) (e9 200 6 (by omega) (by omega)) (fun j => e9 205 j (by omega) (by omega)), Or.inr ⟨h6, N, lw, rfl, hc⟩, ⟨(e9 1 1 (by omega) (by omega)).trans hV.2.2.2.2.1.1, (e9 1 2 (by omega) (by omega)).trans hV.2.2.2.2.1.2⟩, fun j j0 j1 => (e9 2 j (by omega) (by omega)).trans (hV.2.2.2.2.2 j j0 j1)⟩, rfl, e9 42 1 (by omega) (by omega)⟩
  rw [e9 1 15 (by omega) (by omega)]
  exact hV.2.1.imp_right fun h => ⟨h.1, ends_x h.2 (fun k j hk => e9 k j (by omega) (by omega))⟩
theorem ca_back (hd : 8 ≤ d) (hE : E0 n K R) (hG : GJ N) (hI : ∀ NI lI, im = some (NI, lI) → GJ NI) (hV : CLV N lw A im t w f M) : gm_Wp X LX d bc bs 60 0 (gm_ent 60 [gm_vr 1]) [] n K R M (CQ n K M (.inl (some (gm_vi (ap_back N lw A im).1))) (fun R1 M1 => M1 42 1 = M 42 1 ∧ ((im = none ∧ R1 = R) ∨ ((∃ q, im = some q) ∧ R1 = gm_uR R 3 8 (R 29 8)))) (ap_back N lw A im).2.1 (ap_back N lw A im).2.2.1 (ap_back N lw A im).2.2.2 im t w f) := by
  rcases hV.2.2.2.1 with ⟨h6, hi⟩ | ⟨h6, NI, lI, hi, hc⟩
  · subst hi
    exact ac_60 (NI := N) hd hE hV.1.1 hG.1.1 (Or.inl h6) (fun _ => ⟨⟨rfl, rfl, fun _ _ _ => rfl⟩, rfl, hV, rfl, Or.inl ⟨rfl, rfl⟩⟩) (fun h => absurd (h6.symm.trans h) (by decide)) (fun h => absurd (h6.symm.trans h) (by decide))
  · subst hi
    have gi := hI NI lI rfl
    refine ac_60 (NI := NI) hd hE hV.1.1 hG.1.1 (Or.inr h6) (fun h => absurd (h6.symm.trans h) (by decide)) (fun _ => ⟨hc, gi.1.1, gi.1.2.1⟩) (fun _ M2 hT h200 h42 h15 hx => ?_)
    have e9 : ∀ (k : Nat) (j : Int), (k = 1 ∧ ¬ j = 15) ∨ k = 2 ∨ (16 ≤ k ∧ ¬ (201 ≤ k ∧ k ≤ 203) ∧ ¬ (k = 200 ∧ j = 6) ∧ ¬ (k = 42 ∧ j = 2)) → M2 k j = M k j := fun k j hk => hx k j (by omega) (by omega) (by omega) (by omega) (by omega) (by omega) (by omega)
    refine ⟨⟨rfl, rfl, fun k j hk => e9 k j (by omega)⟩, rfl, ⟨⟨hT, his_nil (his_nx hV.1.2) (e9 42 1 (by omega)) h42⟩, Or.inl h15, fun _ => kfl_new h200, Or.inr ⟨(e9 1 6 (by omega)).trans h6, NI, lI, rfl, ?_⟩, ⟨(e9 1 1 (by omega)).trans hV.2.2.2.2.1.1, (e9 1 2 (by omega)).trans hV.2.2.2.2.1.2⟩, fun j j0 j1 => (e9 2 j (by omega)).trans (hV.2.2.2.2.2 j j0 j1)⟩, e9 42 1 (by omega), Or.inr ⟨⟨_, rfl⟩, rfl⟩⟩
    rw [← hc]
    exact cs_same fun x j h1 h2 => e9 x j (by omega)
/-- a text of the valley -/
theorem ca_valley (hd : 14 ≤ d) (hbc : 4 ≤ bc) (hbs : 24 ≤ bs) (hE : E0 n K R) (hn : 245 ≤ n) (hK : K 245 = (2, 1)) (hF : VF f t) (hf : M 2 = f) (h4 : M 214 1 = 4) (h13 : M 213 1 = 14) (hG : GJ N) (hV : CLV N lw A im t w f M) : gm_Wp X LX d bc bs 71 0 (gm_ent 71 [gm_vr 1]) [] n K R M (hQ [(0, 1), (1, 2)] (VQ n K R M (ap_valley f t N A) lw im f)) := by
  have ht := hV.2.2.2.2.1.1
  have hsame : ∀ {M2 : gm_M} {w2 : Int}, (∀ (x : Nat) (j : Int), x < 16 ∨ 28 < x → ¬ x = 214 → ¬ (x = 1 ∧ (j = 1 ∨ j = 2)) → M2 x j = M x j) → CST M2 → cs M2 3 = N → M2 1 1 = 0 → M2 1 2 = w2 → CLV N lw A im 0 w2 f M2 := fun {M2 w2} hx hC hc h1 h2 => by
    have e9 : ∀ (k : Nat) (j : Int), (k = 1 ∧ ¬ (j = 1 ∨ j = 2)) ∨ k = 2 ∨ (29 ≤ k ∧ ¬ k = 214) → M2 k j = M k j := fun k j hk => hx k j (by omega) (by omega) (by omega)
    refine ⟨⟨hg_ti hG.1.1 hgeo_r hV.1.1 hC hc (fun k j h1 h2 => e9 k j (by omega)), his_fr hV.1.2 (fun x j h1 h2 => e9 x j (by omega))⟩, ?_, fun hn => kfl_e (hV.2.2.1 hn) (e9 200 6 (by omega)) (fun j => e9 205 j (by omega)), ?_, ⟨h1, h2⟩, fun j j0 j1 => (e9 2 j (by omega)).trans (hV.2.2.2.2.2 j j0 j1)⟩
    · rw [e9 1 15 (by omega)]
      exact hV.2.1.imp_right fun h => ⟨h.1, ends_x h.2 (fun k j hk => e9 k j (by omega))⟩
    · rw [e9 1 6 (by omega)]
      refine hV.2.2.2.1.imp_right fun ⟨h1, NI, lI, h2, h3⟩ => ⟨h1, NI, lI, h2, ?_⟩
      rw [← h3]
      exact cs_same fun x j h1 h2 => e9 x j (by omega)
  refine vy_71 hd hbc hbs hE hV.1.1.1 (by rw [hf, ht]; exact hF) h4 h13 hV.1.1.2.1 hG.1 (fun M2 hx hC hc hv h2 h1 => ?_) (fun M2 hx hC hc hv h7 h2 h1 => ?_) (fun M2 hv h7 hGI hT h200 h42 h15 h2 h1 hx => ?_)
  · rw [hf, ht] at hv h2
    have er : ap_valley f t N A = (1, 0, N, A, (v_val f t N).2.1) := tif_t hv
    rw [er]
    exact hQ_x hn hK (c := 1) (by decide) ⟨⟨rfl, rfl, fun k j hk => hx k j (by omega) (by omega) (by omega)⟩, rfl, fun e => absurd (show (1 : Int) = 0 from e) (by decide), hsame hx hC hc h1 h2, hx 42 1 (by omega) (by omega) (by omega), Or.inl rfl⟩
  · rw [hf, ht] at hv
    have er : ap_valley f t N A = (2, 0, N, A, -1) := (tif_f (fun hh => hh hv)).trans (tif_t h7)
    rw [er]
    exact hQ_x hn hK (c := 2) (by decide) ⟨⟨rfl, rfl, fun k j hk => hx k j (by omega) (by omega) (by omega)⟩, rfl, fun e => absurd (show (2 : Int) = 0 from e) (by decide), hsame hx hC hc h1 h2, hx 42 1 (by omega) (by omega) (by omega), Or.inl rfl⟩
  · rw [hf, ht] at hv hT
    have er : ap_valley f t N A = (0, N 7 + 1, nup (v_val f t N).2.2 7 (N 7 + 1), [], -1) := (tif_f (fun hh => hh hv)).trans (tif_f (by omega))
    rw [er]
    have e9 : ∀ (k : Nat) (j : Int), (k = 1 ∧ ¬ (j = 1 ∨ j = 2 ∨ j = 15)) ∨ k = 2 ∨ (29 ≤ k ∧ ¬ k = 214 ∧ ¬ (201 ≤ k ∧ k ≤ 203) ∧ ¬ (k = 200 ∧ j = 6) ∧ ¬ (k = 42 ∧ j = 2)) → M2 k j = M k j := fun k j hk => hx k j (by omega) (by omega) (by omega) (by omega) (by omega) (by omega) (by omega) (by omega)
    have hV2 : CLV (nup (v_val f t N).2.2 7 (N 7 + 1)) lw [] im 0 (-1) f M2 := by
      refine ⟨⟨hT, his_nil (his_nx hV.1.2) (e9 42 1 (by omega)) h42⟩, Or.inl h15, fun _ => kfl_new h200, ?_, ⟨h1, h2⟩, fun j j0 j1 => (e9 2 j (by omega)).trans (hV.2.2.2.2.2 j j0 j1)⟩
      rw [e9 1 6 (by omega)]
      refine hV.2.2.2.1.imp_right fun ⟨h1, NI, lI, h2, h3⟩ => ⟨h1, NI, lI, h2, ?_⟩
      rw [← h3]
      exact cs_same fun x j h1 h2 => e9 x j (by omega)
    exact hQ_v hn hK ⟨⟨rfl, rfl, fun k j hk => (uM_ne (by omega)).trans (e9 k j (by omega))⟩, rfl, fun _ => uM_at, clv_245 hV2 hT.1, (uM_ne (by decide)).trans (e9 42 1 (by omega)), Or.inr rfl⟩
/-- the codes of a right law -/
theorem scds_b {B : Nat} : ∀ (ls : List lst) (h k : Nat), shg B ls h k → ∀ c ∈ scds ls, -17 ≤ c ∧ c ≤ 999 := by
  intro ls
  induction ls with
  | nil => intro h k _ c hc; cases hc
  | cons s r ih =>
    intro h k hs c hc
    have hc : c ∈ scd s ++ scds r := hc
    have pb : ∀ {ps : List (Int × Int)}, (∀ p ∈ ps, pwf p) → c ∈ ps.map pcd → -17 ≤ c ∧ c ≤ 999 := fun {ps} hp hm => by
      obtain ⟨p, hp2, rfl⟩ := List.mem_map.mp hm
      have := hp p hp2
      unfold pwf at this
      unfold pcd
      split <;> omega
    rcases List.mem_append.mp hc with hc | hc
    · unfold scd at hc
      rcases hs with ⟨h1, -⟩ | ⟨h1, -⟩ | ⟨h1, -⟩
      · rcases h1 with ⟨h0, hw⟩ | h0 | h0
        · rw [if_pos h0] at hc
          rcases List.mem_append.mp hc with hc | hc
          · exact pb hw.1 hc
          · rcases List.mem_cons.mp hc with rfl | hc
            · decide
            · rcases List.mem_append.mp hc with hc | hc
              · exact pb hw.2.1 hc
              · rw [List.mem_singleton.mp hc]
                split <;> decide
        · rw [h0] at hc
          have hc : c ∈ [(-2 - 8 : Int)] := hc
          rw [List.mem_singleton.mp hc]
          decide
        · rw [h0] at hc
          have hc : c ∈ [(-2 - 9 : Int)] := hc
          rw [List.mem_singleton.mp hc]
          decide
      · rw [h1] at hc
        have hc : c ∈ [(-15 : Int)] := hc
        rw [List.mem_singleton.mp hc]
        decide
      · rcases h1 with h1 | h1
        · rw [h1] at hc
          have hc : c ∈ [(-16 : Int)] := hc
          rw [List.mem_singleton.mp hc]
          decide
        · rw [h1] at hc
          have hc : c ∈ [(-17 : Int)] := hc
          rw [List.mem_singleton.mp hc]
          decide
    · rcases hs with ⟨-, -, h2⟩ | ⟨-, -, h2⟩ | ⟨-, -, h2⟩
      · exact ih _ _ h2 c hc
      · exact ih _ _ h2 c hc
      · exact ih _ _ h2 c hc
theorem lb_of {ls : List lln} {us : Int} (hW : LW ls) (h8 : M 248 0 = 12 ∧ M 248 1 = 4 ∧ M 248 3 = (ls.length : Int)) (hu : 0 ≤ us ∧ us ≤ 400) (hc : cdl ls us (M 249) (M 247)) : LB us.toNat (M 247) (M 249) (ls.length : Int) M := by
  have h12 := hW.1
  refine ⟨⟨⟨h8.1, h8.2.1, by omega, by omega⟩, fun i i0 i1 => ?_, fun k k0 k1 => ?_⟩, fun _ => rfl, fun _ => rfl, h8.2.2⟩
  · obtain ⟨k, x, t, j, a1, a2, a3⟩ := hc.2.1 i i0 (by omega)
    exact scds_b t 0 1 ((hW.2 k x a1).2.2 t a2) _ (List.mem_of_getElem? a3)
  · rw [h8.2.2] at k1
    obtain ⟨u, rfl⟩ : ∃ u : Nat, k = (u : Int) := ⟨k.toNat, by omega⟩
    obtain ⟨⟨b1, b2, b3⟩, b4, b5⟩ := hc.2.2 u (by omega)
    exact ⟨b4, b5, ⟨b1, b2, by omega⟩⟩
end CD6
end
/-! 7c07.en -/
section
/-! END: of both. -/
section EN7
variable {X : Int → Int} {LX d bc bs n : Nat} {K : gm_K} {R : gm_R} {M : gm_M} {Q : gm_Q} {x : Int}
theorem ce_21 (hE : E0 n K R) (hx : gm_ir x) (ht : gm_ir (M 1 1)) (q0 : x < 0 → Q (.inl (some (gm_vi 0))) n K R (M)) (q1 : ¬ x < 0 → x ≤ (M 1 1) → Q (.inl (some (gm_vi 1))) n K R (gm_uM M 1 1 x)) (q2 : ¬ x < 0 → ¬ x ≤ (M 1 1) → Q (.inl (some (gm_vi 0))) n K R (M)) : gm_Wp X LX d bc bs 21 0 (gm_ent 21 [gm_vr 1, gm_vi x]) [] n K R M Q := by
  refine gm_sz (gm_p_load (pc := 0) (i := .iload_n 1) (sr := 0) (j := 1) (by decide +kernel) rfl rfl rfl) ?_
  refine fw_if (cc := .lt) (pc := 1) (off := 11) (by decide +kernel) (by decide) hx (fun h1 => ?_) (fun h1 => ?_)
  · have h1 : x < 0 := h1
    refine gm_sz (gm_p_const (pc := 12) (i := .iconst 0) (v := gm_vi 0) (by decide +kernel) (by decide +kernel)) ?_
    exact gm_r_int (pc := 13) (by decide +kernel) (Or.inr ⟨(by decide +kernel), Or.inl rfl⟩) (q0 h1)
  · have h1 : ¬ x < 0 := h1
    refine gm_sz (gm_p_load (pc := 4) (i := .iload_n 1) (sr := 0) (j := 1) (by decide +kernel) rfl rfl rfl) ?_
    refine gm_sz (gm_p_load (pc := 5) (i := .aload_n 0) (sr := 2) (j := 0) (by decide +kernel) rfl rfl rfl) ?_
    refine gm_sz (fw_gi (pc := 6) (ix := 13) (ci := 0) (j := 1) (x := M 1 1) (by decide +kernel) (e0k hE (k := 1) (c := 0) (by decide +kernel)) (by decide +kernel) (by decide +kernel) rfl) ?_
    refine fw_ic (cc := .le) (pc := 9) (off := 5) (by decide +kernel) (by decide) hx ht (fun h9 => ?_) (fun h9 => ?_)
    · have h9 : x ≤ (M 1 1) := h9
      refine gm_sz (gm_p_load (pc := 14) (i := .aload_n 0) (sr := 2) (j := 0) (by decide +kernel) rfl rfl rfl) ?_
      refine gm_sz (gm_p_load (pc := 15) (i := .iload_n 1) (sr := 0) (j := 1) (by decide +kernel) rfl rfl rfl) ?_
      refine gm_sz (fw_pi (pc := 16) (ix := 13) (ci := 0) (j := 1) (M' := gm_uM M 1 1 x) (by decide +kernel) (e0k hE (k := 1) (c := 0) (by decide +kernel)) (by decide +kernel) (by decide +kernel) (by decide +kernel) rfl) ?_
      refine gm_sz (gm_p_const (pc := 19) (i := .iconst 1) (v := gm_vi 1) (by decide +kernel) (by decide +kernel)) ?_
      exact gm_r_int (pc := 20) (by decide +kernel) (Or.inr ⟨(by decide +kernel), Or.inr rfl⟩) (q1 h1 h9)
    · have h9 : ¬ x ≤ (M 1 1) := h9
      refine gm_sz (gm_p_const (pc := 12) (i := .iconst 0) (v := gm_vi 0) (by decide +kernel) (by decide +kernel)) ?_
      exact gm_r_int (pc := 13) (by decide +kernel) (Or.inr ⟨(by decide +kernel), Or.inl rfl⟩) (q2 h1 h9)
theorem re_240 (hE : E0 n K R) (hx : gm_ir x) (ht : gm_ir (M 226 8)) (q0 : x < 0 → Q (.inl (some (gm_vi 0))) n K R (gm_uM M 226 0 0)) (q1 : ¬ x < 0 → x ≤ (M 226 8) → Q (.inl (some (gm_vi 1))) n K R (gm_uM (gm_uM M 226 0 0) 226 8 x)) (q2 : ¬ x < 0 → ¬ x ≤ (M 226 8) → Q (.inl (some (gm_vi 0))) n K R (gm_uM M 226 0 0)) : gm_Wp X LX d bc bs 240 0 (gm_ent 240 [gm_vr 226, gm_vi x]) [] n K R M Q := by
  refine gm_sz (gm_p_load (pc := 0) (i := .aload_n 0) (sr := 2) (j := 0) (by decide +kernel) rfl rfl rfl) ?_
  refine gm_sz (gm_p_const (pc := 1) (i := .iconst 0) (v := gm_vi 0) (by decide +kernel) (by decide +kernel)) ?_
  refine gm_sz (fw_pi (pc := 2) (ix := 3) (ci := 11) (j := 0) (M' := gm_uM M 226 0 0) (by decide +kernel) (e0k hE (k := 226) (c := 11) (by decide +kernel)) (by decide +kernel) (by decide +kernel) (by decide +kernel) rfl) ?_
  refine gm_sz (gm_p_load (pc := 5) (i := .iload_n 1) (sr := 0) (j := 1) (by decide +kernel) rfl rfl rfl) ?_
  refine fw_if (cc := .lt) (pc := 6) (off := 11) (by decide +kernel) (by decide) hx (fun h6 => ?_) (fun h6 => ?_)
  · have h6 : x < 0 := h6
    refine gm_sz (gm_p_const (pc := 17) (i := .iconst 0) (v := gm_vi 0) (by decide +kernel) (by decide +kernel)) ?_
    exact gm_r_int (pc := 18) (by decide +kernel) (Or.inr ⟨(by decide +kernel), Or.inl rfl⟩) (q0 h6)
  · have h6 : ¬ x < 0 := h6
    refine gm_sz (gm_p_load (pc := 9) (i := .iload_n 1) (sr := 0) (j := 1) (by decide +kernel) rfl rfl rfl) ?_
    refine gm_sz (gm_p_load (pc := 10) (i := .aload_n 0) (sr := 2) (j := 0) (by decide +kernel) rfl rfl rfl) ?_
    refine gm_sz (fw_gi (pc := 11) (ix := 103) (ci := 11) (j := 8) (x := M 226 8) (by decide +kernel) (e0k hE (k := 226) (c := 11) (by decide +kernel)) (by decide +kernel) (by decide +kernel) (uM_ne (by omega))) ?_
    refine fw_ic (cc := .le) (pc := 14) (off := 5) (by decide +kernel) (by decide) hx ht (fun h14 => ?_) (fun h14 => ?_)
    · have h14 : x ≤ (M 226 8) := h14
      refine gm_sz (gm_p_load (pc := 19) (i := .aload_n 0) (sr := 2) (j := 0) (by decide +kernel) rfl rfl rfl) ?_
      refine gm_sz (gm_p_load (pc := 20) (i := .iload_n 1) (sr := 0) (j := 1) (by decide +kernel) rfl rfl rfl) ?_
      refine gm_sz (fw_pi (pc := 21) (ix := 103) (ci := 11) (j := 8) (M' := gm_uM (gm_uM M 226 0 0) 226 8 x) (by decide +kernel) (e0k hE (k := 226) (c := 11) (by decide +kernel)) (by decide +kernel) (by decide +kernel) (by decide +kernel) rfl) ?_
      refine gm_sz (gm_p_const (pc := 24) (i := .iconst 1) (v := gm_vi 1) (by decide +kernel) (by decide +kernel)) ?_
      exact gm_r_int (pc := 25) (by decide +kernel) (Or.inr ⟨(by decide +kernel), Or.inr rfl⟩) (q1 h6 h14)
    · have h14 : ¬ x ≤ (M 226 8) := h14
      refine gm_sz (gm_p_const (pc := 17) (i := .iconst 0) (v := gm_vi 0) (by decide +kernel) (by decide +kernel)) ?_
      exact gm_r_int (pc := 18) (by decide +kernel) (Or.inr ⟨(by decide +kernel), Or.inl rfl⟩) (q2 h6 h14)
end EN7
end
/-! 7c08.cl -/
section
/-! A LAW, FEED, END: the class upon the abstract state. -/
/-- a text of a law: how it ends, the answer, the law, what is remembered, the wrong byte -/
noncomputable def ap_law (f : Int → Int) (t : Int) (lw : Option (List lln)) (A : List (Int → Int)) : Int × Int × Option (List lln) × List (Int → Int) × Int :=
  tif (¬ (g_law f t).1 = true) (1, 0, lw, A, (g_law f t).2) (0, (g_law f t).2, some (s_law f t), [], -1)
/-- the new law's cells -/
def NL (ls : List lln) (K1 : gm_K) (R1 : gm_R) (M1 : gm_M) : Prop := ∃ us : Int, (0 ≤ us ∧ us ≤ 400) ∧ (K1 246 = (14, 0) ∧ K1 247 = (0, us.toNat) ∧ K1 248 = (6, 0) ∧ K1 249 = (0, 48)) ∧ (R1 3 8 = 246 ∧ R1 246 0 = 248 ∧ R1 246 1 = 247 ∧ R1 248 2 = 249) ∧ LB us.toNat (M1 247) (M1 249) (ls.length : Int) M1 ∧ LC ls (M1 247) (M1 249) ∧ LW ls
noncomputable def LQ (K : gm_K) (R : gm_R) (M : gm_M) (r : Int × Int × Option (List lln) × List (Int → Int) × Int) (N : Int → Int) (im : Option ((Int → Int) × Option (List lln))) (f : Int → Int) : gm_Q := fun o n1 K1 R1 M1 => o = .inl (some (gm_vi r.1)) ∧ (r.1 = 0 → M1 245 0 = gm_w r.2.1) ∧ CLV N r.2.2.1 r.2.2.2.1 im 0 r.2.2.2.2 f M1 ∧ M1 42 1 = M 42 1 ∧ (∀ c, c ≤ 245 → K1 c = K c) ∧ ((r.1 = 1 ∧ n1 = 245 ∧ ∀ c j, c ≤ 245 → R1 c j = R c j) ∨ (r.1 = 0 ∧ n1 = 249 ∧ (∀ c j, c ≤ 245 → ¬ (c = 3 ∧ j = 8) → R1 c j = R c j) ∧ ∃ ls, r.2.2.1 = some ls ∧ NL ls K1 R1 M1))
noncomputable def ap_feed (a : Int → Int) (t : Int) (f : Int → Int) : Int × Int × (Int → Int) := tif (381 ≤ t) (-1, t, f) (t + 20, t + 20, fdc a t 20 f)
noncomputable def ap_end (x t : Int) : Int × Int := tif (x < 0 ∨ t < x) (0, t) (1, x)
section CL8
variable {X : Int → Int} {LX d bc bs n : Nat} {K : gm_K} {R : gm_R} {M M2 : gm_M} {N : Int → Int} {lw : Option (List lln)} {A : List (Int → Int)} {im : Option ((Int → Int) × Option (List lln))} {t w x : Int} {f a : Int → Int}
theorem nl_245 {ls : List lln} {K1 : gm_K} {R1 : gm_R} {M1 : gm_M} {v : Int} (h : NL ls K1 R1 M1) : NL ls K1 R1 (gm_uM M1 245 0 v) := by
  obtain ⟨us, h1, h2, h3, h4, h5, h6⟩ := h
  have e7 : gm_uM M1 245 0 v 247 = M1 247 := funext fun j => uM_ne (by omega)
  have e8 : gm_uM M1 245 0 v 248 = M1 248 := funext fun j => uM_ne (by omega)
  have e9 : gm_uM M1 245 0 v 249 = M1 249 := funext fun j => uM_ne (by omega)
  refine ⟨us, h1, h2, h3, ?_, by rw [e7, e9]; exact h5, h6⟩
  unfold LB LM at h4 ⊢
  rw [e7, e8, e9]
  exact h4
theorem ca_law (hd : 26 ≤ d) (hbc : 4 ≤ bc) (hbs : 454 ≤ bs) (hF : gm_Fx p2_O 245 K R M) (hf : M 2 = f) (hG : GJ N) (hV : CLV N lw A im t w f M) : gm_Wp X LX d bc bs 123 0 (gm_ent 123 [gm_vr 1]) [] 245 K R M (hQ [(0, 1)] (LQ K R M (ap_law f t lw A) N im f)) := by
  have ht := hV.2.2.2.2.1.1
  have hK : K 245 = (2, 1) := (hF.1 245 (2, 1) (by decide +kernel)).2.2
  have h11 : 0 ≤ M 1 1 ∧ M 1 1 ≤ 400 := ((gm_tyr_s hF (show gm_tyr p2_O 1 1 1 = some (0, 400) by decide +kernel)).2 1 (Int.le_refl _) (Int.le_refl _)).2
  have b0 : 0 ≤ t := by rw [← ht]; exact h11.1
  refine cl_123 (N := N) hd hbc hbs hF ⟨hV.1.1.1, hV.1.1.2.1⟩ hG.1 h11 (fun K2 R2 M2 hk hr hx hg h2 h1 => ?_) (fun us K2 R2 M2 hg hk hr hk2 hr2 hm hu hcd hT h200 h42 h15 h2 h1 hx => ?_)
  · rw [hf, ht] at hg h2
    have er : ap_law f t lw A = (1, 0, lw, A, (g_law f t).2) := tif_t hg
    rw [er]
    have e9 : ∀ (k : Nat) (j : Int), k ≤ 214 → ¬ (k = 1 ∧ (j = 1 ∨ j = 2)) → M2 k j = M k j := fun k j hk h => hx k j (by omega) (by unfold kxw; omega) h
    have e9b : ∀ (k : Nat) (j : Int), 220 ≤ k → k ≤ 245 → M2 k j = M k j := fun k j hk h => hx k j h (by unfold kxw; omega) (by omega)
    have hC : CST M2 := fun q hq => by
      have e := of_decide_eq_true (List.all_eq_true.mp (show cstL.all (fun q => decide (q.1 ≤ 245 ∧ ¬ (q.1 = 216 ∨ q.1 = 218 ∨ q.1 = 219 ∨ (q.1 = 215 ∧ q.2.1 = 4) ∨ (q.1 = 217 ∧ q.2.1 = 3)) ∧ ¬ (q.1 = 1 ∧ (q.2.1 = 1 ∨ q.2.1 = 2)))) = true by decide +kernel) q hq)
      exact (hx q.1 q.2.1 e.1 e.2.1 e.2.2).trans (hV.1.1.1 q hq)
    refine hQ_x (Nat.le_refl _) ((hk 245 (Nat.le_refl _)).trans hK) (c := 1) (by decide) ⟨rfl, fun e => absurd (show (1 : Int) = 0 from e) (by decide), ⟨⟨hg_ti hG.1.1 hgeo_r hV.1.1 hC ((cs_same fun x j h1 h2 => e9 x j (by omega) (by omega)).trans hV.1.1.2.1) (fun k j h1 h2 => e9 k j (by omega) (by omega)), his_fr hV.1.2 (fun x j h1 h2 => e9 x j (by omega) (by omega))⟩, ?_, fun hn => kfl_e (hV.2.2.1 hn) (e9 200 6 (by omega) (by omega)) (fun j => e9 205 j (by omega) (by omega)), ?_, ⟨h1, h2⟩, fun j j0 j1 => (e9 2 j (by omega) (by omega)).trans (hV.2.2.2.2.2 j j0 j1)⟩, e9 42 1 (by omega) (by omega), hk, Or.inl ⟨rfl, rfl, hr⟩⟩
    · rw [e9 1 15 (by omega) (by omega)]
      exact hV.2.1.imp_right fun h => ⟨h.1, ends_x h.2 (fun k j hk => e9b k j (by omega) (by omega))⟩
    · rw [e9 1 6 (by omega) (by omega)]
      refine hV.2.2.2.1.imp_right fun ⟨h1, NI, lI, h2, h3⟩ => ⟨h1, NI, lI, h2, ?_⟩
      rw [← h3]
      exact cs_same fun x j h1 h2 => e9 x j (by omega) (by omega)
  · rw [hf, ht] at hg hm hcd
    have er : ap_law f t lw A = (0, (g_law f t).2, some (s_law f t), [], -1) := tif_f (fun hh => hh hg)
    rw [hf, ht, er]
    have hW := s_law_w b0 hg
    have hlen := s_law_len hg
    have e9 : ∀ (k : Nat) (j : Int), (k = 1 ∧ j = 6) ∨ k = 2 ∨ (29 ≤ k ∧ k ≤ 41) ∨ (k = 42 ∧ j = 1) → M2 k j = M k j := fun k j hk => hx k j (by omega) (by unfold lwr kxw; omega)
    have hV2 : CLV N (some (s_law f t)) [] im 0 (-1) f M2 := by
      refine ⟨⟨hT, his_nil (his_nx hV.1.2) (e9 42 1 (by omega)) h42⟩, Or.inl h15, fun _ => kfl_new h200, ?_, ⟨h1, h2⟩, fun j j0 j1 => (e9 2 j (by omega)).trans (hV.2.2.2.2.2 j j0 j1)⟩
      rw [e9 1 6 (by omega)]
      refine hV.2.2.2.1.imp_right fun ⟨h1, NI, lI, h2, h3⟩ => ⟨h1, NI, lI, h2, ?_⟩
      rw [← h3]
      exact cs_same fun x j h1 h2 => e9 x j (by omega)
    have hnl : NL (s_law f t) K2 R2 M2 := ⟨us, hu, hk2, hr2, lb_of hW ⟨hm.1, hm.2.1, hm.2.2.trans hlen.symm⟩ hu (hcd hW.1), (hcd hW.1).1, hW⟩
    exact hQ_v (by decide) ((hk 245 (Nat.le_refl _)).trans hK) ⟨rfl, fun _ => uM_at, clv_245 hV2 hT.1, (uM_ne (by decide)).trans (e9 42 1 (by omega)), hk, Or.inr ⟨rfl, rfl, hr, _, rfl, nl_245 hnl⟩⟩
theorem fe_x {M : gm_M} {T : Int} {F : Int → Int} {k : Nat} {j : Int} (h : ¬ (k = 1 ∧ j = 1)) (h2 : ¬ k = 2) : fe M T F k j = M k j := by unfold fe; rw [if_neg h, if_neg h2]
theorem fe_2 {M : gm_M} {T : Int} {F : Int → Int} {j : Int} : fe M T F 2 j = F j := by unfold fe; rw [if_neg (by omega), if_pos rfl]
theorem fe_11 {M : gm_M} {T : Int} {F : Int → Int} : fe M T F 1 1 = T := by unfold fe; rw [if_pos ⟨rfl, rfl⟩]
theorem fe_self {M : gm_M} : fe M (M 1 1) (M 2) = M := by
  funext b j
  by_cases h1 : b = 1 ∧ j = 1
  · obtain ⟨rfl, rfl⟩ := h1
    exact fe_11
  · by_cases h2 : b = 2
    · subst h2
      exact fe_2
    · exact fe_x h1 h2
theorem clv_tape {t2 : Int} {F f2 : Int → Int} (hV : CLV N lw A im t w f M) (hF : ∀ j, 0 ≤ j → j < 400 → F j = f2 j) : CLV N lw A im t2 w f2 (fe M t2 F) := by
  have e9 : ∀ (k : Nat) (j : Int), ¬ (k = 1 ∧ j = 1) → ¬ k = 2 → fe M t2 F k j = M k j := fun k j h1 h2 => fe_x h1 h2
  obtain ⟨⟨hT, hH⟩, h15, hk, hi, ht, hf⟩ := hV
  have hC : CST (fe M t2 F) := fun q hq => by
    have e := of_decide_eq_true (List.all_eq_true.mp (show cstL.all (fun q => decide (¬ q.1 = 1 ∧ ¬ q.1 = 2)) = true by decide +kernel) q hq)
    exact (e9 q.1 q.2.1 (fun h => e.1 h.1) e.2).trans (hT.1 q hq)
  refine ⟨⟨⟨hC, (cs_same fun x j h1 h2 => e9 x j (by omega) (by omega)).trans hT.2.1, fun y y0 y1 => ?_, fun l r l0 l1 r0 r1 => ?_⟩, his_fr hH (fun x j h1 h2 => e9 x j (by omega) (by omega))⟩, ?_, fun hn => kfl_e (hk hn) (e9 200 6 (by omega) (by omega)) (fun j => e9 205 j (by omega) (by omega)), ?_, ⟨fe_11, (e9 1 2 (by omega) (by omega)).trans ht.2⟩, fun j j0 j1 => fe_2.trans (hF j j0 j1)⟩
  · rw [e9 201 y (by omega) (by omega), e9 203 y (by omega) (by omega)]
    exact hT.2.2.1 y y0 y1
  · rw [e9 202 _ (by omega) (by omega)]
    exact hT.2.2.2 l r l0 l1 r0 r1
  · rw [e9 1 15 (by omega) (by omega)]
    exact h15.imp_right fun h => ⟨h.1, ends_x h.2 (fun k j hk => e9 k j (by omega) (by omega))⟩
  · rw [e9 1 6 (by omega) (by omega)]
    refine hi.imp_right fun ⟨h1, NI, lI, h2, h3⟩ => ⟨h1, NI, lI, h2, ?_⟩
    rw [← h3]
    exact cs_same fun x j h1 h2 => e9 x j (by omega) (by omega)
theorem ca_feed (hd : 1 ≤ d) (hE : E0 n K R) (ht0 : 0 ≤ t ∧ t ≤ 400) (hV : CLV N lw A im t w f M) : gm_Wp X LX d bc bs 19 0 (gm_ent 19 [gm_vr 1, gm_vi (a 0), gm_vi (a 1), gm_vi (a 2), gm_vi (a 3), gm_vi (a 4)]) [] n K R M (CQ n K M (.inl (some (gm_vi (ap_feed a t f).1))) (fun R1 M1 => R1 = R ∧ M1 42 1 = M 42 1) N lw A im (ap_feed a t f).2.1 w (ap_feed a t f).2.2) := by
  have ht := hV.2.2.2.2.1.1
  have q := fd_c19 (X := X) (LX := LX) (d := d) (bc := bc) (bs := bs) (n := n) (K := K) (R := R) (a := a) (M := M) (t := M 1 1) (f := M 2) (Q := CQ n K M (.inl (some (gm_vi (ap_feed a t f).1))) (fun R1 M1 => R1 = R ∧ M1 42 1 = M 42 1) N lw A im (ap_feed a t f).2.1 w (ap_feed a t f).2.2) hd (e0k hE (k := 1) (c := 0) (by decide +kernel)) (e0a hE (k := 2) (q := (1, 400)) (by decide +kernel)) (e0r hE (k := 1) (j := 0) (r := 2) (by decide +kernel)) (by rw [ht]; exact ht0) (fun h => ?_) (fun h => ?_)
  · rw [fe_self] at q
    exact q
  · rw [ht] at h
    have er : ap_feed a t f = (-1, t, f) := tif_t h
    rw [er, fe_self]
    exact ⟨⟨rfl, rfl, fun _ _ _ => rfl⟩, rfl, hV, rfl, rfl⟩
  · rw [ht] at h
    have er : ap_feed a t f = (t + 20, t + 20, fdc a t 20 f) := tif_f (by omega)
    rw [er, ht]
    refine ⟨⟨rfl, rfl, fun k j hk => fe_x (by omega) (by omega)⟩, rfl, clv_tape hV (fun j j0 j1 => ?_), rfl, fe_x (by omega) (by omega)⟩
    show fdc a t 20 (M 2) j = fdc a t 20 f j
    unfold fdc
    by_cases h9 : t ≤ j ∧ j < t + 20
    · rw [if_pos h9, if_pos h9]
    · rw [if_neg h9, if_neg h9]
      exact hV.2.2.2.2.2 j j0 j1
end CL8
end
/-! 7c09.ra -/
section
/-! THE ACTS OF THE REFERENCE upon the abstract state. -/
noncomputable def RQ (n : Nat) (K : gm_K) (R : gm_R) (r : Int × Int × (Int → Int) × List (Int → Int)) (lw : Option (List lln)) (im : Option ((Int → Int) × Option (List lln))) (t w : Int) (f : Int → Int) : gm_Q := fun o n1 K1 R1 M1 => (n1 = n ∧ K1 = K ∧ R1 = R) ∧ (∃ v, o = .inl (some (gm_vi v)) ∧ (r.1 = 0 → v = r.2.1)) ∧ M1 226 0 = r.1 ∧ RFV r.2.2.1 lw r.2.2.2 im t w f M1
/-- a call on the reference that cannot be refused -/
noncomputable def RC (n : Nat) (K : gm_K) (R : gm_R) (o9 : gm_O) (N : Int → Int) (lw : Option (List lln)) (A : List (Int → Int)) (im : Option ((Int → Int) × Option (List lln))) (t w : Int) (f : Int → Int) : gm_Q := fun o n1 K1 R1 M1 => (n1 = n ∧ K1 = K ∧ R1 = R) ∧ o = o9 ∧ RFV N lw A im t w f M1
noncomputable def RV (n : Nat) (K : gm_K) (R : gm_R) (c v : Int) (N : Int → Int) (lw : Option (List lln)) (A : List (Int → Int)) (im : Option ((Int → Int) × Option (List lln))) (t w : Int) (f : Int → Int) : gm_Q := fun o n1 K1 R1 M1 => (n1 = n ∧ K1 = K ∧ R1 = R) ∧ (∃ v2, o = .inl (some (gm_vi v2)) ∧ (c = 0 → v2 = v)) ∧ M1 226 0 = c ∧ RFV N lw A im t w f M1
section RA9
variable {X : Int → Int} {LX d bc bs n : Nat} {K : gm_K} {R : gm_R} {M M2 : gm_M} {N N2 : Int → Int} {lw : Option (List lln)} {A : List (Int → Int)} {im : Option ((Int → Int) × Option (List lln))} {t w : Int} {f a : Int → Int} {x y l p : Int}
theorem lawr_cg {W W2 : Int → Int} (h : LAWR lw W) (e : ∀ j, (395 ≤ j ∨ j = 8) → j < 1244 → W2 j = W j) : LAWR lw W2 := by
  refine ⟨fun hn => (e 8 (Or.inr rfl) (by decide)).trans (h.1 hn), fun ls hs => ?_⟩
  obtain ⟨⟨a1, a2⟩, a3, a4, a5⟩ := h.2 ls hs
  have h12 := a3.1
  refine ⟨⟨(e 8 (Or.inr rfl) (by decide)).trans a1, (e 395 (Or.inl (by decide)) (by decide)).trans a2⟩, a3, fun k x hx => ?_, fun k x hx => ?_⟩
  · have hk := (List.getElem?_eq_some_iff.mp hx).1
    obtain ⟨b0, b1, b2, b3⟩ := a4 k x hx
    obtain ⟨c0, c1⟩ := a5 k x hx
    rw [e (396 + 4 * (k : Int)) (by omega) (by omega), e (396 + 4 * (k : Int) + 1) (by omega) (by omega), e (396 + 4 * (k : Int) + 2) (by omega) (by omega), e (396 + 4 * (k : Int) + 3) (by omega) (by omega)]
    refine ⟨b0, b1, b2, fun t ht => ⟨(b3 t ht).1, fun j v hv => ?_⟩⟩
    have := c1 t ht j v hv
    rw [e _ (by omega) (by omega), e _ (by omega) (by omega)]
    exact (b3 t ht).2 j v hv
  · have hk := (List.getElem?_eq_some_iff.mp hx).1
    rw [e (396 + 4 * (k : Int) + 2) (by omega) (by omega)]
    exact a5 k x hx
theorem lawr_b {W : Int → Int} (h : LAWR lw W) : ∀ ls, lw = some ls → ∀ k : Nat, k < ls.length → 0 ≤ W (396 + 4 * (k : Int) + 2) := fun ls hs k hk => by
  obtain ⟨x, hx⟩ := lq_at (ls := ls) hk
  exact ((h.2 ls hs).2.2.2 k x hx).1
theorem lawg_of {W : Int → Int} (h : LAWR lw W) (hT : jT fun j => W (395 + j)) : LAWG lw W := ⟨h.1, fun ls hs => by
  obtain ⟨⟨a1, a2⟩, a3, a4, a5⟩ := h.2 ls hs
  exact ⟨a3, a4, lg_of a3 a4 a1 a2 hT⟩⟩
theorem nsb_geo (hg : hgeo N N2) (hN : NR N) (hS : NSb 6 N) : NSb 6 N2 := fun s s0 s1 => by
  have h2 := hN.2.1.1
  have e2 := hg 2 (by decide) (by decide) (by decide)
  rw [e2] at s1
  obtain ⟨a, b⟩ := hS s s0 s1
  refine ⟨by rw [hg (15 + 7 * s) (by omega) (by omega) (by omega)]; exact a, fun l l0 l1 => ?_⟩
  rw [hg (15 + 7 * s + 1 + l) (by omega) (by omega) (by omega)]
  exact b l l0 l1
theorem ns_geo (hg : geo N N2) (hN : NR N) (hS : NS N) : NS N2 := by
  have h2 := hN.2.1.1
  have h0 := hN.1.1
  exact ns_same hS (hg.1 0 (by decide) (by decide) (by decide) (by decide)) (hg.1 2 (by decide) (by decide) (by decide) (by decide)) (fun j j0 j1 => hg.1 j (by omega) (by omega) (by omega) (by omega)) h2.2 h0.2
/-- what lies beside the reference's state -/
theorem rfv_fr {W : List (Nat × Option Int)} (hV : RFV N lw A im t w f M) (hf : fr W M M2) (hw : W.all (fun w => !(w.1 == 227) && (!(w.1 == 228) && (!(w.1 == 230) && (!(w.1 == 231) && (!(w.1 == 234) && (!(w.1 == 235) && !(w.1 == 226 && (w.2 == none || (w.2 == some 5 || (w.2 == some 6 || (w.2 == some 8 || (w.2 == some 13 || w.2 == some 26))))))))))))= true) : RFV N lw A im t w f M2 := by
  refine rfv_e hV (fun k j hk => ?_)
  refine hf k j (fun hm => ?_) (fun hm => ?_)
  · have := List.all_eq_true.mp hw _ hm
    unfold rK at hk
    simp only [Bool.and_eq_true, Bool.not_eq_true', beq_eq_false_iff_ne, ne_eq, Bool.and_eq_false_imp, beq_iff_eq, Bool.or_eq_false_iff] at this
    obtain ⟨g1, g2, g3, g4, g5, g6, g7⟩ := this
    have g7 : ¬ k = 226 := fun e => absurd (g7 e).1 (by simp)
    omega
  · have := List.all_eq_true.mp hw _ hm
    unfold rK at hk
    simp only [Bool.and_eq_true, Bool.not_eq_true', beq_eq_false_iff_ne, ne_eq, Bool.and_eq_false_imp, beq_iff_eq, Bool.or_eq_false_iff, Option.some.injEq] at this
    obtain ⟨g1, g2, g3, g4, g5, g6, g7⟩ := this
    rcases hk with h | h | h | h | h | h | ⟨h, h2⟩
    · exact g1 h
    · exact g2 h
    · exact g3 h
    · exact g4 h
    · exact g5 h
    · exact g6 h
    · obtain ⟨-, c1, c2, c3, c4, c5⟩ := g7 h
      omega
theorem rq_0 {r : Int × Int × (Int → Int) × List (Int → Int)} {c v : Int} (hr : r = (c, 0, N, A)) (hc : ¬ c = 0) (h0 : M 226 0 = c) (hV : RFV N lw A im t w f M) : RQ n K R r lw im t w f (.inl (some (gm_vi v))) n K R M := by
  subst hr
  exact ⟨⟨rfl, rfl, rfl⟩, ⟨v, rfl, fun e => absurd e hc⟩, h0, hV⟩
theorem rr_post {b : Int} {a : Int} (hd : 6 ≤ d) (hE : E0 n K R) (hG : GJ N) (hV : RFV N lw A im t w f M) (ha : gm_ir a) (hb : gm_ir b) : gm_Wp X LX d bc bs 315 0 (gm_ent 315 [gm_vr 226, gm_vi a, gm_vi b]) [] n K R M (RQ n K R (ap_post N A a b) lw im t w f) := by
  have h4 := hG.1.1.2.1.2.2.2.1
  refine ra_315 hd hE hV.1.1 hG.1.1 hV.1.2.2 ha hb (fun h M2 hf h0 => ?_) (fun h1 h2 h3 M2 hf h0 => ?_) (fun h1 h2 h3 h5 M2 hf h0 => ?_) (fun h1 h2 h3 h5 M2 hf hH hw h395 h8 h0 => ?_)
  · exact rq_0 (tif_t h) (by decide) h0 (rfv_fr hV hf (by decide))
  · exact rq_0 ((tif_f (fun hh => hh ⟨h1, h2⟩)).trans (tif_t h3)) (by decide) h0 (rfv_fr hV hf (by decide))
  · exact rq_0 ((tif_f (fun hh => hh ⟨h1, h2⟩)).trans ((tif_f h3).trans (tif_t h5))) (by decide) h0 (rfv_fr hV hf (by decide))
  · have er : ap_post N A a b = (0, N 4, nthr N a b ((N (95 + (a * 3 + 0)))) ((N (95 + (a * 3 + 1)))), (N :: A).take 12) := (tif_f (fun hh => hh ⟨h1, h2⟩)).trans ((tif_f h3).trans (tif_f (by omega)))
    rw [er]
    exact ⟨⟨rfl, rfl, rfl⟩, ⟨_, rfl, fun _ => rfl⟩, h0, rfv_up hV hG.1.1 (hgeo_thr h4.1) hw h395 h8 hH (kfr_e hV.2.1 (fr_j hf (by decide)) (fun j => fr_c hf (by decide))) (fun j hj => by rcases hj with rfl | rfl | rfl <;> exact fr_j hf (by decide)) (fun k j hk => by rcases hk with rfl | rfl | rfl <;> exact fr_c hf (by decide)) (lawr_b hV.1.2.1)⟩
theorem rr_watch (hd : 6 ≤ d) (hE : E0 n K R) (hG : GJ N) (hV : RFV N lw A im t w f M) (ha : gm_ir p) (hb : gm_ir l) : gm_Wp X LX d bc bs 317 0 (gm_ent 317 [gm_vr 226, gm_vi p, gm_vi l]) [] n K R M (RQ n K R (ap_watch N A p l) lw im t w f) := by
  refine ra_317 hd hE hV.1.1 hG.1.1 hV.1.2.2 ha hb (fun h M2 hf h0 => ?_) (fun h1 h2 M2 hf hH hw h395 h8 h0 => ?_)
  · exact rq_0 (tif_t h) (by decide) h0 (rfv_fr hV hf (by decide))
  · have er : ap_watch N A p l = (0, (N (95 + (p * 3 + 2))), nwat N p l, (N :: A).take 12) := tif_f (fun hh => hh ⟨h1, h2⟩)
    rw [er]
    exact ⟨⟨rfl, rfl, rfl⟩, ⟨_, rfl, fun _ => rfl⟩, h0, rfv_up hV hG.1.1 (hgeo_wat h1.1) hw h395 h8 hH (kfr_e hV.2.1 (fr_j hf (by decide)) (fun j => fr_c hf (by decide))) (fun j hj => by rcases hj with rfl | rfl | rfl <;> exact fr_j hf (by decide)) (fun k j hk => by rcases hk with rfl | rfl | rfl <;> exact fr_c hf (by decide)) (lawr_b hV.1.2.1)⟩
theorem rr_open (hd : 20 ≤ d) (hE : E0 n K R) (hT : jT fun j => M 227 (395 + j)) (hS6 : NSb 6 N) (hG : GJ N) (hV : RFV N lw A im t w f M) (hl : gm_ir l) : gm_Wp X LX d bc bs 318 0 (gm_ent 318 [gm_vr 226, gm_vi l]) [] n K R M (RQ n K R (ap_open lw N A l) lw im t w f) := by
  have h4 := hG.1.1.2.1.2.2.2.1
  have hLG := lawg_of hV.1.2.1 hT
  refine ra_318 (φ := aphi lw N (hts (N 13))) (FI := FIR (M 227) lw N (hts (N 13))) (o := aout N (hts (N 13)) (aphi lw N (hts (N 13)))) (dd := adp N (hts (N 13)) (aphi lw N (hts (N 13)))) hd hE hV.1.1 hG.1.1 hG.1.2.2 hV.1.2.2 (flr_a hE hLG hgeo_r hG.1.1 hG.1.1 hS6) ⟨hV.2.1, fun _ _ => rfl⟩ hl (fun _ => aout_s l) (fun h M2 hf h0 => ?_) (fun h1 hw M2 hf hI h0 => ?_) (fun h1 hw M1 M2 hI hf1 hf hH hws h395 h8 h0 => ?_)
  · exact rq_0 (tif_t h) (by decide) h0 (rfv_fr hV hf (by decide))
  · have er : ap_open lw N A l = (2, 0, N, A) := (tif_f (fun hh => hh h1)).trans (tif_t hw)
    refine rq_0 er (by decide) h0 ?_
    exact rfv_up hV hG.1.1 hgeo_r ((congrArg ws (funext fun j => fr_c hf (by decide))).trans hV.1.1.1) (fun j _ => fr_c hf (by decide)) (fr_c hf (by decide)) (hisr_w hV.1.2.2 hf (by decide)) hI.1 (fun j hj => by rcases hj with rfl | rfl | rfl <;> exact fr_j hf (by decide)) (fun k j hk => by rcases hk with rfl | rfl | rfl <;> exact fr_c hf (by decide)) (lawr_b hV.1.2.1)
  · have er : ap_open lw N A l = (0, N 9 - (N (119 + (l * 7 + 3))), nopn N l ((N (119 + (l * 7 + 1)))), (N :: A).take 12) := (tif_f (fun hh => hh h1)).trans (tif_f (fun hh => hh hw))
    rw [er]
    have h14 := logi_lt hG.1.1 hG.1.2.2 h1 hw.2.1
    have hg : geo N (nopn N l ((N (119 + (l * 7 + 1))))) := geo_nopn ⟨h1.1, by omega⟩ h14
    exact ⟨⟨rfl, rfl, rfl⟩, ⟨_, rfl, fun _ => rfl⟩, h0, rfv_up hV hG.1.1 (hgeo_g hg) hws h395 h8 hH (kfr_e hI.1 (fr_j hf1 (by decide)) (fun j => fr_c hf1 (by decide))) (fun j hj => by rcases hj with rfl | rfl | rfl <;> exact fr_j hf (by decide)) (fun k j hk => by rcases hk with rfl | rfl | rfl <;> exact fr_c hf (by decide)) (lawr_b hV.1.2.1)⟩
theorem rr_years (hd : 22 ≤ d) (hE : E0 n K R) (hT : jT fun j => M 227 (395 + j)) (hS6 : NSb 6 N) (hG : GJ N) (hV : RFV N lw A im t w f M) (hy : gm_ir y) : gm_Wp X LX d bc bs 320 0 (gm_ent 320 [gm_vr 226, gm_vi y]) [] n K R M (RQ n K R (ap_years lw N A y) lw im t w f) := by
  have hLG := lawg_of hV.1.2.1 hT
  refine ra_320 (φ := aphi lw N (hts (N 13))) (FI := FIR (M 227) lw N (hts (N 13))) (Ψ := fun N2 => apsi lw N2 (hts (N 13))) (o := aout N (hts (N 13)) (aphi lw N (hts (N 13)))) (dd := adp N (hts (N 13)) (aphi lw N (hts (N 13)))) hd hE hV.1.1 hG.1.1 hG.1.2.2 (fun N2 hg hN2 => flr_a hE hLG (hgeo_g hg) hG.1.1 hN2 (nsb_geo (hgeo_g hg) hG.1.1 hS6)) ⟨hV.2.1, fun _ _ => rfl⟩ (fun N2 hg hN2 => mor_a hE hLG hN2) (fun M1 M2 hI hf h395 h8 => ⟨kfr_e hI.1 (fr_c hf (by decide)) (fun j => fr_c hf (by decide)), fun j hj => by
    rcases hj with hj | rfl
    · exact (h395 j hj).trans (hI.2 j (Or.inl hj))
    · exact h8.trans (hI.2 8 (Or.inr rfl))⟩) (fun l _ _ => aout_s l) hV.1.2.2 hy (fun h M2 hf h0 => ?_) (fun h M2 hf hI hH hws h395 h8 h0 => ?_)
  · exact rq_0 (tif_t h) (by decide) h0 (rfv_fr hV hf (by decide))
  · have er : ap_years lw N A y = (0, (ap_yrs lw N y).2, (ap_yrs lw N y).1, (N :: A).take 12) := tif_f (fun hh => hh h)
    rw [er]
    have hh9 : N 9 + (y.toNat : Int) ≤ 299 := by omega
    obtain ⟨-, -, hg, -⟩ := yrs_i (Ψ := fun N2 => apsi lw N2 (hts (N 13))) (o := aout N (hts (N 13)) (aphi lw N (hts (N 13)))) (dd := adp N (hts (N 13)) (aphi lw N (hts (N 13)))) hG.1.1 hG.1.2.2 y.toNat hh9
    have hg : geo N (ap_yrs lw N y).1 := hg
    exact ⟨⟨rfl, rfl, rfl⟩, ⟨_, rfl, fun _ => rfl⟩, h0, rfv_up hV hG.1.1 (hgeo_g hg) hws h395 h8 hH hI.1 (fun j hj => by rcases hj with rfl | rfl | rfl <;> exact fr_j hf (by decide)) (fun k j hk => by rcases hk with rfl | rfl | rfl <;> exact fr_c hf (by decide)) (lawr_b hV.1.2.1)⟩
theorem rr_undo (hE : E0 n K R) (hG : GJ N) (hA : ∀ N1 ∈ A, GJ N1 ∧ hgeo N N1) (hV : RFV N lw A im t w f M) : gm_Wp X LX d bc bs 238 0 (gm_ent 238 [gm_vr 226]) [] n K R M (RC n K R (.inl (some (gm_vi (ap_undo N A).1))) (ap_undo N A).2.1 lw (ap_undo N A).2.2 im t w f) := by
  refine ud_c238 hE hV.1.2.2 (fun hA0 => ?_) (fun N0 A1 M2 hA0 hH hws h8 h395 h0 hf => ?_)
  · subst hA0
    exact ⟨⟨rfl, rfl, rfl⟩, rfl, rfv_fr hV (W := [(226, some 0)]) (fr_p fr_0 (Or.inr (by decide))) (by decide)⟩
  · subst hA0
    exact ⟨⟨rfl, rfl, rfl⟩, rfl, rfv_up hV hG.1.1 (hA N0 List.mem_cons_self).2 hws h395 h8 hH (kfr_e hV.2.1 (fr_j hf (by decide)) (fun j => fr_c hf (by decide))) (fun j hj => by rcases hj with rfl | rfl | rfl <;> exact fr_j hf (by decide)) (fun k j hk => by rcases hk with rfl | rfl | rfl <;> exact fr_c hf (by decide)) (lawr_b hV.1.2.1)⟩
theorem rr_image (hE : E0 n K R) (hV : RFV N lw A im t w f M) : gm_Wp X LX d bc bs 236 0 (gm_ent 236 [gm_vr 226]) [] n K R M (RC n K R (.inl none) N lw A (some (N, lw)) t w f) := by
  refine ig_c236 hE (fun M2 hf h228 h5 h0 => ?_)
  have e7 : M2 227 = M 227 := funext fun j => fr_c hf (by decide)
  refine ⟨⟨rfl, rfl, rfl⟩, rfl, ⟨⟨by rw [e7]; exact hV.1.1.1, fun y y0 y1 => by rw [fr_c hf (by decide)]; exact hV.1.1.2 y y0 y1⟩, by rw [e7]; exact hV.1.2.1, by rw [e7]; exact hisr_w hV.1.2.2 hf (by decide)⟩, kfr_e hV.2.1 (fr_j hf (by decide)) (fun j => fr_c hf (by decide)), Or.inr ⟨h5, N, lw, rfl, (ws_ext (fun j j0 j1 => h228 j j0 (by omega))).trans hV.1.1.1, lawr_cg hV.1.2.1 (fun j hj h1 => h228 j (by omega) h1)⟩, ⟨(fr_j hf (by decide)).trans hV.2.2.2.1.1, (fr_j hf (by decide)).trans hV.2.2.2.1.2⟩, fun j j0 j1 => (fr_c hf (by decide)).trans (hV.2.2.2.2 j j0 j1)⟩
theorem hisr_nil {g8 : Int} (h : M 226 6 = 0) : HISR [] g8 M := ⟨⟨h, by decide⟩, fun i N1 hi => by simp at hi⟩
theorem kfr_new {φ : Int → Int → Int → Int} (h : M 226 26 = -1) (hb : ∀ j, 0 ≤ j → j < 29700 → 0 ≤ M 235 j ∧ M 235 j ≤ 31) : KFR N φ M := ⟨by rw [h]; decide, hb, fun r y h0 => by rw [h] at h0; exact absurd h0 (by decide)⟩
theorem rr_back (hd : 1 ≤ d) (hE : E0 n K R) (hV : RFV N lw A im t w f M) : gm_Wp X LX d bc bs 237 0 (gm_ent 237 [gm_vr 226]) [] n K R M (RC n K R (.inl (some (gm_vi (ap_back N lw A im).1))) (ap_back N lw A im).2.1 (ap_back N lw A im).2.2.1 (ap_back N lw A im).2.2.2 im t w f) := by
  rcases hV.2.2.1 with ⟨h5, hi⟩ | ⟨h5, NI, lI, hi, hc, hl⟩
  · subst hi
    exact bk_c237 (NI := N) hd hE (Or.inl h5) (fun h => absurd (h5.symm.trans h) (by decide)) (fun _ => ⟨⟨rfl, rfl, rfl⟩, rfl, rfv_fr hV (W := [(226, some 0)]) (fr_p fr_0 (Or.inr (by decide))) (by decide)⟩) (fun h => absurd (h5.symm.trans h) (by decide))
  · subst hi
    refine bk_c237 (NI := NI) hd hE (Or.inr h5) (fun _ => hc) (fun h => absurd (h5.symm.trans h) (by decide)) (fun _ M2 hf hT h227 h1244 h26 h6 h0 => ?_)
    have e8 : M2 228 = M 228 := funext fun j => fr_c hf (by decide)
    exact ⟨⟨rfl, rfl, rfl⟩, rfl, ⟨hT, lawr_cg hl (fun j hj h1 => h227 j hj h1), hisr_nil h6⟩, kfr_new h26 (fun j j0 j1 => by rw [fr_c hf (by decide)]; exact hV.2.1.2.1 j j0 j1), Or.inr ⟨(fr_j hf (by decide)).trans h5, NI, lI, rfl, by rw [e8]; exact hc, by rw [e8]; exact hl⟩, ⟨(fr_j hf (by decide)).trans hV.2.2.2.1.1, (fr_j hf (by decide)).trans hV.2.2.2.1.2⟩, fun j j0 j1 => (fr_c hf (by decide)).trans (hV.2.2.2.2 j j0 j1)⟩
theorem rr_valley (hd : 14 ≤ d) (hE : E0 n K R) (hF : VF f t) (hf9 : M 231 = f) (hG : GJ N) (hV : RFV N lw A im t w f M) : gm_Wp X LX d bc bs 242 0 (gm_ent 242 [gm_vr 226]) [] n K R M (RV n K R (ap_valley f t N A).1 (ap_valley f t N A).2.1 (ap_valley f t N A).2.2.1 lw (ap_valley f t N A).2.2.2.1 im 0 (ap_valley f t N A).2.2.2.2 f) := by
  have hsame : ∀ {M2 : gm_M} {w2 : Int}, fr [(229, none), (226, some 13), (226, some 0), (226, some 10), (226, some 8), (226, some 15), (226, some 9), (226, some 11), (227, none)] M M2 → (∀ j, 0 ≤ j → j < 1244 → M2 227 j = M 227 j) → M2 226 13 = w2 → M2 226 8 = 0 → RFV N lw A im 0 w2 f M2 := fun {M2 w2} hf h227 h13 h8 => by
    have e8 : M2 228 = M 228 := funext fun j => fr_c hf (by decide)
    refine ⟨⟨⟨(ws_ext (fun j j0 j1 => h227 j j0 (by omega))).trans hV.1.1.1, fun y y0 y1 => by rw [fr_c hf (by decide)]; exact hV.1.1.2 y y0 y1⟩, lawr_cg hV.1.2.1 (fun j hj h1 => h227 j (by omega) h1), by rw [h227 8 (by decide) (by decide)]; exact hisr_w hV.1.2.2 hf (by decide)⟩, kfr_e hV.2.1 (fr_j hf (by decide)) (fun j => fr_c hf (by decide)), ?_, ⟨h8, h13⟩, fun j j0 j1 => (fr_c hf (by decide)).trans (hV.2.2.2.2 j j0 j1)⟩
    rw [fr_j (j := 5) hf (by decide), e8]
    exact hV.2.2.1
  refine rv_242 hd hE hF hf9 hV.2.2.2.1.1 hV.1.1 hG.1 (fun M2 hf h227 hv h13 h8 h0 => ?_) (fun M2 hf h227 hv h7 h13 h8 h0 => ?_) (fun M2 hf hv h7 hGI hT hB h13 h8 h0 h6 h26 => ?_)
  · have er : ap_valley f t N A = (1, 0, N, A, (v_val f t N).2.1) := tif_t hv
    rw [er]
    exact ⟨⟨rfl, rfl, rfl⟩, ⟨_, rfl, fun e => absurd (show (1 : Int) = 0 from e) (by decide)⟩, h0, hsame hf h227 h13 h8⟩
  · have er : ap_valley f t N A = (2, 0, N, A, -1) := (tif_f (fun hh => hh hv)).trans (tif_t h7)
    rw [er]
    exact ⟨⟨rfl, rfl, rfl⟩, ⟨_, rfl, fun e => absurd (show (2 : Int) = 0 from e) (by decide)⟩, h0, hsame hf h227 h13 h8⟩
  · have er : ap_valley f t N A = (0, N 7 + 1, nup (v_val f t N).2.2 7 (N 7 + 1), [], -1) := (tif_f (fun hh => hh hv)).trans (tif_f (by omega))
    rw [er]
    have e8 : M2 228 = M 228 := funext fun j => fr_c hf (by decide)
    refine ⟨⟨rfl, rfl, rfl⟩, ⟨_, rfl, fun _ => rfl⟩, h0, ⟨hT, lawr_cg hV.1.2.1 (fun j hj h1 => ?_), hisr_nil h6⟩, kfr_new h26 (fun j j0 j1 => by rw [fr_c hf (by decide)]; exact hV.2.1.2.1 j j0 j1), ?_, ⟨h8, h13⟩, fun j j0 j1 => (fr_c hf (by decide)).trans (hV.2.2.2.2 j j0 j1)⟩
    · rcases hj with hj | rfl
      · exact hB.1 j hj
      · exact hB.2
    · rw [fr_j (j := 5) hf (by decide), e8]
      exact hV.2.2.1
theorem rr_law (hd : 36 ≤ d) (hE : E0 n K R) (hF : VF f t) (hf9 : M 231 = f) (hV : RFV N lw A im t w f M) : gm_Wp X LX d bc bs 283 0 (gm_ent 283 [gm_vr 226]) [] n K R M (RV n K R (ap_law f t lw A).1 (ap_law f t lw A).2.1 N (ap_law f t lw A).2.2.1 (ap_law f t lw A).2.2.2.1 im 0 (ap_law f t lw A).2.2.2.2 f) := by
  refine rl_283 hd hE hF hf9 hV.2.2.2.1.1 hV.1.1 (fun M2 hf h227 hg h13 h8 h0 => ?_) (fun M2 hf hg hLR h395 h1 hT h13 h8 h0 h6 h26 => ?_)
  · have er : ap_law f t lw A = (1, 0, lw, A, (g_law f t).2) := tif_t hg
    rw [er]
    have e8 : M2 228 = M 228 := funext fun j => fr_c hf (by decide)
    refine ⟨⟨rfl, rfl, rfl⟩, ⟨_, rfl, fun e => absurd (show (1 : Int) = 0 from e) (by decide)⟩, h0, ⟨⟨(ws_ext (fun j j0 j1 => h227 j (by omega))).trans hV.1.1.1, fun y y0 y1 => by rw [fr_c hf (by decide)]; exact hV.1.1.2 y y0 y1⟩, lawr_cg hV.1.2.1 (fun j hj h1 => h227 j h1), by rw [h227 8 (by decide)]; exact hisr_w hV.1.2.2 hf (by decide)⟩, kfr_e hV.2.1 (fr_j hf (by decide)) (fun j => fr_c hf (by decide)), ?_, ⟨h8, h13⟩, fun j j0 j1 => (fr_c hf (by decide)).trans (hV.2.2.2.2 j j0 j1)⟩
    rw [fr_j (j := 5) hf (by decide), e8]
    exact hV.2.2.1
  · have er : ap_law f t lw A = (0, (g_law f t).2, some (s_law f t), [], -1) := tif_f (fun hh => hh hg)
    rw [er]
    have e8 : M2 228 = M 228 := funext fun j => fr_c hf (by decide)
    have hW := s_law_w hF.1.1 hg
    obtain ⟨r1, r2⟩ := hLR hW.1
    refine ⟨⟨rfl, rfl, rfl⟩, ⟨_, rfl, fun _ => rfl⟩, h0, ⟨hT, ⟨(fun e => nomatch e), fun ls e => ?_⟩, hisr_nil h6⟩, kfr_new h26 (fun j j0 j1 => by rw [fr_c hf (by decide)]; exact hV.2.1.2.1 j j0 j1), ?_, ⟨h8, h13⟩, fun j j0 j1 => (fr_c hf (by decide)).trans (hV.2.2.2.2 j j0 j1)⟩
    · cases e
      exact ⟨⟨h1, h395.trans (s_law_len hg).symm⟩, hW, r1, r2⟩
    · rw [fr_j (j := 5) hf (by decide), e8]
      exact hV.2.2.1
end RA9
end
/-! 7c10.rf -/
section
/-! FEED AND END of the reference upon the abstract state. -/
section RF10
variable {X : Int → Int} {LX d bc bs n : Nat} {K : gm_K} {R : gm_R} {M M2 : gm_M} {N : Int → Int} {lw : Option (List lln)} {A : List (Int → Int)} {im : Option ((Int → Int) × Option (List lln))} {t t2 w x : Int} {f f2 a : Int → Int}
theorem rfv_tape (hV : RFV N lw A im t w f M) (h8 : M2 226 8 = t2) (hf : ∀ j, 0 ≤ j → j < 400 → M2 231 j = f2 j) (e : ∀ k j, rK k j → ¬ k = 231 → ¬ (k = 226 ∧ j = 8) → M2 k j = M k j) : RFV N lw A im t2 w f2 M2 := by
  obtain ⟨⟨hT, hL, hH⟩, hk, hi, ht, -⟩ := hV
  have e7 : M2 227 = M 227 := funext fun j => e 227 j (by unfold rK; omega) (by omega) (by omega)
  have e8 : M2 228 = M 228 := funext fun j => e 228 j (by unfold rK; omega) (by omega) (by omega)
  refine ⟨⟨⟨by rw [e7]; exact hT.1, fun y y0 y1 => ?_⟩, by rw [e7]; exact hL, ?_⟩, kfr_e hk (e 226 26 (by unfold rK; omega) (by omega) (by omega)) (fun j => e 235 j (by unfold rK; omega) (by omega) (by omega)), ?_, ⟨h8, ?_⟩, hf⟩
  · rw [e 234 y (by unfold rK; omega) (by omega) (by omega)]
    exact hT.2 y y0 y1
  · rw [e7]
    exact hisr_e hH (e 226 6 (by unfold rK; omega) (by omega) (by omega)) (fun j => e 230 j (by unfold rK; omega) (by omega) (by omega))
  · rw [e 226 5 (by unfold rK; omega) (by omega) (by omega), e8]
    exact hi
  · rw [e 226 13 (by unfold rK; omega) (by omega) (by omega)]; exact ht.2
theorem ff_x {T : Int} {F V : Int → Int} {k : Nat} {j : Int} (h : rK k j) (h1 : ¬ k = 231) (h2 : ¬ (k = 226 ∧ j = 8)) : ff M T F V k j = M k j := by
  unfold rK at h
  unfold ff
  by_cases h3 : k = 226
  · rw [if_pos h3, if_neg (by omega), if_neg (by omega)]
  · rw [if_neg h3, if_neg h1, if_neg (by omega)]
theorem ff_231 {T : Int} {F V : Int → Int} {j : Int} : ff M T F V 231 j = F j := by unfold ff; rw [if_neg (by decide), if_pos rfl]
theorem rr_feed (hE : E0 n K R) (ht0 : 0 ≤ t ∧ t ≤ 400) (hV : RFV N lw A im t w f M) : gm_Wp X LX d bc bs 239 0 (gm_ent 239 [gm_vr 226, gm_vi (a 0), gm_vi (a 1), gm_vi (a 2), gm_vi (a 3), gm_vi (a 4)]) [] n K R M (RC n K R (.inl (some (gm_vi (ap_feed a t f).1))) N lw A im (ap_feed a t f).2.1 w (ap_feed a t f).2.2) := by
  have ht := hV.2.2.2.1.1
  refine fd_c239 (a := a) (e0k hE (k := 226) (c := 11) (by decide +kernel)) (e0a hE (k := 231) (q := (1, 400)) (by decide +kernel)) (e0a hE (k := 232) (q := (0, 5)) (by decide +kernel)) (e0r hE (k := 226) (j := 7) (r := 231) (by decide +kernel)) (e0r hE (k := 226) (j := 14) (r := 232) (by decide +kernel)) (by rw [ht]; exact ht0) (fun h => ?_) (fun V h => ?_)
  · rw [ht] at h
    have er : ap_feed a t f = (-1, t, f) := tif_t h
    rw [er]
    exact ⟨⟨rfl, rfl, rfl⟩, rfl, rfv_tape hV (ff_8.trans ht) (fun j j0 j1 => ff_231.trans (hV.2.2.2.2 j j0 j1)) (fun k j h1 h2 h3 => ff_x h1 h2 h3)⟩
  · rw [ht] at h
    have er : ap_feed a t f = (t + 20, t + 20, fdc a t 20 f) := tif_f (by omega)
    rw [er, ht]
    refine ⟨⟨rfl, rfl, rfl⟩, rfl, rfv_tape hV ff_8 (fun j j0 j1 => ff_231.trans ?_) (fun k j h1 h2 h3 => ff_x h1 h2 h3)⟩
    show fdc a t 20 (M 231) j = fdc a t 20 f j
    unfold fdc
    by_cases h9 : t ≤ j ∧ j < t + 20
    · rw [if_pos h9, if_pos h9]
    · rw [if_neg h9, if_neg h9]
      exact hV.2.2.2.2 j j0 j1
end RF10
end
/-! 7c11.gj -/
section
/-! WHAT THE ABSTRACT STATE ALWAYS IS stays by every act. -/
section GJ11
variable {N N' : Int → Int} {lw : Option (List lln)} {A : List (Int → Int)} {im : Option ((Int → Int) × Option (List lln))} {t w x y a b p l : Int} {f : Int → Int} {e : Int}
theorem ir_nup {i v : Int} (h : irN N) (hv : gm_ir v) : irN (nup N i v) := fun j => by
  unfold nup
  split
  · exact hv
  · exact h j
theorem tx_u_b {f : Int → Int} {e b : Int} : ∀ (n : Nat) (p v : Int), b ≤ p → (v = -1 ∨ (0 ≤ v ∧ ((p - b = 0 ∧ v < 1) ∨ (p - b = 1 ∧ v < 10) ∨ (p - b = 2 ∧ v < 100) ∨ (p - b = 3 ∧ v < 1000) ∨ (4 ≤ p - b ∧ v < 10000)))) → -1 ≤ tx_u f e 4 b n p v ∧ tx_u f e 4 b n p v ≤ 9999 := by
  intro n
  induction n with
  | zero =>
    intro p v hp hv
    show -1 ≤ v ∧ v ≤ 9999
    omega
  | succ n ih =>
    intro p v hp hv
    show -1 ≤ (if p < e ∧ tx_d f p = true then tx_u f e 4 b n (p + 1) (if p - b < 4 ∧ ¬ v = -1 then v * 10 + f p - 48 else -1) else v) ∧ (if p < e ∧ tx_d f p = true then tx_u f e 4 b n (p + 1) (if p - b < 4 ∧ ¬ v = -1 then v * 10 + f p - 48 else -1) else v) ≤ 9999
    by_cases h : p < e ∧ tx_d f p = true
    · rw [if_pos h]
      have hd := of_decide_eq_true h.2
      refine ih (p + 1) _ (by omega) ?_
      by_cases h2 : p - b < 4 ∧ ¬ v = -1
      · rw [if_pos h2]
        omega
      · rw [if_neg h2]
        exact Or.inl rfl
    · rw [if_neg h]
      omega
theorem tx_v_ir {f : Int → Int} {e b : Int} : gm_ir (tx_v f e 4 b) := by
  unfold tx_v
  split
  · exact ⟨by decide, by decide⟩
  split
  · exact ⟨by decide, by decide⟩
  split
  · have := tx_u_b (f := f) (e := e) (b := b) (e - b).toNat b 0 (Int.le_refl _) (Or.inr ⟨by decide, Or.inl ⟨by omega, by decide⟩⟩)
    exact ⟨by omega, by omega⟩
  · exact ⟨by decide, by decide⟩
theorem ir_s {v : Int} (h : 0 ≤ v ∧ v ≤ 300) : gm_ir (v + 1) := ⟨by omega, by omega⟩
theorem ir_thr {f9 t9 l9 r9 : Int} (h : irN N) (h4 : 0 ≤ N 4 ∧ N 4 ≤ 24) (hf : gm_ir f9) (ht : gm_ir t9) (hl : gm_ir l9) (hr : gm_ir r9) : irN (nthr N f9 t9 l9 r9) := by
  unfold nthr
  exact ir_nup (ir_nup (ir_nup (ir_nup (ir_nup (ir_nup (ir_nup (ir_nup h (ir_s ⟨h4.1, by omega⟩)) hf) ht) hl) (h 9)) hr) ⟨by decide, by decide⟩) ⟨by decide, by decide⟩
theorem ir_per {l9 r9 w9 : Int} (h : irN N) (h3 : 0 ≤ N 3 ∧ N 3 ≤ 8) (hl : gm_ir l9) (hr : gm_ir r9) (hw : gm_ir w9) : irN (nper N l9 r9 w9) := by
  unfold nper
  exact ir_nup (ir_nup (ir_nup (ir_nup h (ir_s ⟨h3.1, by omega⟩)) hl) hr) hw
theorem ir_opn (h : irN N) (h14 : 0 ≤ N 14 ∧ N 14 ≤ 24) (hl : gm_ir l) (hp : gm_ir p) : irN (nopn N l p) := by
  unfold nopn
  exact ir_nup (ir_nup (ir_nup (ir_nup (ir_nup (ir_nup h hp) (h 9)) (ir_s ⟨h14.1, by omega⟩)) (h 9)) hl) hp
theorem v_sp_ir : ∀ (t : Nat) (N : Int → Int) (a b : Int), irN N → irN (v_sp f e t N a b).2.2 := by
  intro t
  induction t with
  | zero => exact fun N a b h => h
  | succ t ih => exact fun N a b h => tif_i (C := fun q : Bool × Int × (Int → Int) => irN q.2.2) (ih _ _ _ (ir_nup h tx_v_ir)) h
theorem v_line_ir (h : irN N) (hR : NR N) : irN (v_line f e N b).2.2 := by
  have T : ∀ {P : Prop} {a c : Bool × Int × (Int → Int)}, irN a.2.2 → irN c.2.2 → irN (tif P a c).2.2 := fun {P a c} ha hc => tif_i (C := fun q : Bool × Int × (Int → Int) => irN q.2.2) ha hc
  have c2 := hR.2.1.1
  have c5 := hR.2.1.2.1
  have c3 := hR.2.1.2.2.1
  have c4 := hR.2.1.2.2.2.1
  have c6 := hR.2.1.2.2.2.2.1
  unfold v_line
  refine T ?_ (T ?_ (T ?_ (T ?_ (T ?_ (T ?_ (T ?_ (T ?_ (T ?_ (T ?_ h)))))))))
  · exact T (T (ir_nup (ir_nup h tx_v_ir) tx_v_ir) h) h
  · exact T (T (ir_nup (ir_nup h tx_v_ir) ⟨by decide, by decide⟩) h) h
  · exact T h (T (v_sp_ir _ _ _ _ (ir_nup (ir_nup h (ir_s ⟨c2.1, by omega⟩)) tx_v_ir)) h)
  · exact T (T (T (ir_nup (ir_nup h tx_v_ir) tx_v_ir) h) h) h
  · exact T (ir_nup h tx_v_ir) h
  · exact T (ir_nup h tx_v_ir) h
  · exact T h (T (T (T (ir_nup (ir_nup (ir_nup (ir_nup h (ir_s ⟨c5.1, by omega⟩)) tx_v_ir) tx_v_ir) tx_v_ir) h) h) h)
  · exact T h (T (T (T (T (ir_per h c3 tx_v_ir tx_v_ir tx_v_ir) h) (ir_per h c3 tx_v_ir tx_v_ir ⟨by decide, by decide⟩)) h) h)
  · exact T h (T (T (ir_thr h c4 ⟨by decide, by decide⟩ ⟨by decide, by decide⟩ tx_v_ir tx_v_ir) h) h)
  · exact T h (v_sp_ir _ _ _ _ (ir_nup h (ir_s ⟨c6.1, by omega⟩)))
theorem v_txt_ir : ∀ (t : Nat) (N : Int → Int) (b : Int), GJ N → 0 ≤ b ∧ b ≤ e → (v_txt f e t N b).1 = true → irN (v_txt f e t N b).2.2 := by
  intro t
  induction t with
  | zero => exact fun N b _ _ h => by cases h
  | succ t ih =>
    intro N b h hb ht
    have q := v_line_b (f := f) (N := N) hb
    by_cases h1 : (v_line f e N b).1 = true
    · by_cases h2 : tx_k f e (v_line f e N b).2.1 = 256
      · rw [show v_txt f e (t + 1) N b = v_line f e N b by show tif _ _ _ = _; rw [tif_t h1, tif_t h2]]
        exact v_line_ir h.2 h.1.1
      · by_cases h3 : tx_k f e (v_line f e N b).2.1 = 59
        · rw [show v_txt f e (t + 1) N b = v_txt f e t (v_line f e N b).2.2 (tx_n f e (v_line f e N b).2.1) by show tif _ _ _ = _; rw [tif_t h1, tif_f h2, tif_t h3]] at ht ⊢
          have n1 := tx_nb (f := f) q.2
          exact ih _ _ ⟨v_line_g h.1 hb h1, v_line_ir h.2 h.1.1⟩ ⟨by omega, n1.2.1⟩ ht
        · rw [show v_txt f e (t + 1) N b = (false, (v_line f e N b).2.1, N) by show tif _ _ _ = _; rw [tif_t h1, tif_f h2, tif_f h3]] at ht
          cases ht
    · rw [show v_txt f e (t + 1) N b = (false, (v_line f e N b).2.1, N) from tif_f h1] at ht
      cases ht
theorem v_val_ir (h : GJ N) (he : 0 ≤ e) (ht : (v_val f e N).1 = true) : irN (v_val f e N).2.2 := by
  obtain ⟨g1, g2, -⟩ := tx_gb (f := f) he
  by_cases h1 : tx_k f e (tx_g f e 0) = 256
  · rw [show v_val f e N = (true, tx_g f e 0, N) from tif_t h1]
    exact h.2
  · rw [show v_val f e N = v_txt f e 14 N (tx_g f e 0) from tif_f h1] at ht ⊢
    exact v_txt_ir _ _ _ h ⟨g1, g2⟩ ht
theorem ym_ir {Ψ : (Int → Int) → Int → Int → Int → Int → Prop} {o dd : Int → Int} (hN : NR N) (hg : LOGI N) (hi : irN N) {s0 : Int} (h0 : 0 ≤ s0) : ∀ k : Nat, (k : Int) ≤ N 4 → irN (yrun Ψ o dd (N, s0) k).1 := by
  intro k
  induction k with
  | zero => exact fun _ => hi
  | succ k ih =>
    intro hk
    obtain ⟨i1, i2, i3, i4, -⟩ := ym_i (Ψ := Ψ) (o := o) (dd := dd) hN hg h0 k (by omega)
    have i := ih (by omega)
    have h4 := hN.2.1.2.2.2.1
    show irN (ystep Ψ o dd (k : Int) (yrun Ψ o dd (N, s0) k)).1
    generalize yrun Ψ o dd (N, s0) k = s at i i1 i2 i4 ⊢
    unfold ystep
    by_cases hw : WTS s.1 (k : Int) (o (k : Int)) ∧ ¬ opf s.1 (Ψ s.1) (k : Int) (dd (k : Int)) = -1
    · rw [tif_t hw]
      have hk4 : (0 : Int) ≤ (k : Int) ∧ (k : Int) < s.1 4 := by rw [i4]; omega
      have hr : 0 ≤ (s.1 (119 + ((k : Int) * 7 + 0))) := by
        have := (i1.2.2.2.2 (k : Int) hk4.1 hk4.2).1
        have := hw.1.1
        omega
      have hb := opf_b (ψ := Ψ s.1) (dp := dd (k : Int)) i1 hk4 hr
      have h3 := i1.2.1.2.2.1
      exact ir_opn i i1.2.1.2.2.2.2.2.1 ⟨by omega, by omega⟩ ⟨by omega, by omega⟩
    · rw [tif_f hw]
      exact i
theorem yrs_ir {Ψ : (Int → Int) → Int → Int → Int → Int → Prop} {o dd : Int → Int} (hN : NR N) (hg : LOGI N) (hi : irN N) : ∀ k : Nat, N 9 + (k : Int) ≤ 299 → irN (yrs Ψ o dd (N, 0) k).1 := by
  intro k
  induction k with
  | zero => exact fun _ => hi
  | succ k ih =>
    intro hk
    obtain ⟨i1, i2, i3, i4, i5, i6, i7⟩ := yrs_i (Ψ := Ψ) (o := o) (dd := dd) hN hg k (by omega)
    have i := ih (by omega)
    show irN (yrun Ψ o dd (nyr (yrs Ψ o dd (N, 0) k).1, 0) ((yrs Ψ o dd (N, 0) k).1 4).toNat).1
    have h9 := hN.1.2.2.2.2.2
    have h4 := i1.2.1.2.2.2.1
    have e4 : nyr (yrs Ψ o dd (N, 0) k).1 4 = (yrs Ψ o dd (N, 0) k).1 4 := nup_ne (by decide)
    refine ym_ir (nr_nyr i1 (by omega)) (logi_nyr i2) ?_ (Int.le_refl 0) _ (by rw [e4]; omega)
    unfold nyr
    exact ir_nup i ⟨by omega, by omega⟩
/-- one more is remembered -/
theorem ra_take (hG : GJ N) (hA : ∀ N1 ∈ A, GJ N1 ∧ hgeo N N1) (hg : hgeo N N') : ∀ N1 ∈ (N :: A).take 12, GJ N1 ∧ hgeo N' N1 := fun N1 h => by
  rcases List.mem_cons.mp (List.mem_of_mem_take h) with rfl | h
  · exact ⟨hG, hgeo_s hg⟩
  · exact ⟨(hA N1 h).1, hgeo_t (hgeo_s hg) (hA N1 h).2⟩
theorem ra_post (h : RA N lw A im t w f) (ha : gm_ir a) (hb : gm_ir b) : RA (ap_post N A a b).2.2.1 lw (ap_post N A a b).2.2.2 im t w f := by
  obtain ⟨hG, hL, hA, hrest⟩ := h
  unfold ap_post
  by_cases h1 : ¬ ((0 ≤ a ∧ a < N 3) ∧ (0 ≤ b ∧ b < N 3))
  · rw [tif_t h1]; exact ⟨hG, hL, hA, hrest⟩
  rw [tif_f h1]
  by_cases h2 : a = b
  · rw [tif_t h2]; exact ⟨hG, hL, hA, hrest⟩
  rw [tif_f h2]
  by_cases h3 : N 4 = 24
  · rw [tif_t h3]; exact ⟨hG, hL, hA, hrest⟩
  rw [tif_f h3]
  have h1 := Classical.not_not.mp h1
  have h4 := hG.1.1.2.1.2.2.2.1
  have hP := hG.1.1.2.2.2.1 a h1.1.1 h1.1.2
  exact ⟨⟨gi_nthr hG.1 (by omega) ⟨by omega, h1.1.2⟩ ⟨by omega, h1.2.2⟩ hP.1 hP.2.1 (fun _ => h1.2.1), ir_thr hG.2 h4 ha hb (hG.2 _) (hG.2 _)⟩, hL, ra_take hG hA (hgeo_thr h4.1), hrest⟩
theorem ra_watch (h : RA N lw A im t w f) (hl : gm_ir l) : RA (ap_watch N A p l).2.2.1 lw (ap_watch N A p l).2.2.2 im t w f := by
  obtain ⟨hG, hL, hA, hrest⟩ := h
  unfold ap_watch
  by_cases h1 : ¬ ((0 ≤ p ∧ p < N 3) ∧ (l = -1 ∨ (0 ≤ l ∧ l < N 0)))
  · rw [tif_t h1]; exact ⟨hG, hL, hA, hrest⟩
  rw [tif_f h1]
  have h1 := Classical.not_not.mp h1
  have h0 := hG.1.1.1.1
  refine ⟨⟨gi_nwat hG.1 h1.1 ⟨by omega, by omega⟩, ?_⟩, hL, ra_take hG hA (hgeo_wat h1.1.1), hrest⟩
  show irN (nwat N p l)
  unfold nwat
  exact ir_nup hG.2 hl
theorem ra_open (h : RA N lw A im t w f) : RA (ap_open lw N A l).2.2.1 lw (ap_open lw N A l).2.2.2 im t w f := by
  obtain ⟨hG, hL, hA, hrest⟩ := h
  unfold ap_open
  by_cases h1 : ¬ (0 ≤ l ∧ l < N 4)
  · rw [tif_t h1]; exact ⟨hG, hL, hA, hrest⟩
  rw [tif_f h1]
  by_cases h2 : ¬ WTS N l (aout N (hts (N 13)) (aphi lw N (hts (N 13))) l)
  · rw [tif_t h2]; exact ⟨hG, hL, hA, hrest⟩
  rw [tif_f h2]
  have h1 := Classical.not_not.mp h1
  have h2 := Classical.not_not.mp h2
  have h4 := hG.1.1.2.1.2.2.2.1
  have h3 := hG.1.1.2.1.2.2.1
  have hB := hG.1.1.2.2.2.2 l h1.1 h1.2
  have h14 := logi_lt hG.1.1 hG.1.2.2 h1 h2.2.1
  have hl24 : 0 ≤ l ∧ l < 24 := ⟨h1.1, by omega⟩
  have w0 := h2.1
  have hp : 0 ≤ (N (119 + (l * 7 + 1))) ∧ (N (119 + (l * 7 + 1))) < N 3 := ⟨hB.2.2.2.2.2.2.2 (by omega), hB.2.1.2⟩
  have hg : geo N (nopn N l ((N (119 + (l * 7 + 1))))) := geo_nopn hl24 h14
  exact ⟨⟨⟨nr_nopn hG.1.1 h1 h14 hp, ns_geo hg hG.1.1 hG.1.2.1, logi_nopn hG.1.1 hG.1.2.2 h1 h2.2.1 (by omega)⟩, ir_opn hG.2 ⟨h14.1, by omega⟩ ⟨by omega, by omega⟩ (hG.2 _)⟩, hL, ra_take hG hA (hgeo_g hg), hrest⟩
theorem ra_years (h : RA N lw A im t w f) : RA (ap_years lw N A y).2.2.1 lw (ap_years lw N A y).2.2.2 im t w f := by
  obtain ⟨hG, hL, hA, hrest⟩ := h
  unfold ap_years
  by_cases h1 : ¬ (1 ≤ y ∧ y ≤ 50 ∧ y ≤ 299 - N 9)
  · rw [tif_t h1]; exact ⟨hG, hL, hA, hrest⟩
  rw [tif_f h1]
  have h1 := Classical.not_not.mp h1
  have hh9 : N 9 + (y.toNat : Int) ≤ 299 := by omega
  obtain ⟨i1, i2, hg, -⟩ := yrs_i (Ψ := fun N2 => apsi lw N2 (hts (N 13))) (o := aout N (hts (N 13)) (aphi lw N (hts (N 13)))) (dd := adp N (hts (N 13)) (aphi lw N (hts (N 13)))) hG.1.1 hG.1.2.2 y.toNat hh9
  have ii := yrs_ir (Ψ := fun N2 => apsi lw N2 (hts (N 13))) (o := aout N (hts (N 13)) (aphi lw N (hts (N 13)))) (dd := adp N (hts (N 13)) (aphi lw N (hts (N 13)))) hG.1.1 hG.1.2.2 hG.2 y.toNat hh9
  exact ⟨⟨⟨i1, ns_geo hg hG.1.1 hG.1.2.1, i2⟩, ii⟩, hL, ra_take hG hA (hgeo_g hg), hrest⟩
theorem ra_undo (h : RA N lw A im t w f) : RA (ap_undo N A).2.1 lw (ap_undo N A).2.2 im t w f := by
  obtain ⟨hG, hL, hA, hrest⟩ := h
  cases A with
  | nil => exact ⟨hG, hL, hA, hrest⟩
  | cons N0 A1 =>
    have h0 := hA N0 List.mem_cons_self
    exact ⟨h0.1, hL, fun N1 h1 => ⟨(hA N1 (List.mem_cons_of_mem _ h1)).1, hgeo_t (hgeo_s h0.2) (hA N1 (List.mem_cons_of_mem _ h1)).2⟩, hrest⟩
theorem ra_image (h : RA N lw A im t w f) : RA N lw A (some (N, lw)) t w f := by
  obtain ⟨hG, hL, hA, hi, hrest⟩ := h
  refine ⟨hG, hL, hA, fun NI lI e => ?_, hrest⟩
  cases e
  exact ⟨hG, hL⟩
theorem ra_back (h : RA N lw A im t w f) : RA (ap_back N lw A im).2.1 (ap_back N lw A im).2.2.1 (ap_back N lw A im).2.2.2 im t w f := by
  obtain ⟨hG, hL, hA, hi, hrest⟩ := h
  cases im with
  | none => exact ⟨hG, hL, hA, hi, hrest⟩
  | some q =>
    obtain ⟨g1, g2⟩ := hi q.1 q.2 rfl
    exact ⟨g1, g2, (fun N1 h1 => nomatch h1), hi, hrest⟩
theorem ra_valley (h : RA N lw A im t w f) : RA (ap_valley f t N A).2.2.1 lw (ap_valley f t N A).2.2.2.1 im 0 (ap_valley f t N A).2.2.2.2 f := by
  obtain ⟨hG, hL, hA, hi, ht, hw, hf⟩ := h
  unfold ap_valley
  by_cases h1 : ¬ (v_val f t N).1 = true
  · rw [tif_t h1]
    have := v_val_b (f := f) (N := N) ht.1
    exact ⟨hG, hL, hA, hi, ⟨by decide, by decide⟩, ⟨by show -1 ≤ (v_val f t N).2.1; omega, by show (v_val f t N).2.1 ≤ 400; omega⟩, hf⟩
  rw [tif_f h1]
  by_cases h2 : N 7 = 12
  · rw [tif_t h2]
    exact ⟨hG, hL, hA, hi, ⟨by decide, by decide⟩, (show (-1 : Int) ≤ -1 ∧ (-1 : Int) ≤ 400 from ⟨by decide, by decide⟩), hf⟩
  rw [tif_f h2]
  have h1 := Classical.not_not.mp h1
  have h7 := hG.1.1.2.1.2.2.2.2.2.2.1
  exact ⟨⟨gi_7 (v_val_g hG.1 ht.1 h1) ⟨by omega, by omega⟩, ir_nup (v_val_ir hG ht.1 h1) ⟨by omega, by omega⟩⟩, hL, (fun N1 h => nomatch h), hi, ⟨by decide, by decide⟩, (show (-1 : Int) ≤ -1 ∧ (-1 : Int) ≤ 400 from ⟨by decide, by decide⟩), hf⟩
theorem ra_law (h : RA N lw A im t w f) : RA N (ap_law f t lw A).2.2.1 (ap_law f t lw A).2.2.2.1 im 0 (ap_law f t lw A).2.2.2.2 f := by
  obtain ⟨hG, hL, hA, hi, ht, hw, hf⟩ := h
  obtain ⟨b0, b1, b2⟩ := g_law_b (f := f) (e := t) ht.1
  unfold ap_law
  by_cases h1 : ¬ (g_law f t).1 = true
  · rw [tif_t h1]
    have b2 := b2 h1
    exact ⟨hG, hL, hA, hi, ⟨by decide, by decide⟩, ⟨by show -1 ≤ (g_law f t).2; omega, by show (g_law f t).2 ≤ 400; omega⟩, hf⟩
  rw [tif_f h1]
  have h1 := Classical.not_not.mp h1
  refine ⟨hG, fun ls e => ?_, (fun N1 h => nomatch h), hi, ⟨by decide, by decide⟩, (show (-1 : Int) ≤ -1 ∧ (-1 : Int) ≤ 400 from ⟨by decide, by decide⟩), hf⟩
  cases e
  exact s_law_w ht.1 h1
theorem ra_feed {a : Int → Int} (h : RA N lw A im t w f) : RA N lw A im (ap_feed a t f).2.1 w (ap_feed a t f).2.2 := by
  obtain ⟨hG, hL, hA, hi, ht, hw, hf⟩ := h
  unfold ap_feed
  by_cases h1 : 381 ≤ t
  · rw [tif_t h1]; exact ⟨hG, hL, hA, hi, ht, hw, hf⟩
  rw [tif_f h1]
  refine ⟨hG, hL, hA, hi, (show 0 ≤ t + 20 ∧ t + 20 ≤ 400 from ⟨by omega, by omega⟩), hw, fun j j0 j1 => ?_⟩
  show -128 ≤ fdc a t 20 f j ∧ fdc a t 20 f j ≤ 127
  unfold fdc
  split
  · exact fb_ir
  · exact hf j j0 j1
theorem ra_end (h : RA N lw A im t w f) : RA N lw A im (ap_end x t).2 w f := by
  obtain ⟨hG, hL, hA, hi, ht, hw, hf⟩ := h
  unfold ap_end
  by_cases h1 : x < 0 ∨ t < x
  · rw [tif_t h1]; exact ⟨hG, hL, hA, hi, ht, hw, hf⟩
  rw [tif_f h1]
  exact ⟨hG, hL, hA, hi, ⟨by omega, by omega⟩, hw, hf⟩
end GJ11
end
/-! 7c12.dt -/
section
/-! ONE HEAP TOLD TWICE: what the class and the reference hold, by the row's numbers. -/
section DT12
variable {n n2 : Nat} {K1 K2 : gm_K} {R2 : gm_R} {M1 M2 : gm_M} {N : Int → Int} {lw : Option (List lln)} {A : List (Int → Int)} {im : Option ((Int → Int) × Option (List lln))} {t w : Int} {f : Int → Int}
/-- the numbers of an array, of an object's field, by the types -/
noncomputable def tyA (k len : Nat) : Bool := ((p2_O.1 k == some (0, len)) || (p2_O.1 k == some (1, len))) && (gm_tyr p2_O k 0 ((len : Int) - 1)).isSome
noncomputable def tyF (k c j : Nat) : Bool := (p2_O.1 k == some (c + 4, 0)) && (decide (j < gm_nf c) && (!gm_isr c j && (gm_tyr p2_O k (j : Int) (j : Int)).isSome))
theorem dw_x {x y : Int} (h : Int32.ofInt x = Int32.ofInt y) (hy : gm_ir y) : y = gm_w x := by
  have := dt_w h
  rw [this]
  exact (gm_w_id hy.1 hy.2).symm
theorem dw_i {x : Int} (h : gm_ir x) : gm_w x = x := gm_w_id h.1 h.2
theorem dw_a {k len : Nat} {j : Int} (hd : dt_m n K1 M1 K2 M2) (hn : 245 ≤ n) (hK : ∀ k, 1 ≤ k → k ≤ n → K1 k = K2 k) (hF : gm_Fx p2_O n2 K2 R2 M2) (hb : tyA k len = true) (j0 : 0 ≤ j) (j1 : j < (len : Int)) : M2 k j = gm_w (M1 k j) := by
  simp only [tyA, Bool.and_eq_true, Bool.or_eq_true, beq_iff_eq] at hb
  obtain ⟨hq, hs⟩ := hb
  obtain ⟨q, hs⟩ := Option.isSome_iff_exists.mp hs
  have hir := ((gm_tyr_s hF hs).2 j j0 (by omega)).1
  obtain ⟨u, rfl⟩ : ∃ u : Nat, j = (u : Int) := ⟨j.toNat, by omega⟩
  have hk : (1 ≤ k ∧ k ≤ 245) ∧ (K2 k = (0, len) ∨ K2 k = (1, len)) := by
    rcases hq with hq | hq
    · have := bg_O1 hq
      exact ⟨⟨(hF.1 k _ hq).1, by omega⟩, Or.inl (hF.1 k _ hq).2.2⟩
    · have := bg_O1 hq
      exact ⟨⟨(hF.1 k _ hq).1, by omega⟩, Or.inr (hF.1 k _ hq).2.2⟩
  have e := hK k hk.1.1 (by omega)
  refine dw_x ((hd k hk.1.1 (by omega) e).1 ?_ u ?_) hir
  · rw [e]
    rcases hk.2 with h | h <;> rw [h]
    · exact Or.inl rfl
    · exact Or.inr rfl
  · rw [e]
    rcases hk.2 with h | h <;> rw [h] <;> show u < len <;> omega
theorem dw_f {k c j : Nat} (hd : dt_m n K1 M1 K2 M2) (hn : 245 ≤ n) (hK : ∀ k, 1 ≤ k → k ≤ n → K1 k = K2 k) (hF : gm_Fx p2_O n2 K2 R2 M2) (hb : tyF k c j = true) : M2 k (j : Int) = gm_w (M1 k (j : Int)) := by
  simp only [tyF, Bool.and_eq_true, beq_iff_eq, decide_eq_true_eq, Bool.not_eq_true'] at hb
  obtain ⟨hq, hj, hr, hs⟩ := hb
  obtain ⟨q, hs⟩ := Option.isSome_iff_exists.mp hs
  have hir := ((gm_tyr_s hF hs).2 (j : Int) (Int.le_refl _) (Int.le_refl _)).1
  have hk := bg_O1 hq
  obtain ⟨k1, k2, k3⟩ := hF.1 k _ hq
  have e := hK k k1 (by omega)
  exact dw_x ((hd k k1 (by omega) e).2.2 c j (by rw [e, k3]) hj (by rw [hr]; decide)) hir
/-- a State's cells -/
noncomputable def blk (b : Nat) : Bool := (List.range 8).all (fun j => tyF b 1 j) && ((tyF (b + 1) 2 3 && (tyF (b + 3) 2 3 && (tyF (b + 5) 2 3 && (tyF (b + 7) 2 3 && (tyF (b + 9) 2 3 && tyF (b + 11) 2 3))))) && (tyA (b + 2) 56 && (tyA (b + 4) 24 && (tyA (b + 6) 24 && (tyA (b + 8) 168 && (tyA (b + 10) 36 && tyA (b + 12) 72))))))
theorem cs_dt {b : Nat} (hd : dt_m n K1 M1 K2 M2) (hn : 245 ≤ n) (hK : ∀ k, 1 ≤ k → k ≤ n → K1 k = K2 k) (hF : gm_Fx p2_O n2 K2 R2 M2) (hb : blk b = true) (hc : cs M1 b = N) (hi : irN N) : cs M2 b = N := by
  simp only [blk, Bool.and_eq_true] at hb
  obtain ⟨hf, ⟨s1, s3, s5, s7, s9, s11⟩, a2, a4, a6, a8, a10, a12⟩ := hb
  have ff : ∀ j : Nat, j < 8 → M2 b (j : Int) = gm_w (M1 b (j : Int)) := fun j hj => dw_f hd hn hK hF (List.all_eq_true.mp hf j (List.mem_range.mpr hj))
  have key : ∀ i, (0 ≤ i ∧ i < 395 ∧ ¬ i = 8) → M2 (b + (pl i).1) (pl i).2 = gm_w (M1 (b + (pl i).1) (pl i).2) := fun i h => by
    rcases pl_cases h with h | h | h | h | h | h | h | h | h | h | h | h | h | h | h | h | h | h | h | h
    · subst h; exact ff 0 (by decide)
    · subst h; exact ff 1 (by decide)
    · subst h; exact dw_f hd hn hK hF s1
    · subst h; exact dw_f hd hn hK hF s5
    · subst h; exact dw_f hd hn hK hF s7
    · subst h; exact dw_f hd hn hK hF s3
    · subst h; exact dw_f hd hn hK hF s9
    · subst h; exact ff 7 (by decide)
    · subst h; exact ff 6 (by decide)
    · subst h; exact ff 2 (by decide)
    · subst h; exact ff 3 (by decide)
    · subst h; exact ff 4 (by decide)
    · subst h; exact ff 5 (by decide)
    · subst h; exact dw_f hd hn hK hF s11
    · rw [pl_2 h]; exact dw_a hd hn hK hF a2 (by show 0 ≤ i - 15; omega) (by show i - 15 < 56; omega)
    · rw [pl_4 h]; exact dw_a hd hn hK hF a4 (by show 0 ≤ i - 71; omega) (by show i - 71 < 24; omega)
    · rw [pl_6 h]; exact dw_a hd hn hK hF a6 (by show 0 ≤ i - 95; omega) (by show i - 95 < 24; omega)
    · rw [pl_8 h]; exact dw_a hd hn hK hF a8 (by show 0 ≤ i - 119; omega) (by show i - 119 < 168; omega)
    · rw [pl_10 h]; exact dw_a hd hn hK hF a10 (by show 0 ≤ i - 287; omega) (by show i - 287 < 36; omega)
    · rw [pl_12 h]; exact dw_a hd hn hK hF a12 (by show 0 ≤ i - 323; omega) (by show i - 323 < 72; omega)
  funext i
  by_cases h : 0 ≤ i ∧ i < 395 ∧ ¬ i = 8
  · rw [cs_pl h, key i h, ← cs_pl (M := M1) (b := b) h, hc]
    exact dw_i (hi i)
  · rw [← hc, cs_no h, cs_no h]
theorem blk_h : (List.range 12).all (fun p => blk (44 + 13 * p)) = true := by decide +kernel
theorem blk_3 : blk 3 = true ∧ blk 29 = true := by decide +kernel
theorem dt_c1 : tyF 1 0 1 = true ∧ tyF 1 0 2 = true ∧ tyF 1 0 6 = true ∧ tyF 1 0 15 = true := by decide +kernel
theorem dt_c2 : tyF 42 3 1 = true ∧ tyF 42 3 2 = true ∧ tyF 200 4 6 = true ∧ tyF 220 2 3 = true := by decide +kernel
theorem dt_c3 : tyA 2 400 = true ∧ tyA 201 300 = true ∧ tyA 202 594 = true ∧ tyA 203 300 = true ∧ tyA 221 48 = true := by decide +kernel
theorem dt_c4 : p2_O.1 205 = some (2, 14850) := by decide +kernel
theorem fld_cg {x y s : Int} (h : Int64.ofInt x = Int64.ofInt y) : fld x s = fld y s := by unfold fld ll_ushr; rw [h]
theorem outr_w {h : Int → Int} {φ : Int → Int → Int → Int} {l o d : Int} (hN : NR N) (hφ : ∀ l r y, 0 ≤ φ l r y ∧ φ l r y ≤ 30) (hh : ∀ y, 0 ≤ y → y < 300 → 0 ≤ h y ∧ h y ≤ 9) (hl : 0 ≤ l ∧ l < N 4) (ho : OUTR N h φ l o d) : OUTR N h φ l (gm_w o) (gm_w d) := by
  obtain ⟨b0, b1, b2, b3, b4, -⟩ := hN.2.2.2.2 l hl.1 hl.2
  have b9 := hN.1.2.2.2.2.2
  have b1' := hN.1.2.1
  have ob := OUTR_b ho b3.1
  have e : gm_w o = o := gm_w_id (by omega) (by omega)
  rw [e]
  rcases ho with ho | ⟨j, h1, h2, h3, h4, h5⟩
  · exact Or.inl ho
  · refine Or.inr ⟨j, h1, h2, h3, h4, ?_⟩
    have := (nwy_b (lane := (N (119 + (l * 7 + 2)))) (rock := (if (N (119 + (l * 7 + 0))) = -1 then 1 else 0)) (wo := -1) hN hφ hh b3.1 (r0 := (N (119 + (l * 7 + 4)))) ⟨b4.1, by omega⟩ j (by omega)).2
    rw [h5]
    exact gm_w_id (by omega) (by omega)
theorem clv_dt (hd : dt_m n K1 M1 K2 M2) (hn : 245 ≤ n) (hK : ∀ k, 1 ≤ k → k ≤ n → K1 k = K2 k) (hF : gm_Fx p2_O n2 K2 R2 M2) (hR : RA N lw A im t w f) (hV : CLV N lw A im t w f M1) : CLV N lw A im t w f M2 := by
  obtain ⟨hG, hL, hA, hI, ht9, hw9, hf9⟩ := hR
  obtain ⟨⟨hT, hH⟩, h15, hk, hi, ht, hf⟩ := hV
  have e1 : ∀ j : Nat, (j = 1 ∨ j = 2 ∨ j = 6 ∨ j = 15) → M2 1 (j : Int) = gm_w (M1 1 (j : Int)) := fun j hj => by
    rcases hj with rfl | rfl | rfl | rfl
    · exact dw_f hd hn hK hF dt_c1.1
    · exact dw_f hd hn hK hF dt_c1.2.1
    · exact dw_f hd hn hK hF dt_c1.2.2.1
    · exact dw_f hd hn hK hF dt_c1.2.2.2
  have e15 : M2 1 15 = gm_w (M1 1 15) := e1 15 (by decide)
  have e6 : M2 1 6 = gm_w (M1 1 6) := e1 6 (by decide)
  have e11 : M2 1 1 = gm_w (M1 1 1) := e1 1 (by decide)
  have e12 : M2 1 2 = gm_w (M1 1 2) := e1 2 (by decide)
  have e200 : M2 200 6 = gm_w (M1 200 6) := dw_f hd hn hK hF dt_c2.2.2.1
  have e421 : M2 42 1 = gm_w (M1 42 1) := dw_f hd hn hK hF dt_c2.1
  have e422 : M2 42 2 = gm_w (M1 42 2) := dw_f hd hn hK hF dt_c2.2.1
  have e220 : M2 220 3 = gm_w (M1 220 3) := dw_f hd hn hK hF dt_c2.2.2.2
  refine ⟨⟨⟨cstF hF, cs_dt hd hn hK hF blk_3.1 hT.2.1 hG.2, fun y y0 y1 => ?_, fun l r l0 l1 r0 r1 => ?_⟩, ?_⟩, ?_, fun hlw => ?_, ?_, ⟨?_, ?_⟩, fun j j0 j1 => ?_⟩
  · obtain ⟨b1, b2, b3, b4⟩ := hT.2.2.1 y y0 y1
    rw [dw_a hd hn hK hF dt_c3.2.1 y0 (by omega), dw_a hd hn hK hF dt_c3.2.2.2.1 y0 (by omega), b1, dw_i b3, dw_i ⟨by omega, by omega⟩]
    exact ⟨rfl, b2, b3, b4⟩
  · have := spd_b hG.1.1 hG.1.2.1 (r := r) l0
    rw [dw_a hd hn hK hF dt_c3.2.2.1 (by omega) (by omega), hT.2.2.2 l r l0 l1 r0 r1]
    exact dw_i ⟨by omega, by omega⟩
  · obtain ⟨nx, h0, h1, h2, h3, h4⟩ := hH
    refine ⟨nx, h0, by rw [e421, h1]; exact dw_i ⟨by omega, by omega⟩, by rw [e422, h2]; exact dw_i ⟨by omega, by omega⟩, h3, fun i N1 hi9 => ?_⟩
    have hp : ((nx + 11 - (i : Int)) % 12).toNat < 12 := by omega
    exact cs_dt hd hn hK hF (List.all_eq_true.mp blk_h _ (List.mem_range.mpr hp)) (h4 i N1 hi9) (hA N1 (List.mem_of_getElem? hi9)).1.2
  · rw [e15]
    rcases h15 with h | ⟨h, he⟩
    · exact Or.inl (by rw [h]; decide)
    · refine Or.inr ⟨by rw [h]; decide, ?_⟩
      have h4 := hG.1.1.2.1.2.2.2.1
      refine ⟨by rw [e220, he.1]; exact dw_i ⟨by omega, by omega⟩, fun l l0 l1 => ?_⟩
      rw [dw_a hd hn hK hF dt_c3.2.2.2.2 (by omega) (by omega), dw_a hd hn hK hF dt_c3.2.2.2.2 (by omega) (by omega)]
      exact outr_w hG.1.1 aphi_b (fun _ _ _ => hts_b) ⟨l0, l1⟩ (he.2 l l0 l1)
  · have hk := hk hlw
    have e9 : M2 200 6 = M1 200 6 := by rw [e200]; exact dw_i ⟨by have := hk.1.1; omega, by have := hk.1.2; omega⟩
    refine ⟨by rw [e9]; exact hk.1, fun l r y l0 l1 r0 r1 y0 y1 => ?_⟩
    have b0 := hG.1.1.1.1
    have b1 := hG.1.1.1.2.1
    have ek : kv M2 ((l * 99 + r) * 300 + y) = kv M1 ((l * 99 + r) * 300 + y) := by
      unfold kv
      rw [e9]
      have k205 := hF.1 205 _ dt_c4
      have ee := hK 205 (by decide) (by omega)
      have hj : 0 ≤ ((l * 99 + r) * 300 + y) / 12 ∧ ((l * 99 + r) * 300 + y) / 12 < 14850 := by omega
      obtain ⟨u, hu⟩ : ∃ u : Nat, ((l * 99 + r) * 300 + y) / 12 = (u : Int) := ⟨(((l * 99 + r) * 300 + y) / 12).toNat, by omega⟩
      rw [hu]
      rw [fld_cg ((hd 205 (by decide) (by omega) ee).2.1 (by rw [ee, k205.2.2]) u (by rw [ee, k205.2.2]; show u < 14850; omega)).symm]
    rw [ek]
    exact hk.2 l r y l0 l1 r0 r1 y0 y1
  · rw [e6]
    rcases hi with ⟨h, hi⟩ | ⟨h, NI, lI, hi, hc⟩
    · exact Or.inl ⟨by rw [h]; decide, hi⟩
    · exact Or.inr ⟨by rw [h]; decide, NI, lI, hi, cs_dt hd hn hK hF blk_3.2 hc (hI NI lI hi).1.2⟩
  · rw [e11, ht.1]
    exact dw_i ⟨by omega, by omega⟩
  · rw [e12, ht.2]
    exact dw_i ⟨by omega, by omega⟩
  · rw [dw_a hd hn hK hF dt_c3.1 j0 (by omega), hf j j0 j1]
    have := hf9 j j0 j1
    exact dw_i ⟨by omega, by omega⟩
end DT12
end
/-! 7c13.dr -/
section
/-! ONE HEAP TOLD TWICE: the reference. -/
theorem pwf_b {p : Int × Int} (h : pwf p) : (0 ≤ p.1 ∧ p.1 ≤ 16) ∧ gm_ir p.2 := by
  rcases h with ⟨⟨h1, h2⟩, h3⟩ | ⟨h1, h2, h3⟩
  · exact ⟨⟨h1, by omega⟩, ⟨by omega, by omega⟩⟩
  · exact ⟨⟨by omega, by omega⟩, ⟨by omega, by omega⟩⟩
theorem rps_b {c : Int × Int} : ∀ ps : List (Int × Int), (∀ p ∈ ps, pwf p) → c ∈ rps ps → (0 ≤ c.1 ∧ c.1 ≤ 16) ∧ gm_ir c.2 := by
  intro ps
  induction ps with
  | nil => intro _ hm; cases hm
  | cons q qs ih =>
    intro hp hm
    have hm : c ∈ q :: (11, 0) :: rps qs := hm
    rcases List.mem_cons.mp hm with rfl | hm
    · exact pwf_b (hp _ List.mem_cons_self)
    · rcases List.mem_cons.mp hm with rfl | hm
      · exact ⟨⟨by decide, by decide⟩, ⟨by decide, by decide⟩⟩
      · exact ih (fun p hp2 => hp p (List.mem_cons_of_mem _ hp2)) hm
theorem rpt_b {c : Int × Int} {ps : List (Int × Int)} (hp : ∀ p ∈ ps, pwf p) (hm : c ∈ rpt ps) : (0 ≤ c.1 ∧ c.1 ≤ 16) ∧ gm_ir c.2 := by
  cases ps with
  | nil => cases hm
  | cons q qs =>
    have hm : c ∈ q :: rps qs := hm
    rcases List.mem_cons.mp hm with rfl | hm
    · exact pwf_b (hp _ List.mem_cons_self)
    · exact rps_b qs (fun p hp2 => hp p (List.mem_cons_of_mem _ hp2)) hm
/-- the steps of a right law -/
theorem srds_b {B : Nat} : ∀ (ls : List lst) (h k : Nat), shg B ls h k → ∀ c ∈ srds ls, (0 ≤ c.1 ∧ c.1 ≤ 16) ∧ gm_ir c.2 := by
  intro ls
  induction ls with
  | nil => intro h k _ c hc; cases hc
  | cons s r ih =>
    intro h k hs c hc
    have hc : c ∈ srd s ++ srds r := hc
    rcases List.mem_append.mp hc with hc | hc
    · unfold srd at hc
      by_cases h0 : s.1 = 0
      · rw [if_pos h0] at hc
        have hw : cwf s.2.2.1 s.2.2.2 := by
          rcases hs with ⟨h1, -⟩ | ⟨h1, -⟩ | ⟨h1, -⟩
          · rcases h1 with ⟨-, hw⟩ | h1 | h1
            · exact hw
            · omega
            · omega
          · omega
          · omega
        rcases List.mem_append.mp hc with hc | hc
        · exact rpt_b hw.1 hc
        · rcases List.mem_append.mp hc with hc | hc
          · exact rpt_b hw.2.1 hc
          · rw [List.mem_singleton.mp hc]
            refine ⟨?_, (show (-2147483648 : Int) ≤ 0 from by decide), (show (0 : Int) < 2147483648 from by decide)⟩
            show 0 ≤ (if s.2.1 = true then (13 : Int) else 12) ∧ (if s.2.1 = true then (13 : Int) else 12) ≤ 16
            split <;> decide
      · rw [if_neg h0] at hc
        rw [List.mem_singleton.mp hc]
        refine ⟨?_, (show (-2147483648 : Int) ≤ 0 from by decide), (show (0 : Int) < 2147483648 from by decide)⟩
        show 0 ≤ s.1 ∧ s.1 ≤ 16
        rcases hs with ⟨h1, -⟩ | ⟨h1, -⟩ | ⟨h1, -⟩
        · rcases h1 with ⟨h1, -⟩ | h1 | h1 <;> omega
        · omega
        · omega
    · rcases hs with ⟨-, -, h2⟩ | ⟨-, -, h2⟩ | ⟨-, -, h2⟩
      · exact ih _ _ h2 c hc
      · exact ih _ _ h2 c hc
      · exact ih _ _ h2 c hc
section DR13
variable {n n2 : Nat} {K1 K2 : gm_K} {R2 : gm_R} {M1 M2 : gm_M} {N : Int → Int} {lw : Option (List lln)} {A : List (Int → Int)} {im : Option ((Int → Int) × Option (List lln))} {t w : Int} {f : Int → Int}
/-- a law told by numbers that go round -/
theorem lawr_w {W W2 : Int → Int} (h : LAWR lw W) (hT : jT fun j => W2 (395 + j)) (e : ∀ j, 0 ≤ j → j < 1244 → W2 j = gm_w (W j)) : LAWR lw W2 := by
  refine ⟨fun hn => by rw [e 8 (by decide) (by decide), h.1 hn]; decide, fun ls hs => ?_⟩
  obtain ⟨⟨a1, a2⟩, a3, a4, a5⟩ := h.2 ls hs
  have h12 := a3.1
  have e5 : W2 395 = (ls.length : Int) := by
    rw [e 395 (by decide) (by decide), a2]
    exact gm_w_id (by omega) (by omega)
  have hb : ∀ k : Nat, k < ls.length → 0 ≤ W2 (396 + 4 * (k : Int) + 2) := fun k hk => by
    have ht := (hT (k : Int) (by omega) (by omega) (by show (k : Int) < W2 (395 + 0); rw [show (395 : Int) + 0 = 395 by decide, e5]; omega)).1.1
    have ht : 0 ≤ W2 (395 + (3 + 4 * (k : Int))) := ht
    rw [show 395 + (3 + 4 * (k : Int)) = 396 + 4 * (k : Int) + 2 by omega] at ht
    exact ht
  refine ⟨⟨by rw [e 8 (by decide) (by decide), a1]; decide, e5⟩, a3, fun k x hx => ?_, fun k x hx => ?_⟩
  · have hk := (List.getElem?_eq_some_iff.mp hx).1
    obtain ⟨b0, b1, b2, b3⟩ := a4 k x hx
    obtain ⟨c0, c1⟩ := a5 k x hx
    obtain ⟨w0, w1, w2⟩ := a3.2 k x hx
    rw [e (396 + 4 * (k : Int)) (by omega) (by omega), e (396 + 4 * (k : Int) + 1) (by omega) (by omega), e (396 + 4 * (k : Int) + 2) (by omega) (by omega), e (396 + 4 * (k : Int) + 3) (by omega) (by omega), b0, b1]
    refine ⟨gm_w_id (by omega) (by omega), ?_, fun hn => by rw [b2 hn], fun t ht => ?_⟩
    · split
      · decide
      · exact gm_w_id (by omega) (by omega)
    · obtain ⟨d1, d2⟩ := b3 t ht
      have hsh := w2 t ht
      rw [d1]
      cases hl : srds t with
      | nil => exact ⟨by rw [show ((([] : List (Int × Int)).length : Nat) : Int) = 0 by rfl, Int.add_zero, Int.add_zero], fun j v hv => by simp at hv⟩
      | cons q qs =>
        have hlen : (srds t).length = qs.length + 1 := by rw [hl]; rfl
        have hz := c1 t ht (qs.length) ((srds t)[qs.length]'(by omega)) (List.getElem?_eq_getElem (by omega))
        have eb : gm_w (W (396 + 4 * (k : Int) + 2)) = W (396 + 4 * (k : Int) + 2) := gm_w_id (by omega) (by omega)
        rw [eb, ← hl, hlen]
        refine ⟨gm_w_id (by omega) (by omega), fun j v hv => ?_⟩
        have hj := c1 t ht j v hv
        obtain ⟨g1, g2⟩ := d2 j v hv
        obtain ⟨v1, v2⟩ := srds_b t 0 1 hsh v (List.mem_of_getElem? hv)
        rw [e _ (by omega) (by omega), e _ (by omega) (by omega), g1, g2]
        exact ⟨gm_w_id (by omega) (by omega), dw_i v2⟩
  · have hk := (List.getElem?_eq_some_iff.mp hx).1
    obtain ⟨c0, c1⟩ := a5 k x hx
    refine ⟨hb k hk, fun t ht j v hv => ?_⟩
    have hj := c1 t ht j v hv
    rw [e (396 + 4 * (k : Int) + 2) (by omega) (by omega), gm_w_id (by omega) (by omega)]
    exact hj
theorem dr_c1 : tyA 227 2093 = true ∧ tyA 228 1244 = true ∧ tyA 231 400 = true ∧ tyA 234 300 = true ∧ tyA 235 29700 = true := by decide +kernel
theorem dr_c2 : tyF 226 11 5 = true ∧ tyF 226 11 6 = true ∧ tyF 226 11 8 = true ∧ tyF 226 11 13 = true ∧ tyF 226 11 26 = true := by decide +kernel
theorem dr_c3 : p2_O.1 230 = some (0, 4740) := by decide +kernel
set_option maxRecDepth 100000 in
theorem dr_c4 : (List.range 395).all (fun j => p2_ty.any fun r => decide (r.1 ≤ (j : Int)) && decide ((j : Int) ≤ r.2.1)) = true := by decide +kernel
theorem ws_w {W W2 : Int → Int} (h : ws W = N) (hi : irN N) (e : ∀ j, 0 ≤ j → j < 395 → W2 j = gm_w (W j)) : ws W2 = N := by
  funext j
  by_cases hj : 0 ≤ j ∧ j < 395 ∧ ¬ j = 8
  · have h1 : ws W j = N j := by rw [h]
    unfold ws at h1 ⊢
    rw [if_pos hj] at h1 ⊢
    rw [e j hj.1 hj.2.1, h1]
    exact dw_i (hi j)
  · rw [← h]
    unfold ws
    rw [if_neg hj, if_neg hj]
theorem rfv_dt (hd : dt_m n K1 M1 K2 M2) (hn : 245 ≤ n) (hK : ∀ k, 1 ≤ k → k ≤ n → K1 k = K2 k) (hF : gm_Fx p2_O n2 K2 R2 M2) (hR : RA N lw A im t w f) (hV : RFV N lw A im t w f M1) : RFV N lw A im t w f M2 := by
  obtain ⟨hG, hL, hA, hI, ht9, hw9, hf9⟩ := hR
  obtain ⟨⟨hT, hLR, hH⟩, hk, hi, ht, hf⟩ := hV
  have hJ : jP p2_ty (M2 227) (M2 228) (M2 229) (M2 230) := hF.2.2.2.2
  have e7 : ∀ j, 0 ≤ j → j < 1244 → M2 227 j = gm_w (M1 227 j) := fun j j0 j1 => dw_a hd hn hK hF dr_c1.1 j0 (by omega)
  have e8 : ∀ j, 0 ≤ j → j < 1244 → M2 228 j = gm_w (M1 228 j) := fun j j0 j1 => dw_a hd hn hK hF dr_c1.2.1 j0 (by omega)
  have f5 : M2 226 5 = gm_w (M1 226 5) := dw_f hd hn hK hF dr_c2.1
  have f6 : M2 226 6 = gm_w (M1 226 6) := dw_f hd hn hK hF dr_c2.2.1
  have f8 : M2 226 8 = gm_w (M1 226 8) := dw_f hd hn hK hF dr_c2.2.2.1
  have f13 : M2 226 13 = gm_w (M1 226 13) := dw_f hd hn hK hF dr_c2.2.2.2.1
  have f26 : M2 226 26 = gm_w (M1 226 26) := dw_f hd hn hK hF dr_c2.2.2.2.2
  have l8 : M1 227 8 = 0 ∨ M1 227 8 = 1 := by
    cases hlw : lw with
    | none => exact Or.inl (hLR.1 hlw)
    | some ls => exact Or.inr (hLR.2 ls hlw).1.1
  have g8 : M2 227 8 = M1 227 8 := by
    rw [e7 8 (by decide) (by decide)]
    rcases l8 with h | h <;> rw [h] <;> decide
  refine ⟨⟨⟨ws_w hT.1 hG.2 (fun j j0 j1 => e7 j j0 (by omega)), fun y y0 y1 => ?_⟩, lawr_w hLR hJ.2.2.1 e7, ?_⟩, ?_, ?_, ⟨?_, ?_⟩, fun j j0 j1 => ?_⟩
  · obtain ⟨b1, b2⟩ := hT.2 y y0 y1
    rw [dw_a hd hn hK hF dr_c1.2.2.2.1 y0 (by omega), b1]
    exact ⟨dw_i ⟨by omega, by omega⟩, b2⟩
  · obtain ⟨⟨h1, h2⟩, h3⟩ := hH
    have e30 : ∀ (y j : Int), 0 ≤ y → y < 12 → 0 ≤ j → j < 395 → M2 230 (395 * y + j) = gm_w (M1 230 (395 * y + j)) := fun y j y0 y1 j0 j1 => by
      obtain ⟨u, rfl⟩ : ∃ u : Nat, j = (u : Int) := ⟨j.toNat, by omega⟩
      obtain ⟨r, hr, hr2⟩ := List.any_eq_true.mp (List.all_eq_true.mp dr_c4 u (List.mem_range.mpr (by omega)))
      simp only [Bool.and_eq_true, decide_eq_true_eq] at hr2
      have hir := (hJ.2.1 y y0 y1 r hr (u : Int) hr2.1 hr2.2 j0 j1).1
      obtain ⟨q, hq⟩ : ∃ q : Nat, 395 * y + (u : Int) = (q : Int) := ⟨(395 * y + (u : Int)).toNat, by omega⟩
      have k230 := hF.1 230 _ dr_c3
      have ee := hK 230 (by decide) (by omega)
      rw [hq] at hir ⊢
      exact dw_x ((hd 230 (by decide) (by omega) ee).1 (by rw [ee, k230.2.2]; exact Or.inl rfl) q (by rw [ee, k230.2.2]; show q < 4740; omega)) hir
    refine ⟨⟨by rw [f6, h1]; exact gm_w_id (by omega) (by omega), h2⟩, fun i N1 hi9 => ?_⟩
    obtain ⟨c1, c2⟩ := h3 i N1 hi9
    have hil := (List.getElem?_eq_some_iff.mp hi9).1
    refine ⟨ws_w c1 (hA N1 (List.mem_of_getElem? hi9)).1.2 (fun j j0 j1 => e30 _ j (by omega) (by omega) j0 j1), ?_⟩
    rw [e30 _ 8 (by omega) (by omega) (by decide) (by decide), c2, g8]
    rcases l8 with h | h <;> rw [h] <;> decide
  · have c26 : M2 226 26 = M1 226 26 := by rw [f26]; exact dw_i ⟨by have := hk.1.1; omega, by have := hk.1.2; omega⟩
    have c35 : ∀ j, 0 ≤ j → j < 29700 → M2 235 j = M1 235 j := fun j j0 j1 => by
      have := hk.2.1 j j0 j1
      rw [dw_a hd hn hK hF dr_c1.2.2.2.2 j0 (by omega)]
      exact dw_i ⟨by omega, by omega⟩
    have b1 := hG.1.1.1.2.1
    refine ⟨by rw [c26]; exact hk.1, fun j j0 j1 => by rw [c35 j j0 j1]; exact hk.2.1 j j0 j1, fun r y l0 l1 r0 r1 y0 y1 => ?_⟩
    rw [c26] at l0 l1 ⊢
    rw [c35 _ (by omega) (by omega)]
    exact hk.2.2 r y l0 l1 r0 r1 y0 y1
  · rw [f5]
    rcases hi with ⟨h, hi⟩ | ⟨h, NI, lI, hi, hc, hl⟩
    · exact Or.inl ⟨by rw [h]; decide, hi⟩
    · exact Or.inr ⟨by rw [h]; decide, NI, lI, hi, ws_w hc (hI NI lI hi).1.2 (fun j j0 j1 => e8 j j0 (by omega)), lawr_w hl hJ.2.2.2.1 e8⟩
  · rw [f8, ht.1]
    exact dw_i ⟨by omega, by omega⟩
  · rw [f13, ht.2]
    exact dw_i ⟨by omega, by omega⟩
  · rw [dw_a hd hn hK hF dr_c1.2.2.1 j0 (by omega), hf j j0 j1]
    have := hf9 j j0 j1
    exact dw_i ⟨by omega, by omega⟩
end DR13
end
/-! 7c14.hl -/
section
/-! ONE HEAP TOLD TWICE: the law's own methods, by what they call. -/
section HL14
variable {X : Int → Int} {LX d bc bs n : Nat} {K : gm_K} {R : gm_R} {M : gm_M} {Q : gm_Q}
theorem hl_70_0 : gm_hit (gm_ow 70) 3 0 false (gm_hh 70) = some (some 11) := by decide +kernel
theorem hl_70_1 : gm_hit (gm_ow 70) 3 1 false (gm_hh 70) = some (some 14) := by decide +kernel
theorem hl_70 (k1 : (1 ≤ 1 ∧ 1 ≤ n) ∧ (K 1).1 = 0 + 4) (h : gm_Wp X LX d bc bs 71 0 (gm_ent 71 [gm_vr 1]) [] n K R M (hQ [(0, 1), (1, 2)] Q)) : gm_Wp X LX (d + 1) bc bs 70 0 (gm_ent 70 [gm_vr 1, gm_vr 245]) [] n K R M Q := by
  refine gm_sz (gm_p_load (pc := 0) (i := .aload_n 1) (sr := 2) (j := 1) (by decide +kernel) rfl rfl rfl) ?_
  refine gm_sz (gm_p_const (pc := 1) (i := .iconst 0) (v := gm_vi 0) (by decide +kernel) (by decide +kernel)) ?_
  refine gm_sz (gm_p_load (pc := 2) (i := .aload_n 0) (sr := 2) (j := 0) (by decide +kernel) rfl rfl rfl) ?_
  refine gm_c_virtH (k := 1) (ci := 0) (mj := 71) (ix := 7) (pc := 3) (as := []) (st := [gm_vi 0, gm_vr 245]) (d' := d) (bc' := bc) (bs' := bs) (by decide +kernel) (by decide +kernel) (by decide +kernel) k1.1 k1.2 (by decide) (by decide +kernel) (show 0 = gm_na 71 by decide +kernel) fw_c0 (show 0 + 1 ≤ gm_ml 71 by decide +kernel) (Nat.le_of_ble_eq_true rfl) (Nat.le_refl _) (Nat.le_refl _) (Nat.le_refl _) ?_
  refine gm_Wp_mono (fun o n1 K1 R1 M1 hq => ?_) h
  obtain ⟨⟨hn, hK⟩, hq⟩ := hq
  rcases hq with ⟨v, rfl, hq⟩ | ⟨i, hi, rfl, hq⟩
  · show gm_Wp X LX (d + 1) _ _ 70 6 (gm_ent 70 [gm_vr 1, gm_vr 245]) [gm_vi v, gm_vi 0, gm_vr 245] n1 K1 R1 M1 Q
    refine gm_sz (gm_p_i2l (pc := 6) (by decide +kernel)) ?_
    refine gm_sz (gm_p_last (pc := 7) (k := 245) (by decide +kernel) ⟨by decide, hn⟩ (by rw [hK]) (by rw [hK]; decide)) ?_
    refine gm_sz (gm_p_goto (pc := 8) (off := 9) (by decide +kernel) (by decide)) ?_
    refine gm_sz (gm_p_const (pc := 17) (i := .iconst 0) (v := gm_vi 0) (by decide +kernel) (by decide +kernel)) ?_
    exact gm_r_int (pc := 18) (by decide +kernel) (Or.inl (by decide +kernel)) hq
  · simp only [List.mem_cons, List.not_mem_nil, or_false] at hi
    rcases hi with rfl | rfl
    · show (match gm_hit (gm_ow 70) 3 0 false (gm_hh 70) with
      | some (some h) => gm_Wp X LX (d + 1) _ _ 70 h (gm_ent 70 [gm_vr 1, gm_vr 245]) [gm_vo 4000] n1 K1 R1 M1 Q
      | some none => Q (.inr 0) n1 K1 R1 M1
      | none => False)
      rw [hl_70_0]
      show gm_Wp X LX (d + 1) _ _ 70 11 (gm_ent 70 [gm_vr 1, gm_vr 245]) [gm_vo 4000] n1 K1 R1 M1 Q
      refine gm_sz (gm_p_stor (pc := 11) (i := .astore_n 2) (sr := 2) (j := 2) (by decide +kernel) rfl (show 3 ≤ _ from Nat.le_of_ble_eq_true rfl) rfl) ?_
      refine gm_sz (gm_p_const (pc := 12) (i := .iconst 1) (v := gm_vi 1) (by decide +kernel) (by decide +kernel)) ?_
      exact gm_r_int (pc := 13) (by decide +kernel) (Or.inl (by decide +kernel)) hq
    · show (match gm_hit (gm_ow 70) 3 1 false (gm_hh 70) with
      | some (some h) => gm_Wp X LX (d + 1) _ _ 70 h (gm_ent 70 [gm_vr 1, gm_vr 245]) [gm_vo 4000] n1 K1 R1 M1 Q
      | some none => Q (.inr 1) n1 K1 R1 M1
      | none => False)
      rw [hl_70_1]
      show gm_Wp X LX (d + 1) _ _ 70 14 (gm_ent 70 [gm_vr 1, gm_vr 245]) [gm_vo 4000] n1 K1 R1 M1 Q
      refine gm_sz (gm_p_stor (pc := 14) (i := .astore_n 2) (sr := 2) (j := 2) (by decide +kernel) rfl (show 3 ≤ _ from Nat.le_of_ble_eq_true rfl) rfl) ?_
      refine gm_sz (gm_p_const (pc := 15) (i := .iconst 2) (v := gm_vi 2) (by decide +kernel) (by decide +kernel)) ?_
      exact gm_r_int (pc := 16) (by decide +kernel) (Or.inl (by decide +kernel)) hq
theorem hl_122_0 : gm_hit (gm_ow 122) 3 0 false (gm_hh 122) = some (some 11) := by decide +kernel
theorem hl_122 (k1 : (1 ≤ 1 ∧ 1 ≤ n) ∧ (K 1).1 = 0 + 4) (h : gm_Wp X LX d bc bs 123 0 (gm_ent 123 [gm_vr 1]) [] n K R M (hQ [(0, 1)] Q)) : gm_Wp X LX (d + 1) bc bs 122 0 (gm_ent 122 [gm_vr 1, gm_vr 245]) [] n K R M Q := by
  refine gm_sz (gm_p_load (pc := 0) (i := .aload_n 1) (sr := 2) (j := 1) (by decide +kernel) rfl rfl rfl) ?_
  refine gm_sz (gm_p_const (pc := 1) (i := .iconst 0) (v := gm_vi 0) (by decide +kernel) (by decide +kernel)) ?_
  refine gm_sz (gm_p_load (pc := 2) (i := .aload_n 0) (sr := 2) (j := 0) (by decide +kernel) rfl rfl rfl) ?_
  refine gm_c_virtH (k := 1) (ci := 0) (mj := 123) (ix := 17) (pc := 3) (as := []) (st := [gm_vi 0, gm_vr 245]) (d' := d) (bc' := bc) (bs' := bs) (by decide +kernel) (by decide +kernel) (by decide +kernel) k1.1 k1.2 (by decide) (by decide +kernel) (show 0 = gm_na 123 by decide +kernel) fw_c0 (show 0 + 1 ≤ gm_ml 123 by decide +kernel) (Nat.le_of_ble_eq_true rfl) (Nat.le_refl _) (Nat.le_refl _) (Nat.le_refl _) ?_
  refine gm_Wp_mono (fun o n1 K1 R1 M1 hq => ?_) h
  obtain ⟨⟨hn, hK⟩, hq⟩ := hq
  rcases hq with ⟨v, rfl, hq⟩ | ⟨i, hi, rfl, hq⟩
  · show gm_Wp X LX (d + 1) _ _ 122 6 (gm_ent 122 [gm_vr 1, gm_vr 245]) [gm_vi v, gm_vi 0, gm_vr 245] n1 K1 R1 M1 Q
    refine gm_sz (gm_p_i2l (pc := 6) (by decide +kernel)) ?_
    refine gm_sz (gm_p_last (pc := 7) (k := 245) (by decide +kernel) ⟨by decide, hn⟩ (by rw [hK]) (by rw [hK]; decide)) ?_
    refine gm_sz (gm_p_goto (pc := 8) (off := 6) (by decide +kernel) (by decide)) ?_
    refine gm_sz (gm_p_const (pc := 14) (i := .iconst 0) (v := gm_vi 0) (by decide +kernel) (by decide +kernel)) ?_
    exact gm_r_int (pc := 15) (by decide +kernel) (Or.inl (by decide +kernel)) hq
  · simp only [List.mem_cons, List.not_mem_nil, or_false] at hi
    rcases hi with rfl
    · show (match gm_hit (gm_ow 122) 3 0 false (gm_hh 122) with
      | some (some h) => gm_Wp X LX (d + 1) _ _ 122 h (gm_ent 122 [gm_vr 1, gm_vr 245]) [gm_vo 4000] n1 K1 R1 M1 Q
      | some none => Q (.inr 0) n1 K1 R1 M1
      | none => False)
      rw [hl_122_0]
      show gm_Wp X LX (d + 1) _ _ 122 11 (gm_ent 122 [gm_vr 1, gm_vr 245]) [gm_vo 4000] n1 K1 R1 M1 Q
      refine gm_sz (gm_p_stor (pc := 11) (i := .astore_n 2) (sr := 2) (j := 2) (by decide +kernel) rfl (show 3 ≤ _ from Nat.le_of_ble_eq_true rfl) rfl) ?_
      refine gm_sz (gm_p_const (pc := 12) (i := .iconst 1) (v := gm_vi 1) (by decide +kernel) (by decide +kernel)) ?_
      exact gm_r_int (pc := 13) (by decide +kernel) (Or.inl (by decide +kernel)) hq
theorem hl_127_0 : gm_hit (gm_ow 127) 4 0 false (gm_hh 127) = some (some 12) := by decide +kernel
theorem hl_127 {x0 : Int} (k1 : (1 ≤ 1 ∧ 1 ≤ n) ∧ (K 1).1 = 0 + 4) (h : gm_Wp X LX d bc bs 128 0 (gm_ent 128 [gm_vr 1, gm_vi x0]) [] n K R M (hQ [(0, 1)] Q)) : gm_Wp X LX (d + 1) bc bs 127 0 (gm_ent 127 [gm_vr 1, gm_vi x0, gm_vr 245]) [] n K R M Q := by
  refine gm_sz (gm_p_load (pc := 0) (i := .aload_n 2) (sr := 2) (j := 2) (by decide +kernel) rfl rfl rfl) ?_
  refine gm_sz (gm_p_const (pc := 1) (i := .iconst 0) (v := gm_vi 0) (by decide +kernel) (by decide +kernel)) ?_
  refine gm_sz (gm_p_load (pc := 2) (i := .aload_n 0) (sr := 2) (j := 0) (by decide +kernel) rfl rfl rfl) ?_
  refine gm_sz (gm_p_load (pc := 3) (i := .iload_n 1) (sr := 0) (j := 1) (by decide +kernel) rfl rfl rfl) ?_
  refine gm_c_virtH (k := 1) (ci := 0) (mj := 128) (ix := 20) (pc := 4) (as := [gm_vi x0]) (st := [gm_vi 0, gm_vr 245]) (d' := d) (bc' := bc) (bs' := bs) (by decide +kernel) (by decide +kernel) (by decide +kernel) k1.1 k1.2 (by decide) (by decide +kernel) (show 1 = gm_na 128 by decide +kernel) (fw_c1 (by simp [gm_sort])) (show 1 + 1 ≤ gm_ml 128 by decide +kernel) (Nat.le_of_ble_eq_true rfl) (Nat.le_refl _) (Nat.le_refl _) (Nat.le_refl _) ?_
  refine gm_Wp_mono (fun o n1 K1 R1 M1 hq => ?_) h
  obtain ⟨⟨hn, hK⟩, hq⟩ := hq
  rcases hq with ⟨v, rfl, hq⟩ | ⟨i, hi, rfl, hq⟩
  · show gm_Wp X LX (d + 1) _ _ 127 7 (gm_ent 127 [gm_vr 1, gm_vi x0, gm_vr 245]) [gm_vi v, gm_vi 0, gm_vr 245] n1 K1 R1 M1 Q
    refine gm_sz (gm_p_i2l (pc := 7) (by decide +kernel)) ?_
    refine gm_sz (gm_p_last (pc := 8) (k := 245) (by decide +kernel) ⟨by decide, hn⟩ (by rw [hK]) (by rw [hK]; decide)) ?_
    refine gm_sz (gm_p_goto (pc := 9) (off := 6) (by decide +kernel) (by decide)) ?_
    refine gm_sz (gm_p_const (pc := 15) (i := .iconst 0) (v := gm_vi 0) (by decide +kernel) (by decide +kernel)) ?_
    exact gm_r_int (pc := 16) (by decide +kernel) (Or.inl (by decide +kernel)) hq
  · simp only [List.mem_cons, List.not_mem_nil, or_false] at hi
    rcases hi with rfl
    · show (match gm_hit (gm_ow 127) 4 0 false (gm_hh 127) with
      | some (some h) => gm_Wp X LX (d + 1) _ _ 127 h (gm_ent 127 [gm_vr 1, gm_vi x0, gm_vr 245]) [gm_vo 4000] n1 K1 R1 M1 Q
      | some none => Q (.inr 0) n1 K1 R1 M1
      | none => False)
      rw [hl_127_0]
      show gm_Wp X LX (d + 1) _ _ 127 12 (gm_ent 127 [gm_vr 1, gm_vi x0, gm_vr 245]) [gm_vo 4000] n1 K1 R1 M1 Q
      refine gm_sz (gm_p_stor (pc := 12) (i := .astore_n 3) (sr := 2) (j := 3) (by decide +kernel) rfl (show 4 ≤ _ from Nat.le_of_ble_eq_true rfl) rfl) ?_
      refine gm_sz (gm_p_const (pc := 13) (i := .iconst 1) (v := gm_vi 1) (by decide +kernel) (by decide +kernel)) ?_
      exact gm_r_int (pc := 14) (by decide +kernel) (Or.inl (by decide +kernel)) hq
theorem hl_151_3 : gm_hit (gm_ow 151) 5 3 false (gm_hh 151) = some (some 13) := by decide +kernel
theorem hl_151_0 : gm_hit (gm_ow 151) 5 0 false (gm_hh 151) = some (some 17) := by decide +kernel
theorem hl_151_1 : gm_hit (gm_ow 151) 5 1 false (gm_hh 151) = some (some 21) := by decide +kernel
theorem hl_151 {x0 x1 : Int} (k1 : (1 ≤ 1 ∧ 1 ≤ n) ∧ (K 1).1 = 0 + 4) (h : gm_Wp X LX d bc bs 152 0 (gm_ent 152 [gm_vr 1, gm_vi x0, gm_vi x1]) [] n K R M (hQ [(3, 1), (0, 2), (1, 3)] Q)) : gm_Wp X LX (d + 1) bc bs 151 0 (gm_ent 151 [gm_vr 1, gm_vi x0, gm_vi x1, gm_vr 245]) [] n K R M Q := by
  refine gm_sz (gm_p_load (pc := 0) (i := .aload_n 3) (sr := 2) (j := 3) (by decide +kernel) rfl rfl rfl) ?_
  refine gm_sz (gm_p_const (pc := 1) (i := .iconst 0) (v := gm_vi 0) (by decide +kernel) (by decide +kernel)) ?_
  refine gm_sz (gm_p_load (pc := 2) (i := .aload_n 0) (sr := 2) (j := 0) (by decide +kernel) rfl rfl rfl) ?_
  refine gm_sz (gm_p_load (pc := 3) (i := .iload_n 1) (sr := 0) (j := 1) (by decide +kernel) rfl rfl rfl) ?_
  refine gm_sz (gm_p_load (pc := 4) (i := .iload_n 2) (sr := 0) (j := 2) (by decide +kernel) rfl rfl rfl) ?_
  refine gm_c_virtH (k := 1) (ci := 0) (mj := 152) (ix := 48) (pc := 5) (as := [gm_vi x0, gm_vi x1]) (st := [gm_vi 0, gm_vr 245]) (d' := d) (bc' := bc) (bs' := bs) (by decide +kernel) (by decide +kernel) (by decide +kernel) k1.1 k1.2 (by decide) (by decide +kernel) (show 2 = gm_na 152 by decide +kernel) (fun v hv => by simp only [List.mem_cons, List.not_mem_nil, or_false] at hv; rcases hv with rfl | rfl <;> simp [gm_sort]) (show 2 + 1 ≤ gm_ml 152 by decide +kernel) (Nat.le_of_ble_eq_true rfl) (Nat.le_refl _) (Nat.le_refl _) (Nat.le_refl _) ?_
  refine gm_Wp_mono (fun o n1 K1 R1 M1 hq => ?_) h
  obtain ⟨⟨hn, hK⟩, hq⟩ := hq
  rcases hq with ⟨v, rfl, hq⟩ | ⟨i, hi, rfl, hq⟩
  · show gm_Wp X LX (d + 1) _ _ 151 8 (gm_ent 151 [gm_vr 1, gm_vi x0, gm_vi x1, gm_vr 245]) [gm_vi v, gm_vi 0, gm_vr 245] n1 K1 R1 M1 Q
    refine gm_sz (gm_p_i2l (pc := 8) (by decide +kernel)) ?_
    refine gm_sz (gm_p_last (pc := 9) (k := 245) (by decide +kernel) ⟨by decide, hn⟩ (by rw [hK]) (by rw [hK]; decide)) ?_
    refine gm_sz (gm_p_goto (pc := 10) (off := 15) (by decide +kernel) (by decide)) ?_
    refine gm_sz (gm_p_const (pc := 25) (i := .iconst 0) (v := gm_vi 0) (by decide +kernel) (by decide +kernel)) ?_
    exact gm_r_int (pc := 26) (by decide +kernel) (Or.inl (by decide +kernel)) hq
  · simp only [List.mem_cons, List.not_mem_nil, or_false] at hi
    rcases hi with rfl | rfl | rfl
    · show (match gm_hit (gm_ow 151) 5 3 false (gm_hh 151) with
      | some (some h) => gm_Wp X LX (d + 1) _ _ 151 h (gm_ent 151 [gm_vr 1, gm_vi x0, gm_vi x1, gm_vr 245]) [gm_vo 4000] n1 K1 R1 M1 Q
      | some none => Q (.inr 3) n1 K1 R1 M1
      | none => False)
      rw [hl_151_3]
      show gm_Wp X LX (d + 1) _ _ 151 13 (gm_ent 151 [gm_vr 1, gm_vi x0, gm_vi x1, gm_vr 245]) [gm_vo 4000] n1 K1 R1 M1 Q
      refine gm_sz (gm_p_stor (pc := 13) (i := .astore 4) (sr := 2) (j := 4) (by decide +kernel) rfl (show 5 ≤ _ from Nat.le_of_ble_eq_true rfl) rfl) ?_
      refine gm_sz (gm_p_const (pc := 15) (i := .iconst 1) (v := gm_vi 1) (by decide +kernel) (by decide +kernel)) ?_
      exact gm_r_int (pc := 16) (by decide +kernel) (Or.inl (by decide +kernel)) hq
    · show (match gm_hit (gm_ow 151) 5 0 false (gm_hh 151) with
      | some (some h) => gm_Wp X LX (d + 1) _ _ 151 h (gm_ent 151 [gm_vr 1, gm_vi x0, gm_vi x1, gm_vr 245]) [gm_vo 4000] n1 K1 R1 M1 Q
      | some none => Q (.inr 0) n1 K1 R1 M1
      | none => False)
      rw [hl_151_0]
      show gm_Wp X LX (d + 1) _ _ 151 17 (gm_ent 151 [gm_vr 1, gm_vi x0, gm_vi x1, gm_vr 245]) [gm_vo 4000] n1 K1 R1 M1 Q
      refine gm_sz (gm_p_stor (pc := 17) (i := .astore 4) (sr := 2) (j := 4) (by decide +kernel) rfl (show 5 ≤ _ from Nat.le_of_ble_eq_true rfl) rfl) ?_
      refine gm_sz (gm_p_const (pc := 19) (i := .iconst 2) (v := gm_vi 2) (by decide +kernel) (by decide +kernel)) ?_
      exact gm_r_int (pc := 20) (by decide +kernel) (Or.inl (by decide +kernel)) hq
    · show (match gm_hit (gm_ow 151) 5 1 false (gm_hh 151) with
      | some (some h) => gm_Wp X LX (d + 1) _ _ 151 h (gm_ent 151 [gm_vr 1, gm_vi x0, gm_vi x1, gm_vr 245]) [gm_vo 4000] n1 K1 R1 M1 Q
      | some none => Q (.inr 1) n1 K1 R1 M1
      | none => False)
      rw [hl_151_1]
      show gm_Wp X LX (d + 1) _ _ 151 21 (gm_ent 151 [gm_vr 1, gm_vi x0, gm_vi x1, gm_vr 245]) [gm_vo 4000] n1 K1 R1 M1 Q
      refine gm_sz (gm_p_stor (pc := 21) (i := .astore 4) (sr := 2) (j := 4) (by decide +kernel) rfl (show 5 ≤ _ from Nat.le_of_ble_eq_true rfl) rfl) ?_
      refine gm_sz (gm_p_const (pc := 23) (i := .iconst 3) (v := gm_vi 3) (by decide +kernel) (by decide +kernel)) ?_
      exact gm_r_int (pc := 24) (by decide +kernel) (Or.inl (by decide +kernel)) hq
theorem hl_155_3 : gm_hit (gm_ow 155) 5 3 false (gm_hh 155) = some (some 13) := by decide +kernel
theorem hl_155 {x0 x1 : Int} (k1 : (1 ≤ 1 ∧ 1 ≤ n) ∧ (K 1).1 = 0 + 4) (h : gm_Wp X LX d bc bs 156 0 (gm_ent 156 [gm_vr 1, gm_vi x0, gm_vi x1]) [] n K R M (hQ [(3, 1)] Q)) : gm_Wp X LX (d + 1) bc bs 155 0 (gm_ent 155 [gm_vr 1, gm_vi x0, gm_vi x1, gm_vr 245]) [] n K R M Q := by
  refine gm_sz (gm_p_load (pc := 0) (i := .aload_n 3) (sr := 2) (j := 3) (by decide +kernel) rfl rfl rfl) ?_
  refine gm_sz (gm_p_const (pc := 1) (i := .iconst 0) (v := gm_vi 0) (by decide +kernel) (by decide +kernel)) ?_
  refine gm_sz (gm_p_load (pc := 2) (i := .aload_n 0) (sr := 2) (j := 0) (by decide +kernel) rfl rfl rfl) ?_
  refine gm_sz (gm_p_load (pc := 3) (i := .iload_n 1) (sr := 0) (j := 1) (by decide +kernel) rfl rfl rfl) ?_
  refine gm_sz (gm_p_load (pc := 4) (i := .iload_n 2) (sr := 0) (j := 2) (by decide +kernel) rfl rfl rfl) ?_
  refine gm_c_virtH (k := 1) (ci := 0) (mj := 156) (ix := 51) (pc := 5) (as := [gm_vi x0, gm_vi x1]) (st := [gm_vi 0, gm_vr 245]) (d' := d) (bc' := bc) (bs' := bs) (by decide +kernel) (by decide +kernel) (by decide +kernel) k1.1 k1.2 (by decide) (by decide +kernel) (show 2 = gm_na 156 by decide +kernel) (fun v hv => by simp only [List.mem_cons, List.not_mem_nil, or_false] at hv; rcases hv with rfl | rfl <;> simp [gm_sort]) (show 2 + 1 ≤ gm_ml 156 by decide +kernel) (Nat.le_of_ble_eq_true rfl) (Nat.le_refl _) (Nat.le_refl _) (Nat.le_refl _) ?_
  refine gm_Wp_mono (fun o n1 K1 R1 M1 hq => ?_) h
  obtain ⟨⟨hn, hK⟩, hq⟩ := hq
  rcases hq with ⟨v, rfl, hq⟩ | ⟨i, hi, rfl, hq⟩
  · show gm_Wp X LX (d + 1) _ _ 155 8 (gm_ent 155 [gm_vr 1, gm_vi x0, gm_vi x1, gm_vr 245]) [gm_vi v, gm_vi 0, gm_vr 245] n1 K1 R1 M1 Q
    refine gm_sz (gm_p_i2l (pc := 8) (by decide +kernel)) ?_
    refine gm_sz (gm_p_last (pc := 9) (k := 245) (by decide +kernel) ⟨by decide, hn⟩ (by rw [hK]) (by rw [hK]; decide)) ?_
    refine gm_sz (gm_p_goto (pc := 10) (off := 7) (by decide +kernel) (by decide)) ?_
    refine gm_sz (gm_p_const (pc := 17) (i := .iconst 0) (v := gm_vi 0) (by decide +kernel) (by decide +kernel)) ?_
    exact gm_r_int (pc := 18) (by decide +kernel) (Or.inl (by decide +kernel)) hq
  · simp only [List.mem_cons, List.not_mem_nil, or_false] at hi
    rcases hi with rfl
    · show (match gm_hit (gm_ow 155) 5 3 false (gm_hh 155) with
      | some (some h) => gm_Wp X LX (d + 1) _ _ 155 h (gm_ent 155 [gm_vr 1, gm_vi x0, gm_vi x1, gm_vr 245]) [gm_vo 4000] n1 K1 R1 M1 Q
      | some none => Q (.inr 3) n1 K1 R1 M1
      | none => False)
      rw [hl_155_3]
      show gm_Wp X LX (d + 1) _ _ 155 13 (gm_ent 155 [gm_vr 1, gm_vi x0, gm_vi x1, gm_vr 245]) [gm_vo 4000] n1 K1 R1 M1 Q
      refine gm_sz (gm_p_stor (pc := 13) (i := .astore 4) (sr := 2) (j := 4) (by decide +kernel) rfl (show 5 ≤ _ from Nat.le_of_ble_eq_true rfl) rfl) ?_
      refine gm_sz (gm_p_const (pc := 15) (i := .iconst 1) (v := gm_vi 1) (by decide +kernel) (by decide +kernel)) ?_
      exact gm_r_int (pc := 16) (by decide +kernel) (Or.inl (by decide +kernel)) hq
theorem hl_157_3 : gm_hit (gm_ow 157) 4 3 false (gm_hh 157) = some (some 12) := by decide +kernel
theorem hl_157_2 : gm_hit (gm_ow 157) 4 2 false (gm_hh 157) = some (some 15) := by decide +kernel
theorem hl_157 {x0 : Int} (k1 : (1 ≤ 1 ∧ 1 ≤ n) ∧ (K 1).1 = 0 + 4) (h : gm_Wp X LX d bc bs 158 0 (gm_ent 158 [gm_vr 1, gm_vi x0]) [] n K R M (hQ [(3, 1), (2, 2)] Q)) : gm_Wp X LX (d + 1) bc bs 157 0 (gm_ent 157 [gm_vr 1, gm_vi x0, gm_vr 245]) [] n K R M Q := by
  refine gm_sz (gm_p_load (pc := 0) (i := .aload_n 2) (sr := 2) (j := 2) (by decide +kernel) rfl rfl rfl) ?_
  refine gm_sz (gm_p_const (pc := 1) (i := .iconst 0) (v := gm_vi 0) (by decide +kernel) (by decide +kernel)) ?_
  refine gm_sz (gm_p_load (pc := 2) (i := .aload_n 0) (sr := 2) (j := 0) (by decide +kernel) rfl rfl rfl) ?_
  refine gm_sz (gm_p_load (pc := 3) (i := .iload_n 1) (sr := 0) (j := 1) (by decide +kernel) rfl rfl rfl) ?_
  refine gm_c_virtH (k := 1) (ci := 0) (mj := 158) (ix := 54) (pc := 4) (as := [gm_vi x0]) (st := [gm_vi 0, gm_vr 245]) (d' := d) (bc' := bc) (bs' := bs) (by decide +kernel) (by decide +kernel) (by decide +kernel) k1.1 k1.2 (by decide) (by decide +kernel) (show 1 = gm_na 158 by decide +kernel) (fw_c1 (by simp [gm_sort])) (show 1 + 1 ≤ gm_ml 158 by decide +kernel) (Nat.le_of_ble_eq_true rfl) (Nat.le_refl _) (Nat.le_refl _) (Nat.le_refl _) ?_
  refine gm_Wp_mono (fun o n1 K1 R1 M1 hq => ?_) h
  obtain ⟨⟨hn, hK⟩, hq⟩ := hq
  rcases hq with ⟨v, rfl, hq⟩ | ⟨i, hi, rfl, hq⟩
  · show gm_Wp X LX (d + 1) _ _ 157 7 (gm_ent 157 [gm_vr 1, gm_vi x0, gm_vr 245]) [gm_vi v, gm_vi 0, gm_vr 245] n1 K1 R1 M1 Q
    refine gm_sz (gm_p_i2l (pc := 7) (by decide +kernel)) ?_
    refine gm_sz (gm_p_last (pc := 8) (k := 245) (by decide +kernel) ⟨by decide, hn⟩ (by rw [hK]) (by rw [hK]; decide)) ?_
    refine gm_sz (gm_p_goto (pc := 9) (off := 9) (by decide +kernel) (by decide)) ?_
    refine gm_sz (gm_p_const (pc := 18) (i := .iconst 0) (v := gm_vi 0) (by decide +kernel) (by decide +kernel)) ?_
    exact gm_r_int (pc := 19) (by decide +kernel) (Or.inl (by decide +kernel)) hq
  · simp only [List.mem_cons, List.not_mem_nil, or_false] at hi
    rcases hi with rfl | rfl
    · show (match gm_hit (gm_ow 157) 4 3 false (gm_hh 157) with
      | some (some h) => gm_Wp X LX (d + 1) _ _ 157 h (gm_ent 157 [gm_vr 1, gm_vi x0, gm_vr 245]) [gm_vo 4000] n1 K1 R1 M1 Q
      | some none => Q (.inr 3) n1 K1 R1 M1
      | none => False)
      rw [hl_157_3]
      show gm_Wp X LX (d + 1) _ _ 157 12 (gm_ent 157 [gm_vr 1, gm_vi x0, gm_vr 245]) [gm_vo 4000] n1 K1 R1 M1 Q
      refine gm_sz (gm_p_stor (pc := 12) (i := .astore_n 3) (sr := 2) (j := 3) (by decide +kernel) rfl (show 4 ≤ _ from Nat.le_of_ble_eq_true rfl) rfl) ?_
      refine gm_sz (gm_p_const (pc := 13) (i := .iconst 1) (v := gm_vi 1) (by decide +kernel) (by decide +kernel)) ?_
      exact gm_r_int (pc := 14) (by decide +kernel) (Or.inl (by decide +kernel)) hq
    · show (match gm_hit (gm_ow 157) 4 2 false (gm_hh 157) with
      | some (some h) => gm_Wp X LX (d + 1) _ _ 157 h (gm_ent 157 [gm_vr 1, gm_vi x0, gm_vr 245]) [gm_vo 4000] n1 K1 R1 M1 Q
      | some none => Q (.inr 2) n1 K1 R1 M1
      | none => False)
      rw [hl_157_2]
      show gm_Wp X LX (d + 1) _ _ 157 15 (gm_ent 157 [gm_vr 1, gm_vi x0, gm_vr 245]) [gm_vo 4000] n1 K1 R1 M1 Q
      refine gm_sz (gm_p_stor (pc := 15) (i := .astore_n 3) (sr := 2) (j := 3) (by decide +kernel) rfl (show 4 ≤ _ from Nat.le_of_ble_eq_true rfl) rfl) ?_
      refine gm_sz (gm_p_const (pc := 16) (i := .iconst 2) (v := gm_vi 2) (by decide +kernel) (by decide +kernel)) ?_
      exact gm_r_int (pc := 17) (by decide +kernel) (Or.inl (by decide +kernel)) hq
theorem hl_160_0 : gm_hit (gm_ow 160) 4 0 false (gm_hh 160) = some (some 12) := by decide +kernel
theorem hl_160 {x0 : Int} (k1 : (1 ≤ 1 ∧ 1 ≤ n) ∧ (K 1).1 = 0 + 4) (h : gm_Wp X LX d bc bs 161 0 (gm_ent 161 [gm_vr 1, gm_vi x0]) [] n K R M (hQ [(0, 1)] Q)) : gm_Wp X LX (d + 1) bc bs 160 0 (gm_ent 160 [gm_vr 1, gm_vi x0, gm_vr 245]) [] n K R M Q := by
  refine gm_sz (gm_p_load (pc := 0) (i := .aload_n 2) (sr := 2) (j := 2) (by decide +kernel) rfl rfl rfl) ?_
  refine gm_sz (gm_p_const (pc := 1) (i := .iconst 0) (v := gm_vi 0) (by decide +kernel) (by decide +kernel)) ?_
  refine gm_sz (gm_p_load (pc := 2) (i := .aload_n 0) (sr := 2) (j := 0) (by decide +kernel) rfl rfl rfl) ?_
  refine gm_sz (gm_p_load (pc := 3) (i := .iload_n 1) (sr := 0) (j := 1) (by decide +kernel) rfl rfl rfl) ?_
  refine gm_c_virtH (k := 1) (ci := 0) (mj := 161) (ix := 59) (pc := 4) (as := [gm_vi x0]) (st := [gm_vi 0, gm_vr 245]) (d' := d) (bc' := bc) (bs' := bs) (by decide +kernel) (by decide +kernel) (by decide +kernel) k1.1 k1.2 (by decide) (by decide +kernel) (show 1 = gm_na 161 by decide +kernel) (fw_c1 (by simp [gm_sort])) (show 1 + 1 ≤ gm_ml 161 by decide +kernel) (Nat.le_of_ble_eq_true rfl) (Nat.le_refl _) (Nat.le_refl _) (Nat.le_refl _) ?_
  refine gm_Wp_mono (fun o n1 K1 R1 M1 hq => ?_) h
  obtain ⟨⟨hn, hK⟩, hq⟩ := hq
  rcases hq with ⟨v, rfl, hq⟩ | ⟨i, hi, rfl, hq⟩
  · show gm_Wp X LX (d + 1) _ _ 160 7 (gm_ent 160 [gm_vr 1, gm_vi x0, gm_vr 245]) [gm_vi v, gm_vi 0, gm_vr 245] n1 K1 R1 M1 Q
    refine gm_sz (gm_p_i2l (pc := 7) (by decide +kernel)) ?_
    refine gm_sz (gm_p_last (pc := 8) (k := 245) (by decide +kernel) ⟨by decide, hn⟩ (by rw [hK]) (by rw [hK]; decide)) ?_
    refine gm_sz (gm_p_goto (pc := 9) (off := 6) (by decide +kernel) (by decide)) ?_
    refine gm_sz (gm_p_const (pc := 15) (i := .iconst 0) (v := gm_vi 0) (by decide +kernel) (by decide +kernel)) ?_
    exact gm_r_int (pc := 16) (by decide +kernel) (Or.inl (by decide +kernel)) hq
  · simp only [List.mem_cons, List.not_mem_nil, or_false] at hi
    rcases hi with rfl
    · show (match gm_hit (gm_ow 160) 4 0 false (gm_hh 160) with
      | some (some h) => gm_Wp X LX (d + 1) _ _ 160 h (gm_ent 160 [gm_vr 1, gm_vi x0, gm_vr 245]) [gm_vo 4000] n1 K1 R1 M1 Q
      | some none => Q (.inr 0) n1 K1 R1 M1
      | none => False)
      rw [hl_160_0]
      show gm_Wp X LX (d + 1) _ _ 160 12 (gm_ent 160 [gm_vr 1, gm_vi x0, gm_vr 245]) [gm_vo 4000] n1 K1 R1 M1 Q
      refine gm_sz (gm_p_stor (pc := 12) (i := .astore_n 3) (sr := 2) (j := 3) (by decide +kernel) rfl (show 4 ≤ _ from Nat.le_of_ble_eq_true rfl) rfl) ?_
      refine gm_sz (gm_p_const (pc := 13) (i := .iconst 1) (v := gm_vi 1) (by decide +kernel) (by decide +kernel)) ?_
      exact gm_r_int (pc := 14) (by decide +kernel) (Or.inl (by decide +kernel)) hq
end HL14
end
/-! 7c15.wd -/
section
/-! THE WORLD BETWEEN THE CALLS and what is told of it: laws, acts of the class, acts of the reference. -/
/-- the law that a State of the class holds -/
def LAWC (s : Nat) (lw : Option (List lln)) (K : gm_K) (M : gm_M) : Prop := (lw = none → s = 0) ∧ ∀ ls, lw = some ls → ¬ s = 0 ∧ LW ls ∧ ∃ NC : Nat, NC ≤ 400 ∧ K (bg_rho s 247) = (0, NC) ∧ LB NC (M (bg_rho s 247)) (M (bg_rho s 249)) (ls.length : Int) (fun k j => M (bg_rho s k) j) ∧ LC ls (M (bg_rho s 247)) (M (bg_rho s 249))
def slotN (x : Int) (i : Nat) : Nat := 44 + 13 * ((x + 11 - (i : Int)) % 12).toNat
def LWL (la : Nat → Nat) (K : gm_K) (M : gm_M) (lw : Option (List lln)) (A : List (Int → Int)) (im : Option ((Int → Int) × Option (List lln))) : Prop := LAWC (la 3) lw K M ∧ (∀ i : Nat, i < A.length → la (slotN (M 42 1) i) = la 3) ∧ ∀ NI lI, im = some (NI, lI) → LAWC (la 29) lI K M
theorem slot_ss : (List.range 12).all (fun p => decide (44 + 13 * p ∈ bg_ss)) = true := by decide
theorem slot_s {p : Nat} (h : p < 12) : 44 + 13 * p ∈ bg_ss := of_decide_eq_true (List.all_eq_true.mp slot_ss p (List.mem_range.mpr h))
theorem slotN_s {x : Int} {i : Nat} : slotN x i ∈ bg_ss := slot_s (by omega)
section WD15
variable {X : Int → Int} {LX : Nat} {O : gm_Or} {g z g1 : Nat} {la : Nat → Nat} {K K' K1 : gm_K} {R R1 : gm_R} {M M' M1 : gm_M} {S : ck_Sum} {L : gm_L} {st : List gm_V} {Q : gm_Q} {N N0 : Int → Int} {lw lw0 : Option (List lln)} {A A0 A' : List (Int → Int)} {im im0 : Option ((Int → Int) × Option (List lln))} {t w t0 w0 : Int} {f f0 : Int → Int}
theorem lawc_e {s : Nat} (h : LAWC s lw K M) (hs : s ≤ g) (eK : ∀ k, 246 ≤ k → k ≤ 245 + 4 * g → K' k = K k) (eM : ∀ k j, 246 ≤ k → k ≤ 245 + 4 * g → M' k j = M k j) : LAWC s lw K' M' := by
  refine ⟨h.1, fun ls hl => ?_⟩
  obtain ⟨h0, hW, NC, h1, h2, h3, h4⟩ := h.2 ls hl
  have r : ∀ k, 247 ≤ k → k ≤ 249 → 246 ≤ bg_rho s k ∧ bg_rho s k ≤ 245 + 4 * g := fun k k1 k2 => by
    unfold bg_rho
    rw [if_neg (by omega)]
    omega
  have q : ∀ k, 247 ≤ k → k ≤ 249 → M' (bg_rho s k) = M (bg_rho s k) := fun k k1 k2 => funext fun j => eM _ j (r k k1 k2).1 (r k k1 k2).2
  have e7 := q 247 (by decide) (by decide)
  have e8 := q 248 (by decide) (by decide)
  have e9 := q 249 (by decide) (by decide)
  refine ⟨h0, hW, NC, h1, by rw [eK _ (r 247 (by decide) (by decide)).1 (r 247 (by decide) (by decide)).2]; exact h2, ?_, by rw [e7, e9]; exact h4⟩
  unfold LB LM at h3 ⊢
  simpa only [e7, e8, e9] using h3
/-- what a call sees of the class's law -/
theorem cc_w (hb : bg g la K R M) (hz : bs_ok la z g1) (hz3 : ¬ z = 100003) (h : LAWC (la 3) lw K M) (hr : LAWR lw (M 227)) : ∃ (NC : Nat) (C Ln : Int → Int), CC (245 + 4 * g1) (bs_K la K) (bs_R z g1) NC C Ln (M 227) lw ∧ LBX NC C Ln lw (bs_M la M) := by
  have e8 : bs_R z g1 3 ((8 : Nat) : Int) = z := (bc_lf (s := 3) (by decide)).trans (if_pos rfl)
  cases lw with
  | none =>
    refine ⟨0, fun _ => 0, fun _ => 0, ⟨fun _ => ?_, fun ls e => nomatch e⟩, fun ls e => nomatch e⟩
    have h0 := h.1 rfl
    rw [e8]
    rcases hz with a | a | a
    · exact a.1
    · exact absurd a.1 hz3
    · exact absurd h0 a.2.2
  | some ls =>
    obtain ⟨h0, hW, NC, h1, h2, h3, h4⟩ := h.2 ls rfl
    have hz2 : z = 246 ∧ g1 = 1 := by
      rcases hz with a | a | a
      · exact absurd a.2.2 h0
      · exact absurd a.1 hz3
      · exact ⟨a.1, a.2.1⟩
    obtain ⟨rfl, rfl⟩ := hz2
    have hl3 := hb.2.2.2 3 (by decide)
    have hgg := hb.2.2.1 (la 3 - 1) (by omega)
    have er : ∀ t, t < 4 → bg_rho (la 3) (246 + t) = 246 + 4 * (la 3 - 1) + t := fun t h => by unfold bg_rho; rw [if_neg (by omega)]; omega
    obtain ⟨⟨k6, -, k8, k9⟩, -⟩ := hgg
    have q6 : bs_K la K 246 = (14, 0) := by unfold bs_K; rw [show 246 = 246 + 0 by rfl, er 0 (by decide)]; exact k6
    have q8 : bs_K la K 248 = (6, 0) := by unfold bs_K; rw [show 248 = 246 + 2 by rfl, er 2 (by decide)]; exact k8
    have q9 : bs_K la K 249 = (0, 48) := by unfold bs_K; rw [show 249 = 246 + 3 by rfl, er 3 (by decide)]; exact k9
    have r0 : bs_R 246 1 246 ((0 : Nat) : Int) = 248 := by unfold bs_R; rw [bg_no (by decide)]; rfl
    have r1 : bs_R 246 1 246 ((1 : Nat) : Int) = 247 := by unfold bs_R; rw [bg_no (by decide)]; rfl
    have r2 : bs_R 246 1 248 ((2 : Nat) : Int) = 249 := by unfold bs_R; rw [bg_no (by decide)]; rfl
    refine ⟨NC, M (bg_rho (la 3) 247), M (bg_rho (la 3) 249), ⟨(fun e => nomatch e), fun ls2 e => ?_⟩, fun ls2 e => ?_⟩
    · cases e
      exact ⟨e8, ⟨⟨⟨⟨by decide, by decide⟩, by rw [q6]⟩, ⟨⟨by decide, by decide⟩, h2⟩, ⟨⟨by decide, by decide⟩, by rw [q8]⟩, ⟨by decide, by decide⟩, q9⟩, ⟨r0, r1, r2⟩, h1⟩, hW, h4, (hr.2 ls rfl).2.2.1⟩
    · cases e
      exact h3
theorem e0_w (hb : bg g la K R M) (hz : bs_ok la z g1) : E0 (245 + 4 * g1) (bs_K la K) (bs_R z g1) := by
  rcases hz with a | a | a
  · obtain ⟨rfl, rfl, h0⟩ := a
    exact e0F (bs_F0 hb)
  · obtain ⟨rfl, rfl⟩ := a
    exact e0F (bs_F0 hb)
  · obtain ⟨rfl, rfl, h0⟩ := a
    exact e0F (pl_o (bs_F1 hb h0))
theorem cst_w (hb : bg g la K R M) : CST (bs_M la M) := cstF (bs_F0 (z := 0) hb)
theorem ck_le {k : Nat} {j : Int} (h : cK k j) : k < 226 := by unfold cK at h; omega
theorem ck_ge {k : Nat} {j : Int} (h : cK k j) : 1 ≤ k := by unfold cK at h; omega
theorem rk_le {k : Nat} {j : Int} (h : rK k j) : 226 ≤ k ∧ k ≤ 235 := by unfold rK at h; omega
theorem clv_w (hb : bg g la K R M) (hV : CLV N lw A im t w f M) : CLV N lw A im t w f (bs_M la M) := clv_e hV (cst_w hb) (fun k j hk => vM (by have := ck_le hk; omega))
theorem rfv_w (hV : RFV N lw A im t w f M) : RFV N lw A im t w f (bs_M la M) := rfv_e hV (fun k j hk => vM (by have := rk_le hk; omega))
/-- what a call on the class leaves -/
noncomputable def DQ (n : Nat) (K : gm_K) (u : Option gm_V) (ov : Option Int) (RR : gm_R → gm_M → Prop) (N : Int → Int) (lw : Option (List lln)) (A : List (Int → Int)) (im : Option ((Int → Int) × Option (List lln))) (t w : Int) (f : Int → Int) : gm_Q := fun o n1 K1 R1 M1 => (n1 = n ∧ K1 = K) ∧ o = .inl u ∧ (∀ v, ov = some v → M1 245 0 = gm_w v) ∧ CLV N lw A im t w f M1 ∧ RR R1 M1
/-- rows of the class: cells below 226, and 245 -/
noncomputable def w_x (O : gm_Or) (z g1 k1 : Nat) (t : Bool) (S : ck_Sum) : Bool := bc_ok O z g1 S && (bc_args S k1 t && (decide (S.1.1 + 1 ≤ 280 ∧ S.1.2.1 ≤ 6 ∧ S.1.2.2 ≤ 600) && S.2.2.2.2.1.1.all fun w => decide (w.1 < 226 ∨ w.1 = 245)))
/-- rows of the reference: cells 226 to 244 -/
noncomputable def w_m (S : ck_Sum) : Bool := bc_ok p2_O 100003 0 S && (bc_args S 226 false && (decide (S.1.1 + 1 ≤ 280 ∧ S.1.2.1 ≤ 6 ∧ S.1.2.2 ≤ 600) && S.2.2.2.2.1.1.all fun w => decide (w.1 = 0 ∨ (226 ≤ w.1 ∧ w.1 ≤ 244))))
theorem bg_oldM {k : Nat} {j : Int} (h1 : 246 ≤ k) (h2 : k ≤ 245 + 4 * g) : bg_M g M M' k j = M k j := by unfold bg_M; rw [if_neg (by omega), if_pos h2]
/-- behind a call on the class: what is told is told of the world -/
noncomputable def wx_K (X : Int → Int) (LX bc bs pc : Nat) (L : gm_L) (st : List gm_V) (Q : gm_Q) (g z g1 : Nat) (la : Nat → Nat) (K : gm_K) (M : gm_M) (u : Option gm_V) (ov : Option Int) (RR : gm_R → gm_M → Prop) (N : Int → Int) (lw : Option (List lln)) (A : List (Int → Int)) (im : Option ((Int → Int) × Option (List lln))) (t w : Int) (f : Int → Int) (N0 : Int → Int) (lw0 : Option (List lln)) (A0 : List (Int → Int)) (im0 : Option ((Int → Int) × Option (List lln))) (t0 w0 : Int) (f0 : Int → Int) : Prop := ∀ (R1 : gm_R) (M1 : gm_M) (K2 : gm_K) (R2 : gm_R) (M2 : gm_M), RR R1 M1 → bg g (bg_la la g 0 R1) K2 R2 M2 → (∀ k, 246 ≤ k → k ≤ 245 + 4 * g → K2 k = K k) → (∀ k j, 246 ≤ k → k ≤ 245 + 4 * g → M2 k j = M k j) → M2 42 1 = M1 42 1 → (∀ v, ov = some v → Int64.ofInt (M2 245 0) = Int64.ofInt (gm_w v)) → CLV N lw A im t w f M2 → RFV N0 lw0 A0 im0 t0 w0 f0 M2 → gm_Wp X LX 280 (bc - 6) (bs - 600) 370 pc L (u.toList ++ st) (245 + 4 * g) K2 R2 M2 Q
theorem wx_s {bc bs pc k1 : Nat} {tt : Bool} {u : Option gm_V} {ov : Option Int} {RR : gm_R → gm_M → Prop} (hb : bg g la K R M) (hz : bs_ok la z g1) (hg : g < 10000) (hO : ∀ n K R M, gm_Fx O n K R M → gm_Fx p2_O n K R M) (hck : w_x O z g1 k1 tt S = true) (hRA : RA N lw A im t w f) (hRf : RFV N0 lw0 A0 im0 t0 w0 f0 M) (hu : u = none ∨ ∃ x, u = some (gm_vi x)) (hRR : ∀ R1 M1, RR R1 M1 → rvR z g1 R1) (k : wx_K X LX bc bs pc L st Q g z g1 la K M u ov RR N lw A im t w f N0 lw0 A0 im0 t0 w0 f0) : bc_KM X LX 280 (bc - 6) (bs - 600) 370 pc L st Q O z g1 g la K R M S (DQ (245 + 4 * g1) (bs_K la K) u ov RR N lw A im t w f) := by
  simp only [w_x, Bool.and_eq_true, decide_eq_true_eq] at hck
  obtain ⟨-, -, -, hW⟩ := hck
  have hg1 : g1 ≤ 1 := by rcases hz with h | h | h <;> omega
  intro o n1 K1 R1 M1 σ o2 n2 K2 R2 M2 q1 q2 ho hdt
  obtain ⟨⟨rfl, rfl⟩, rfl, hv, hV, hrr⟩ := q1
  obtain ⟨hF2, hfr, -⟩ := q2
  have hF2 := hO _ _ _ _ hF2
  have hk12 : ∀ k, 1 ≤ k → k ≤ 245 + 4 * g1 → bs_K la K k = K2 k := fun k _ hk => (hfr.2.1 k hk).symm
  refine ⟨hk12, ?_⟩
  have hW2 : S.2.2.2.2.1.1.all (fun w => decide (w.1 ≤ 245)) = true := List.all_eq_true.mpr fun w hw => by
    have := of_decide_eq_true (List.all_eq_true.mp hW w hw)
    exact decide_eq_true (by omega)
  have hrt := rt_of (K1 := bs_K la K) (M1 := bs_M la M) (Ka := bs_K la K) (Ma := M1) hg1 (hRR R1 M1 hrr) hF2 hfr hW2 (fun _ _ => rfl)
  refine bg_oweX (c := 0) hb hz hg hrt hu (fun hb2 => ?_)
  have hV2 := clv_dt hdt (by omega) hk12 hF2 hRA hV
  have e : ∀ k j, k ≤ 245 → bg_M g M (mxM (245 + 4 * g1) M2 M1) k j = M2 k j := fun k j hk => (bg_Ms hk j).trans (mxM_o (by omega))
  have hx : 0 ≤ M1 42 1 ∧ M1 42 1 < 12 := his_nx hV.1.2
  refine k R1 M1 _ _ _ hrr hb2 (fun k k1 k2 => bg_Ks k2) (fun k j k1 k2 => bg_oldM k1 k2) ?_ (fun v hv2 => ?_) ?_ ?_
  · rw [e 42 1 (by decide)]
    have e42 : M2 42 1 = gm_w (M1 42 1) := dw_f hdt (by omega) hk12 hF2 dt_c2.1
    rw [e42]
    exact dw_i ⟨by omega, by omega⟩
  · rw [e 245 0 (by decide), ← hv v hv2]
    have k245 := hF2.1 245 (2, 1) (by decide +kernel)
    have ee := hk12 245 (by decide) (by omega)
    exact ((hdt 245 (by decide) (by omega) ee).2.1 (by rw [ee, k245.2.2]) 0 (by rw [ee, k245.2.2]; decide)).symm
  · exact clv_e hV2 (cstF hb2.2.1) (fun k j hk => e k j (by have := ck_le hk; omega))
  · refine rfv_e hRf (fun k j hk => ?_)
    have hk := rk_le hk
    rw [e k j (by omega), hfr.2.2.1 k j (by omega) (fun w hw hh => by have := of_decide_eq_true (List.all_eq_true.mp hW w hw); omega)]
    exact vM (by omega)
/-- what a call on the reference leaves -/
noncomputable def RDQ (n : Nat) (K : gm_K) (R : gm_R) (P : Option gm_V → Prop) (oc : Option Int) (N : Int → Int) (lw : Option (List lln)) (A : List (Int → Int)) (im : Option ((Int → Int) × Option (List lln))) (t w : Int) (f : Int → Int) : gm_Q := fun o n1 K1 R1 M1 => (n1 = n ∧ K1 = K ∧ R1 = R) ∧ (∃ u, o = .inl u ∧ P u) ∧ (∀ c, oc = some c → gm_ir c ∧ M1 226 0 = c) ∧ RFV N lw A im t w f M1
noncomputable def wm_K (X : Int → Int) (LX bc bs pc : Nat) (L : gm_L) (st : List gm_V) (Q : gm_Q) (g : Nat) (la : Nat → Nat) (K : gm_K) (M : gm_M) (P : Option gm_V → Prop) (oc : Option Int) (N : Int → Int) (lw : Option (List lln)) (A : List (Int → Int)) (im : Option ((Int → Int) × Option (List lln))) (t w : Int) (f : Int → Int) : Prop := ∀ (u : Option gm_V) (la2 : Nat → Nat) (K2 : gm_K) (R2 : gm_R) (M2 : gm_M), P u → (∀ s ∈ bg_ss, la2 s = la s) → bg g la2 K2 R2 M2 → (∀ k, 246 ≤ k → k ≤ 245 + 4 * g → K2 k = K k) → (∀ k j, 246 ≤ k → k ≤ 245 + 4 * g → M2 k j = M k j) → M2 42 1 = M 42 1 → M2 245 0 = M 245 0 → (∀ c, oc = some c → M2 226 0 = c) → CLV N lw A im t w f M2 → RFV N lw A im t w f M2 → gm_Wp X LX 280 (bc - 6) (bs - 600) 370 pc L (u.toList ++ st) (245 + 4 * g) K2 R2 M2 Q
theorem wm_c1 : tyF 226 11 0 = true := by decide +kernel
theorem wm_s {bc bs pc : Nat} {P : Option gm_V → Prop} {oc : Option Int} (hb : bg g la K R M) (hg : g < 10000) (hck : w_m S = true) (hRA : RA N lw A im t w f) (hC : CLV N lw A im t w f M) (hP : ∀ u, P u → u = none ∨ ∃ x, u = some (gm_vi x)) (k : wm_K X LX bc bs pc L st Q g la K M P oc N lw A im t w f) : bc_KM X LX 280 (bc - 6) (bs - 600) 370 pc L st Q p2_O 100003 0 g la K R M S (RDQ 245 (bs_K la K) (bs_R 100003 0) P oc N lw A im t w f) := by
  have hz : bs_ok la 100003 0 := Or.inr (Or.inl ⟨rfl, rfl⟩)
  simp only [w_m, Bool.and_eq_true, decide_eq_true_eq] at hck
  obtain ⟨-, -, -, hW⟩ := hck
  intro o n1 K1 R1 M1 σ o2 n2 K2 R2 M2 q1 q2 ho hdt
  obtain ⟨⟨rfl, rfl, rfl⟩, ⟨u, rfl, hu⟩, hc, hV⟩ := q1
  obtain ⟨hF2, hfr, -⟩ := q2
  have hk12 : ∀ k, 1 ≤ k → k ≤ 245 + 4 * 0 → bs_K la K k = K2 k := fun k _ hk => (hfr.2.1 k hk).symm
  refine ⟨hk12, ?_⟩
  have hW2 : S.2.2.2.2.1.1.all (fun w => decide (w.1 ≤ 245)) = true := List.all_eq_true.mpr fun w hw => by
    have := of_decide_eq_true (List.all_eq_true.mp hW w hw)
    exact decide_eq_true (by omega)
  have hrt := rt_of (K1 := bs_K la K) (M1 := bs_M la M) (Ka := bs_K la K) (Ma := M1) (g1 := 0) (by decide) (rvR_0 hz) hF2 hfr hW2 (fun _ _ => rfl)
  refine bg_oweX (c := 0) hb hz hg hrt (hP u hu) (fun hb2 => ?_)
  have hV2 := rfv_dt hdt (by omega) hk12 hF2 hRA hV
  have e : ∀ k j, k ≤ 245 → bg_M g M (mxM (245 + 4 * 0) M2 M1) k j = M2 k j := fun k j hk => (bg_Ms hk j).trans (mxM_o (by omega))
  have e2 : ∀ k j, (1 ≤ k ∧ k < 226) ∨ k = 245 → bg_M g M (mxM (245 + 4 * 0) M2 M1) k j = M k j := fun k j hk => by
    rw [e k j (by omega), hfr.2.2.1 k j (by omega) (fun w hw hh => by have := of_decide_eq_true (List.all_eq_true.mp hW w hw); omega)]
    exact vM (by omega)
  refine k u _ _ _ _ hu (fun s hs => bg_dcs hz hs) hb2 (fun k k1 k2 => bg_Ks k2) (fun k j k1 k2 => bg_oldM k1 k2) (e2 42 1 (by decide)) (e2 245 0 (by decide)) (fun c hc2 => ?_) ?_ ?_
  · obtain ⟨c1, c2⟩ := hc c hc2
    rw [e 226 0 (by decide)]
    have := dw_f hdt (by decide) hk12 hF2 wm_c1
    rw [show ((0 : Nat) : Int) = 0 by rfl] at this
    rw [this, c2]
    exact dw_i c1
  · exact clv_e hC (cstF hb2.2.1) (fun k j hk => e2 k j (Or.inl ⟨ck_ge hk, ck_le hk⟩))
  · exact rfv_e hV2 (fun k j hk => e k j (by have := rk_le hk; omega))
end WD15
end
/-! 7c16.mw -/
section
/-! LAWS BY EVERY STEP; a call on the class, a call on the reference, as a step of what is told. -/
/-- class and reference told the same -/
noncomputable def REL (la : Nat → Nat) (K : gm_K) (M : gm_M) (N : Int → Int) (lw : Option (List lln)) (A : List (Int → Int)) (im : Option ((Int → Int) × Option (List lln))) (t w : Int) (f : Int → Int) : Prop := RA N lw A im t w f ∧ LWL la K M lw A im ∧ CLV N lw A im t w f M ∧ RFV N lw A im t w f M
/-- the class has done it, the reference hasn't -/
noncomputable def MID (la : Nat → Nat) (K : gm_K) (M : gm_M) (N : Int → Int) (lw : Option (List lln)) (A : List (Int → Int)) (im : Option ((Int → Int) × Option (List lln))) (t w : Int) (f : Int → Int) (N0 : Int → Int) (lw0 : Option (List lln)) (A0 : List (Int → Int)) (im0 : Option ((Int → Int) × Option (List lln))) (t0 w0 : Int) (f0 : Int → Int) : Prop := RA N lw A im t w f ∧ RA N0 lw0 A0 im0 t0 w0 f0 ∧ LWL la K M lw A im ∧ CLV N lw A im t w f M ∧ RFV N0 lw0 A0 im0 t0 w0 f0 M
section MW16
variable {X : Int → Int} {LX : Nat} {g z g1 : Nat} {la la2 : Nat → Nat} {K K2 : gm_K} {R R1 R2 : gm_R} {M M1 M2 : gm_M} {L : gm_L} {st : List gm_V} {Q : gm_Q} {N N0 : Int → Int} {lw lw0 : Option (List lln)} {A A0 A' : List (Int → Int)} {im im0 : Option ((Int → Int) × Option (List lln))} {t w t0 w0 : Int} {f f0 : Int → Int}
theorem lwl_c (h : LWL la K M lw A im) (hl : ∀ s ∈ bg_ss, la s ≤ g) (e3 : la2 3 = la 3) (eS : ∀ i : Nat, i < A'.length → la2 (slotN (M2 42 1) i) = la 3) (e29 : la2 29 = la 29) (eK : ∀ k, 246 ≤ k → k ≤ 245 + 4 * g → K2 k = K k) (eM : ∀ k j, 246 ≤ k → k ≤ 245 + 4 * g → M2 k j = M k j) : LWL la2 K2 M2 lw A' im := by
  obtain ⟨h1, h2, h3⟩ := h
  refine ⟨by rw [e3]; exact lawc_e h1 (hl 3 (by decide)) eK eM, fun i hi => (eS i hi).trans e3.symm, fun NI lI e => ?_⟩
  rw [e29]
  exact lawc_e (h3 NI lI e) (hl 29 (by decide)) eK eM
theorem lwl_e (h : LWL la K M lw A im) (hl : ∀ s ∈ bg_ss, la s ≤ g) (e : ∀ s ∈ bg_ss, la2 s = la s) (e42 : M2 42 1 = M 42 1) (eK : ∀ k, 246 ≤ k → k ≤ 245 + 4 * g → K2 k = K k) (eM : ∀ k j, 246 ≤ k → k ≤ 245 + 4 * g → M2 k j = M k j) : LWL la2 K2 M2 lw A im :=
  lwl_c h hl (e 3 (by decide)) (fun i hi => by rw [e42, e _ slotN_s]; exact h.2.1 i hi) (e 29 (by decide)) eK eM
theorem la_u {s c c' : Nat} (hz : bs_ok la z g1) (hs : s ∈ bg_ss) (hc' : c' ∈ bg_ss) : bg_la la g 0 (gm_uR (bs_R z g1) c 8 (bs_R z g1 c' 8)) s = if s = c then la c' else la s := by
  show bg_dc la g 0 (gm_uR (bs_R z g1) c 8 (bs_R z g1 c' 8) s 8) = _
  unfold gm_uR
  by_cases e : s = c
  · rw [if_pos ⟨e, rfl⟩, if_pos e]
    exact bg_dcs hz hc'
  · rw [if_neg (fun h => e h.1), if_neg e]
    exact bg_dcs hz hs
theorem lwl_step (h : LWL la K M lw A im) (hl : ∀ s ∈ bg_ss, la s ≤ g) (hz : bs_ok la z g1) (hs : STEP (bs_R z g1) R1 (bs_M la M) M1 A A') (e42 : M2 42 1 = M1 42 1) (eK : ∀ k, 246 ≤ k → k ≤ 245 + 4 * g → K2 k = K k) (eM : ∀ k j, 246 ≤ k → k ≤ 245 + 4 * g → M2 k j = M k j) : LWL (bg_la la g 0 R1) K2 M2 lw A' im := by
  have v42 : bs_M la M 42 1 = M 42 1 := vM (by decide)
  have n3 : ∀ p : Nat, ¬ 3 = 44 + 13 * p := fun p => by omega
  have n29 : ∀ p : Nat, ¬ 29 = 44 + 13 * p := fun p => by omega
  rcases hs with ⟨rfl, h1, rfl⟩ | ⟨p, hp, ⟨h1, h2⟩, rfl, N0, rfl⟩ | ⟨p, hp, ⟨h1, h2⟩, rfl, N0, rfl⟩
  · exact lwl_e h hl (fun s hs => bg_dcs hz hs) (by rw [e42, h1, v42]) eK eM
  · rw [v42] at h1
    refine lwl_c h hl ((la_u hz (by decide) (by decide)).trans (if_neg (n3 p))) (fun i hi => ?_) ((la_u hz (by decide) (by decide)).trans (if_neg (n29 p))) eK eM
    rw [la_u hz slotN_s (by decide)]
    have hi2 : i < 12 ∧ i < A.length + 1 := by
      rw [List.length_take, List.length_cons] at hi
      omega
    rw [e42, h2]
    cases i with
    | zero =>
      rw [if_pos (by unfold slotN; omega)]
    | succ i =>
      rw [if_neg (by unfold slotN; omega), show slotN (((p : Int) + 1) % 12) (i + 1) = slotN (M 42 1) i by rw [h1]; unfold slotN; omega]
      exact h.2.1 i (by omega)
  · rw [v42] at h2
    have e0 : la (44 + 13 * p) = la 3 := by
      have := h.2.1 0 (by rw [List.length_cons]; omega)
      rw [h2, show slotN (((p : Int) + 1) % 12) 0 = 44 + 13 * p by unfold slotN; omega] at this
      exact this
    have e9 : ∀ s ∈ bg_ss, bg_la la g 0 (gm_uR (bs_R z g1) 3 8 (bs_R z g1 (44 + 13 * p) 8)) s = la s := fun s hs => by
      rw [la_u hz hs (slot_s hp)]
      by_cases e : s = 3
      · rw [if_pos e, e, e0]
      · rw [if_neg e]
    refine lwl_c h hl (e9 3 (by decide)) (fun i hi => ?_) (e9 29 (by decide)) eK eM
    rw [e9 _ slotN_s, e42, h1, show slotN (p : Int) i = slotN (M 42 1) (i + 1) by rw [h2]; unfold slotN; omega]
    exact h.2.1 (i + 1) (by rw [List.length_cons]; omega)
theorem lwl_v (h : LWL la K M lw A im) (hl : ∀ s ∈ bg_ss, la s ≤ g) (hz : bs_ok la z g1) (hr : R1 = gm_uR (bs_R z g1) 16 8 (bs_R z g1 3 8) ∨ R1 = gm_uR (gm_uR (bs_R z g1) 16 8 (bs_R z g1 3 8)) 3 8 ((gm_uR (bs_R z g1) 16 8 (bs_R z g1 3 8)) 16 8)) (hA : A' = A ∨ A' = []) (e42 : M2 42 1 = M 42 1) (eK : ∀ k, 246 ≤ k → k ≤ 245 + 4 * g → K2 k = K k) (eM : ∀ k j, 246 ≤ k → k ≤ 245 + 4 * g → M2 k j = M k j) : LWL (bg_la la g 0 R1) K2 M2 lw A' im := by
  have e9 : ∀ s ∈ bg_ss, ¬ s = 16 → bg_la la g 0 R1 s = la s := fun s hs h16 => by
    rcases hr with rfl | rfl
    · rw [la_u hz hs (by decide), if_neg h16]
    · show bg_dc la g 0 (gm_uR (gm_uR (bs_R z g1) 16 8 (bs_R z g1 3 8)) 3 8 ((gm_uR (bs_R z g1) 16 8 (bs_R z g1 3 8)) 16 8) s 8) = _
      by_cases e3 : s = 3
      · subst e3
        rw [show gm_uR (gm_uR (bs_R z g1) 16 8 (bs_R z g1 3 8)) 3 8 ((gm_uR (bs_R z g1) 16 8 (bs_R z g1 3 8)) 16 8) 3 8 = bs_R z g1 3 8 by unfold gm_uR; rw [if_pos ⟨rfl, rfl⟩, if_pos ⟨rfl, rfl⟩]]
        exact bg_dcs hz hs
      · rw [show gm_uR (gm_uR (bs_R z g1) 16 8 (bs_R z g1 3 8)) 3 8 ((gm_uR (bs_R z g1) 16 8 (bs_R z g1 3 8)) 16 8) s 8 = bs_R z g1 s 8 by unfold gm_uR; rw [if_neg (fun h => e3 h.1), if_neg (fun h => h16 h.1)]]
        exact bg_dcs hz hs
  refine lwl_c h hl (e9 3 (by decide) (by decide)) (fun i hi => ?_) (e9 29 (by decide) (by decide)) eK eM
  rcases hA with rfl | rfl
  · rw [e9 _ slotN_s (by unfold slotN; omega), e42]
    exact h.2.1 i hi
  · exact absurd hi (Nat.not_lt_zero _)
theorem lwl_im (h : LWL la K M lw A im) (hl : ∀ s ∈ bg_ss, la s ≤ g) (hz : bs_ok la z g1) (e42 : M2 42 1 = M 42 1) (eK : ∀ k, 246 ≤ k → k ≤ 245 + 4 * g → K2 k = K k) (eM : ∀ k j, 246 ≤ k → k ≤ 245 + 4 * g → M2 k j = M k j) : LWL (bg_la la g 0 (gm_uR (bs_R z g1) 29 8 (bs_R z g1 3 8))) K2 M2 lw A (some (N, lw)) := by
  obtain ⟨h1, h2, h3⟩ := h
  have e3 : bg_la la g 0 (gm_uR (bs_R z g1) 29 8 (bs_R z g1 3 8)) 3 = la 3 := (la_u hz (by decide) (by decide)).trans (if_neg (by decide))
  have e29 : bg_la la g 0 (gm_uR (bs_R z g1) 29 8 (bs_R z g1 3 8)) 29 = la 3 := (la_u hz (by decide) (by decide)).trans (if_pos rfl)
  refine ⟨by rw [e3]; exact lawc_e h1 (hl 3 (by decide)) eK eM, fun i hi => ?_, fun NI lI e => ?_⟩
  · rw [e3, la_u hz slotN_s (by decide), if_neg (by unfold slotN; omega), e42]
    exact h2 i hi
  · cases e
    rw [e29]
    exact lawc_e h1 (hl 3 (by decide)) eK eM
theorem lwl_bk {NI : Int → Int} {lI : Option (List lln)} (h : LWL la K M lw A (some (NI, lI))) (hl : ∀ s ∈ bg_ss, la s ≤ g) (hz : bs_ok la z g1) (eK : ∀ k, 246 ≤ k → k ≤ 245 + 4 * g → K2 k = K k) (eM : ∀ k j, 246 ≤ k → k ≤ 245 + 4 * g → M2 k j = M k j) : LWL (bg_la la g 0 (gm_uR (bs_R z g1) 3 8 (bs_R z g1 29 8))) K2 M2 lI [] (some (NI, lI)) := by
  obtain ⟨h1, h2, h3⟩ := h
  have e3 : bg_la la g 0 (gm_uR (bs_R z g1) 3 8 (bs_R z g1 29 8)) 3 = la 29 := (la_u hz (by decide) (by decide)).trans (if_pos rfl)
  have e29 : bg_la la g 0 (gm_uR (bs_R z g1) 3 8 (bs_R z g1 29 8)) 29 = la 29 := (la_u hz (by decide) (by decide)).trans (if_neg (by decide))
  have h4 := lawc_e (h3 NI lI rfl) (hl 29 (by decide)) eK eM
  refine ⟨by rw [e3]; exact h4, fun i hi => absurd hi (Nat.not_lt_zero _), fun NI2 lI2 e => ?_⟩
  cases e
  rw [e29]
  exact h4
/-- behind a call on the class -/
def mw_K (X : Int → Int) (LX bc bs pc : Nat) (L : gm_L) (st : List gm_V) (Q : gm_Q) (g : Nat) (u : Option gm_V) (ov : Option Int) (P : (Nat → Nat) → gm_K → gm_M → Prop) : Prop := ∀ (la2 : Nat → Nat) (K2 : gm_K) (R2 : gm_R) (M2 : gm_M), bg g la2 K2 R2 M2 → P la2 K2 M2 → (∀ v, ov = some v → Int64.ofInt (M2 245 0) = Int64.ofInt (gm_w v)) → gm_Wp X LX 280 (bc - 6) (bs - 600) 370 pc L (u.toList ++ st) (245 + 4 * g) K2 R2 M2 Q
theorem mw_in {l : List ck_Sum} {ds : List (Int × Int)} {xs : List Int} (hv : bc_cov 60 ds (l.map bc_box) = true) (hx : bc_in ds xs) : ∃ S ∈ l, bc_in (bc_box S) xs := by
  obtain ⟨r, hr, h⟩ := bc_cov_s 60 ds _ xs hv hx
  obtain ⟨S, hS, rfl⟩ := List.mem_map.mp hr
  exact ⟨S, hS, h⟩
theorem mw_k1 (hb : bg g la K R M) : (K 1).1 = 0 + 4 ∧ (K 226).1 = 11 + 4 := ⟨(e0k (e0F hb.2.1) (k := 1) (c := 0) (by decide +kernel)).2, (e0k (e0F hb.2.1) (k := 226) (c := 11) (by decide +kernel)).2⟩
section MWX
variable {bc bs pc ix mj : Nat} {l0 l1 l : List ck_Sum} {ds : List (Int × Int)} {xs : List Int} {u : Option gm_V} {ov oc : Option Int} {RR : Nat → Nat → gm_R → gm_M → Prop} {P : Option gm_V → Prop}
theorem wx_go (hR : REL la K M N0 lw0 A0 im0 t0 w0 f0) (hRA : RA N lw A im t w f) (hL : ∀ R1 M1 K2 M2, RR z g1 R1 M1 → (∀ k, 246 ≤ k → k ≤ 245 + 4 * g → K2 k = K k) → (∀ k j, 246 ≤ k → k ≤ 245 + 4 * g → M2 k j = M k j) → M2 42 1 = M1 42 1 → LWL (bg_la la g 0 R1) K2 M2 lw A im) (k : mw_K X LX bc bs pc L st Q g u ov (fun la2 K2 M2 => MID la2 K2 M2 N lw A im t w f N0 lw0 A0 im0 t0 w0 f0)) : wx_K X LX bc bs pc L st Q g z g1 la K M u ov (RR z g1) N lw A im t w f N0 lw0 A0 im0 t0 w0 f0 :=
  fun R1 M1 K2 R2 M2 hrr hb2 eK eM e42 hv hC hF => k _ K2 R2 M2 hb2 ⟨hRA, hR.1, hL R1 M1 K2 M2 hrr eK eM e42, hC, hF⟩ hv
/-- a call on the class by one of the law's own methods -/
theorem mw_x (hb : bg g la K R M) (hg : g < 10000) (hR : REL la K M N0 lw0 A0 im0 t0 w0 f0) (hRA : RA N lw A im t w f) (h : gm_at 370 pc = some (.invokestatic ix)) (hc : gm_cal (gm_ow 370) ix = some (5, mj)) (hmx : gm_ow mj ≠ gm_mxi) (hhj : ¬ gm_hh mj = []) (hna : xs.length + 2 = gm_na mj) (hlen : xs.length + 2 ≤ gm_ml mj) (hst : (st.map gm_cat).sum ≤ 8) (s0 : ∀ S ∈ l0, ck_Ok p2_O X LX mj S) (s1 : ∀ S ∈ l1, ck_Ok p2_OL X LX mj S) (c0 : l0.all (w_x p2_O 0 0 1 true) = true) (c1 : l1.all (w_x p2_OL 246 1 1 true) = true) (v0 : bc_cov 60 ds (l0.map bc_box) = true) (v1 : bc_cov 60 ds (l1.map bc_box) = true) (hx : bc_in ds xs) (hi : ∀ x ∈ xs, gm_ir x) (hbc : 6 ≤ bc) (hbs : 600 ≤ bs) (hu : u = none ∨ ∃ x, u = some (gm_vi x))
    (hf : ∀ z g1, bs_ok la z g1 → ¬ z = 100003 → gm_Wp X LX 279 6 600 mj 0 (gm_ent mj (gm_vr 1 :: bc_as xs true)) [] (245 + 4 * g1) (bs_K la K) (bs_R z g1) (bs_M la M) (DQ (245 + 4 * g1) (bs_K la K) u ov (RR z g1) N lw A im t w f))
    (hRR : ∀ z g1 R1 M1, bs_ok la z g1 → RR z g1 R1 M1 → rvR z g1 R1) (hL : ∀ z g1 R1 M1 K2 M2, bs_ok la z g1 → RR z g1 R1 M1 → (∀ k, 246 ≤ k → k ≤ 245 + 4 * g → K2 k = K k) → (∀ k j, 246 ≤ k → k ≤ 245 + 4 * g → M2 k j = M k j) → M2 42 1 = M1 42 1 → LWL (bg_la la g 0 R1) K2 M2 lw A im)
    (k : mw_K X LX bc bs (pc + 3) L st Q g u ov (fun la2 K2 M2 => MID la2 K2 M2 N lw A im t w f N0 lw0 A0 im0 t0 w0 f0)) : gm_Wp X LX 280 bc bs 370 pc L (gm_vr 245 :: ((xs.map gm_vi).reverse ++ gm_vr 1 :: st)) (245 + 4 * g) K R M Q := by
  by_cases h3 : la 3 = 0
  · have hz : bs_ok la 0 0 := Or.inl ⟨rfl, rfl, h3⟩
    obtain ⟨S, hS, hin⟩ := mw_in v0 hx
    have hck := List.all_eq_true.mp c0 S hS
    have hk2 := wx_s hb hz hg (fun _ _ _ _ h => h) hck hRA hR.2.2.2 hu (fun R1 M1 h => hRR 0 0 R1 M1 hz h) (wx_go hR hRA (fun R1 M1 K2 M2 h a b c => hL 0 0 R1 M1 K2 M2 hz h a b c) k)
    simp only [w_x, bc_ok, Bool.and_eq_true, decide_eq_true_eq] at hck
    exact bc_statM (O := p2_O) (z := 0) (g1 := 0) (d' := 279) (bc' := 6) (bs' := 600) hb hz p2_nmu (bs_F0 hb) h hc hmx hhj hna hlen hst (s0 S hS) hck.1.1 hck.1.2.1 (by omega) (by omega) (by omega) (by decide) hbc hbs (fun σ => bc_gas2 hck.2.1 hin hi) (hf 0 0 hz (by decide)) hk2
  · have hz : bs_ok la 246 1 := Or.inr (Or.inr ⟨rfl, rfl, h3⟩)
    obtain ⟨S, hS, hin⟩ := mw_in v1 hx
    have hck := List.all_eq_true.mp c1 S hS
    have hk2 := wx_s hb hz hg (fun _ _ _ _ h => pl_o h) hck hRA hR.2.2.2 hu (fun R1 M1 h => hRR 246 1 R1 M1 hz h) (wx_go hR hRA (fun R1 M1 K2 M2 h a b c => hL 246 1 R1 M1 K2 M2 hz h a b c) k)
    simp only [w_x, bc_ok, Bool.and_eq_true, decide_eq_true_eq] at hck
    exact bc_statM (O := p2_OL) (z := 246) (g1 := 1) (d' := 279) (bc' := 6) (bs' := 600) hb hz pl_nmu (bs_F1 hb h3) h hc hmx hhj hna hlen hst (s1 S hS) hck.1.1 hck.1.2.1 (by omega) (by omega) (by omega) (by decide) hbc hbs (fun σ => bc_gas2 hck.2.1 hin hi) (hf 246 1 hz (by decide)) hk2
theorem mw_as (xs : List Int) : bc_as xs false = xs.map gm_vi := by simp [bc_as]
/-- a call on the class itself -/
theorem mw_d (hb : bg g la K R M) (hg : g < 10000) (hR : REL la K M N0 lw0 A0 im0 t0 w0 f0) (hRA : RA N lw A im t w f) (h : gm_at 370 pc = some (.invokevirtual ix)) (hc : gm_cal (gm_ow 370) ix = some (0, mj)) (hmx : gm_ow mj ≠ gm_mxi) (hcn : gm_cn 0 = (gm_mn mj).cls) (hna : xs.length = gm_na mj) (hlen : xs.length + 1 ≤ gm_ml mj) (hst : (st.map gm_cat).sum ≤ 8) (s0 : ∀ S ∈ l0, ck_Ok p2_O X LX mj S) (s1 : ∀ S ∈ l1, ck_Ok p2_OL X LX mj S) (c0 : l0.all (w_x p2_O 0 0 1 false) = true) (c1 : l1.all (w_x p2_OL 246 1 1 false) = true) (v0 : bc_cov 60 ds (l0.map bc_box) = true) (v1 : bc_cov 60 ds (l1.map bc_box) = true) (hx : bc_in ds xs) (hi : ∀ x ∈ xs, gm_ir x) (hbc : 6 ≤ bc) (hbs : 600 ≤ bs) (hu : u = none ∨ ∃ x, u = some (gm_vi x))
    (hf : ∀ z g1, bs_ok la z g1 → ¬ z = 100003 → gm_Wp X LX 279 6 600 mj 0 (gm_ent mj (gm_vr 1 :: xs.map gm_vi)) [] (245 + 4 * g1) (bs_K la K) (bs_R z g1) (bs_M la M) (DQ (245 + 4 * g1) (bs_K la K) u ov (RR z g1) N lw A im t w f))
    (hRR : ∀ z g1 R1 M1, bs_ok la z g1 → RR z g1 R1 M1 → rvR z g1 R1) (hL : ∀ z g1 R1 M1 K2 M2, bs_ok la z g1 → RR z g1 R1 M1 → (∀ k, 246 ≤ k → k ≤ 245 + 4 * g → K2 k = K k) → (∀ k j, 246 ≤ k → k ≤ 245 + 4 * g → M2 k j = M k j) → M2 42 1 = M1 42 1 → LWL (bg_la la g 0 R1) K2 M2 lw A im)
    (k : mw_K X LX bc bs (pc + 3) L st Q g u ov (fun la2 K2 M2 => MID la2 K2 M2 N lw A im t w f N0 lw0 A0 im0 t0 w0 f0)) : gm_Wp X LX 280 bc bs 370 pc L ((xs.map gm_vi).reverse ++ gm_vr 1 :: st) (245 + 4 * g) K R M Q := by
  have ea : ∀ {S : ck_Sum}, bc_args S 1 false = true → bc_in (bc_box S) xs → ∀ σ, ck_gas σ S.2.2.1 (gm_vr 1 :: xs.map gm_vi) := fun ha hin σ => by
    have := bc_gas2 (σ := σ) ha hin hi
    rwa [mw_as] at this
  by_cases h3 : la 3 = 0
  · have hz : bs_ok la 0 0 := Or.inl ⟨rfl, rfl, h3⟩
    obtain ⟨S, hS, hin⟩ := mw_in v0 hx
    have hck := List.all_eq_true.mp c0 S hS
    have hk2 := wx_s hb hz hg (fun _ _ _ _ h => h) hck hRA hR.2.2.2 hu (fun R1 M1 h => hRR 0 0 R1 M1 hz h) (wx_go hR hRA (fun R1 M1 K2 M2 h a b c => hL 0 0 R1 M1 K2 M2 hz h a b c) k)
    simp only [w_x, bc_ok, Bool.and_eq_true, decide_eq_true_eq] at hck
    exact bc_virtM (O := p2_O) (z := 0) (g1 := 0) (k1 := 1) (ci := 0) (d' := 279) (bc' := 6) (bs' := 600) hb hz p2_nmu (bs_F0 hb) ⟨by decide, by decide⟩ (mw_k1 hb).1 h hc hmx (by decide) hcn hna hlen hst (s0 S hS) hck.1.1 hck.1.2.1 (by omega) (by omega) (by omega) (by decide) hbc hbs (ea hck.2.1 hin) (hf 0 0 hz (by decide)) hk2
  · have hz : bs_ok la 246 1 := Or.inr (Or.inr ⟨rfl, rfl, h3⟩)
    obtain ⟨S, hS, hin⟩ := mw_in v1 hx
    have hck := List.all_eq_true.mp c1 S hS
    have hk2 := wx_s hb hz hg (fun _ _ _ _ h => pl_o h) hck hRA hR.2.2.2 hu (fun R1 M1 h => hRR 246 1 R1 M1 hz h) (wx_go hR hRA (fun R1 M1 K2 M2 h a b c => hL 246 1 R1 M1 K2 M2 hz h a b c) k)
    simp only [w_x, bc_ok, Bool.and_eq_true, decide_eq_true_eq] at hck
    exact bc_virtM (O := p2_OL) (z := 246) (g1 := 1) (k1 := 1) (ci := 0) (d' := 279) (bc' := 6) (bs' := 600) hb hz pl_nmu (bs_F1 hb h3) ⟨by decide, by decide⟩ (mw_k1 hb).1 h hc hmx (by decide) hcn hna hlen hst (s1 S hS) hck.1.1 hck.1.2.1 (by omega) (by omega) (by omega) (by decide) hbc hbs (ea hck.2.1 hin) (hf 246 1 hz (by decide)) hk2
/-- behind a call on the reference -/
def mm_K (X : Int → Int) (LX bc bs pc : Nat) (L : gm_L) (st : List gm_V) (Q : gm_Q) (g : Nat) (M : gm_M) (P : Option gm_V → Prop) (oc : Option Int) (RL : (Nat → Nat) → gm_K → gm_M → Prop) : Prop := ∀ (u : Option gm_V) (la2 : Nat → Nat) (K2 : gm_K) (R2 : gm_R) (M2 : gm_M), P u → bg g la2 K2 R2 M2 → RL la2 K2 M2 → M2 245 0 = M 245 0 → (∀ c, oc = some c → M2 226 0 = c) → gm_Wp X LX 280 (bc - 6) (bs - 600) 370 pc L (u.toList ++ st) (245 + 4 * g) K2 R2 M2 Q
theorem mw_m (hb : bg g la K R M) (hg : g < 10000) (hR : MID la K M N lw A im t w f N0 lw0 A0 im0 t0 w0 f0) (h : gm_at 370 pc = some (.invokevirtual ix)) (hc : gm_cal (gm_ow 370) ix = some (0, mj)) (hmx : gm_ow mj ≠ gm_mxi) (hcn : gm_cn 11 = (gm_mn mj).cls) (hna : xs.length = gm_na mj) (hlen : xs.length + 1 ≤ gm_ml mj) (hst : (st.map gm_cat).sum ≤ 8) (s0 : ∀ S ∈ l, ck_Ok p2_O X LX mj S) (c0 : l.all w_m = true) (v0 : bc_cov 60 ds (l.map bc_box) = true) (hx : bc_in ds xs) (hi : ∀ x ∈ xs, gm_ir x) (hbc : 6 ≤ bc) (hbs : 600 ≤ bs) (hP : ∀ u, P u → u = none ∨ ∃ x, u = some (gm_vi x))
    (hf : gm_Wp X LX 279 6 600 mj 0 (gm_ent mj (gm_vr 226 :: xs.map gm_vi)) [] 245 (bs_K la K) (bs_R 100003 0) (bs_M la M) (RDQ 245 (bs_K la K) (bs_R 100003 0) P oc N lw A im t w f))
    (k : mm_K X LX bc bs (pc + 3) L st Q g M P oc (fun la2 K2 M2 => REL la2 K2 M2 N lw A im t w f)) : gm_Wp X LX 280 bc bs 370 pc L ((xs.map gm_vi).reverse ++ gm_vr 226 :: st) (245 + 4 * g) K R M Q := by
  have ea : ∀ {S : ck_Sum}, bc_args S 226 false = true → bc_in (bc_box S) xs → ∀ σ, ck_gas σ S.2.2.1 (gm_vr 226 :: xs.map gm_vi) := fun ha hin σ => by
    have := bc_gas2 (σ := σ) ha hin hi
    rwa [mw_as] at this
  obtain ⟨hRA, hRA0, hLW, hC, hRf⟩ := hR
  have hl := hb.2.2.2
  obtain ⟨S, hS, hin⟩ := mw_in v0 hx
  have hck := List.all_eq_true.mp c0 S hS
  have hk2 := wm_s (st := st) (L := L) (Q := Q) (X := X) (LX := LX) (pc := pc + 3) (bc := bc) (bs := bs) (P := P) (oc := oc) hb hg hck hRA hC hP (fun u la2 K2 R2 M2 hu e hb2 eK eM e42 e245 hcc hC2 hF2 => k u la2 K2 R2 M2 hu hb2 ⟨hRA, lwl_e hLW hl e e42 eK eM, hC2, hF2⟩ e245 hcc)
  simp only [w_m, bc_ok, Bool.and_eq_true, decide_eq_true_eq] at hck
  exact bc_virtM (O := p2_O) (z := 100003) (g1 := 0) (k1 := 226) (ci := 11) (d' := 279) (bc' := 6) (bs' := 600) hb (Or.inr (Or.inl ⟨rfl, rfl⟩)) p2_nmu (bs_F0 hb) ⟨by decide, by decide⟩ (mw_k1 hb).2 h hc hmx (by decide) hcn hna hlen hst (s0 S hS) hck.1.1 hck.1.2.1 (by omega) (by omega) (by omega) (by decide) hbc hbs (ea hck.2.1 hin) hf hk2
end MWX
end MW16
end
/-! 7c17.op -/
section
/-! THE ACTS, told of the world. -/
section OP17
variable {X : Int → Int} {LX : Nat} {g z g1 n : Nat} {la la2 : Nat → Nat} {K K1 K2 : gm_K} {R R1 R2 : gm_R} {M M1 M2 : gm_M} {L : gm_L} {st : List gm_V} {Q : gm_Q} {N N0 : Int → Int} {lw lw0 : Option (List lln)} {A A0 A' : List (Int → Int)} {im im0 : Option ((Int → Int) × Option (List lln))} {t w t0 w0 : Int} {f f0 : Int → Int} {o : gm_O} {n1 : Nat}
theorem rv_step (hz : bs_ok la z g1) (h : STEP (bs_R z g1) R1 M M1 A A') : rvR z g1 R1 := by
  rcases h with ⟨rfl, -⟩ | ⟨p, hp, -, rfl, -⟩ | ⟨p, hp, -, rfl, -⟩
  · exact rvR_0 hz
  · exact rvR_u (rvR_0 hz) (slot_s hp) (by decide)
  · exact rvR_u (rvR_0 hz) (by decide) (slot_s hp)
theorem rv_v (hz : bs_ok la z g1) (h : R1 = gm_uR (bs_R z g1) 16 8 (bs_R z g1 3 8) ∨ R1 = gm_uR (gm_uR (bs_R z g1) 16 8 (bs_R z g1 3 8)) 3 8 ((gm_uR (bs_R z g1) 16 8 (bs_R z g1 3 8)) 16 8)) : rvR z g1 R1 := by
  have h16 : rvR z g1 (gm_uR (bs_R z g1) 16 8 (bs_R z g1 3 8)) := rvR_u (rvR_0 hz) (by decide) (by decide)
  rcases h with rfl | rfl
  · exact h16
  · exact rvR_u h16 (by decide) (by decide)
/-- what may come of a call: an answer, or which refusal -/
def oV (c v : Int) : Option Int := if c = 0 then some v else none
def PV (c v : Int) : Option gm_V → Prop := fun u => ∃ x, u = some (gm_vi x) ∧ (c = 0 → x = v)
def PU (u0 : Option gm_V) : Option gm_V → Prop := fun u => u = u0
theorem pv_u {c v : Int} : ∀ u, PV c v u → u = none ∨ ∃ x, u = some (gm_vi x) := fun u ⟨x, e, _⟩ => Or.inr ⟨x, e⟩
theorem oV_s {c v y : Int} (h : oV c v = some y) : c = 0 ∧ y = v := by
  unfold oV at h
  by_cases e : c = 0
  · rw [if_pos e] at h
    cases h
    exact ⟨e, rfl⟩
  · rw [if_neg e] at h
    cases h
theorem dq_aq {r : Int × Int × (Int → Int) × List (Int → Int)} (h : AQ n K R M r lw im t w f A o n1 K1 R1 M1) : DQ n K (some (gm_vi r.1)) (oV r.1 r.2.1) (fun R1 M1 => STEP R R1 M M1 A r.2.2.2) r.2.2.1 lw r.2.2.2 im t w f o n1 K1 R1 M1 :=
  ⟨⟨h.1.1, h.1.2.1⟩, h.2.1, fun v hv => by
    obtain ⟨e1, e2⟩ := oV_s hv
    rw [e2]
    exact h.2.2.1 e1, h.2.2.2.1, h.2.2.2.2⟩
theorem rd_rq {r : Int × Int × (Int → Int) × List (Int → Int)} (hc : gm_ir r.1) (h : RQ n K R r lw im t w f o n1 K1 R1 M1) : RDQ n K R (PV r.1 r.2.1) (some r.1) r.2.2.1 lw r.2.2.2 im t w f o n1 K1 R1 M1 := by
  obtain ⟨h1, ⟨v, h2, h3⟩, h4, h5⟩ := h
  exact ⟨h1, ⟨_, h2, v, rfl, h3⟩, fun c e => by cases e; exact ⟨hc, h4⟩, h5⟩
theorem rd_rc {u : Option gm_V} (h : RC n K R (.inl u) N lw A im t w f o n1 K1 R1 M1) : RDQ n K R (PU u) none N lw A im t w f o n1 K1 R1 M1 :=
  ⟨h.1, ⟨u, h.2.1, rfl⟩, (fun c e => nomatch e), h.2.2⟩
theorem rd_rv {c v : Int} (hc : gm_ir c) (h : RV n K R c v N lw A im t w f o n1 K1 R1 M1) : RDQ n K R (PV c v) (some c) N lw A im t w f o n1 K1 R1 M1 := by
  obtain ⟨h1, ⟨v, h2, h3⟩, h4, h5⟩ := h
  exact ⟨h1, ⟨_, h2, v, rfl, h3⟩, fun c e => by cases e; exact ⟨hc, h4⟩, h5⟩
theorem dq_cq {u : Option gm_V} {RR : gm_R → gm_M → Prop} (h : CQ n K M (.inl u) RR N lw A im t w f o n1 K1 R1 M1) : DQ n K u none RR N lw A im t w f o n1 K1 R1 M1 :=
  ⟨⟨h.1.1, h.1.2.1⟩, h.2.1, (fun v e => nomatch e), h.2.2.1, h.2.2.2⟩
theorem dq_vq {r : Int × Int × (Int → Int) × List (Int → Int) × Int} (h : VQ n K R M r lw im f o n1 K1 R1 M1) : DQ n K (some (gm_vi r.1)) (oV r.1 r.2.1) (fun R1 M1 => M1 42 1 = M 42 1 ∧ (R1 = gm_uR R 16 8 (R 3 8) ∨ R1 = gm_uR (gm_uR R 16 8 (R 3 8)) 3 8 ((gm_uR R 16 8 (R 3 8)) 16 8))) r.2.2.1 lw r.2.2.2.1 im 0 r.2.2.2.2 f o n1 K1 R1 M1 :=
  ⟨⟨h.1.1, h.1.2.1⟩, h.2.1, fun v hv => by
    obtain ⟨e1, e2⟩ := oV_s hv
    rw [e2]
    exact h.2.2.1 e1, h.2.2.2.1, h.2.2.2.2⟩
theorem k245 (hE : E0 n K R) : 245 ≤ n ∧ K 245 = (2, 1) := ⟨(hE.1 245 (2, 1) (by decide +kernel)).1.2, (hE.1 245 (2, 1) (by decide +kernel)).2⟩
theorem k1_e (hE : E0 n K R) : (1 ≤ 1 ∧ 1 ≤ n) ∧ (K 1).1 = 0 + 4 := e0k hE (k := 1) (c := 0) (by decide +kernel)
theorem ns6_c : (List.range 8).all (fun s => (match gm_tyr p2_O 227 (15 + 7 * (s : Int)) (15 + 7 * (s : Int)) with
  | some q => decide (0 ≤ q.1 ∧ q.2 ≤ 98)
  | none => false) && (match gm_tyr p2_O 227 (16 + 7 * (s : Int)) (21 + 7 * (s : Int)) with
  | some q => decide (0 ≤ q.1 ∧ q.2 ≤ 20)
  | none => false)) = true := by decide +kernel
/-- speeds of all LANES that there may be -/
theorem ns6 (hF : gm_Fx p2_O n K R M) (hT : ws (M 227) = N) (hN : NR N) : NSb 6 N := fun s s0 s1 => by
  have h2 := hN.2.1.1
  obtain ⟨u, rfl⟩ : ∃ u : Nat, s = (u : Int) := ⟨s.toNat, by omega⟩
  have hc := List.all_eq_true.mp ns6_c u (List.mem_range.mpr (by omega))
  simp only [Bool.and_eq_true] at hc
  have e : ∀ j : Int, 0 ≤ j → j < 395 → ¬ j = 8 → N j = M 227 j := fun j j0 j1 j8 => by
    rw [← hT]
    exact if_pos ⟨j0, j1, j8⟩
  obtain ⟨c1, c2⟩ := hc
  constructor
  · cases h : gm_tyr p2_O 227 (15 + 7 * (u : Int)) (15 + 7 * (u : Int)) with
    | none => rw [h] at c1; cases c1
    | some q =>
      rw [h] at c1
      have c1 := of_decide_eq_true c1
      have := ((gm_tyr_s hF h).2 (15 + 7 * (u : Int)) (Int.le_refl _) (Int.le_refl _)).2
      rw [e _ (by omega) (by omega) (by omega)]
      omega
  · intro l l0 l1
    cases h : gm_tyr p2_O 227 (16 + 7 * (u : Int)) (21 + 7 * (u : Int)) with
    | none => rw [h] at c2; cases c2
    | some q =>
      rw [h] at c2
      have c2 := of_decide_eq_true c2
      have := ((gm_tyr_s hF h).2 (15 + 7 * (u : Int) + 1 + l) (by omega) (by omega)).2
      rw [e _ (by omega) (by omega) (by omega)]
      omega
theorem gJ_w (hb : bg g la K R M) : jT fun j => bs_M la M 227 (395 + j) := (bs_F0 (z := 100003) hb).2.2.2.2.2.2.1

section OPX
variable {bc bs pc ix : Nat} {l0 l1 l9 : List ck_Sum} {ds : List (Int × Int)} {a b p l y x : Int}
theorem ic_post : gm_ir (ap_post N A a b).1 := by
  have T : ∀ {P : Prop} {u v : Int × Int × (Int → Int) × List (Int → Int)}, gm_ir u.1 → gm_ir v.1 → gm_ir (tif P u v).1 := fun hu hv => tif_i (C := fun q : Int × Int × (Int → Int) × List (Int → Int) => gm_ir q.1) hu hv
  unfold ap_post
  exact T (show (-2147483648 : Int) ≤ 1 ∧ (1 : Int) < 2147483648 from by decide) (T (show (-2147483648 : Int) ≤ 2 ∧ (2 : Int) < 2147483648 from by decide) (T (show (-2147483648 : Int) ≤ 3 ∧ (3 : Int) < 2147483648 from by decide) ((show (-2147483648 : Int) ≤ 0 ∧ (0 : Int) < 2147483648 from by decide))))
theorem ow_post (hb : bg g la K R M) (hg : g < 10000) (hR : REL la K M N lw A im t w f) (h : gm_at 370 pc = some (.invokestatic ix)) (hc : gm_cal (gm_ow 370) ix = some (5, 151)) (hst : (st.map gm_cat).sum ≤ 8) (s0 : ∀ S ∈ l0, ck_Ok p2_O X LX 151 S) (s1 : ∀ S ∈ l1, ck_Ok p2_OL X LX 151 S) (c0 : l0.all (w_x p2_O 0 0 1 true) = true) (c1 : l1.all (w_x p2_OL 246 1 1 true) = true) (v0 : bc_cov 60 ds (l0.map bc_box) = true) (v1 : bc_cov 60 ds (l1.map bc_box) = true) (hx : bc_in ds [a, b]) (ha : gm_ir a) (hb2 : gm_ir b) (hbc : 6 ≤ bc) (hbs : 600 ≤ bs) (k : mw_K X LX bc bs (pc + 3) L st Q g (some (gm_vi (ap_post N A a b).1)) (oV (ap_post N A a b).1 (ap_post N A a b).2.1) (fun la2 K2 M2 => MID la2 K2 M2 (ap_post N A a b).2.2.1 lw (ap_post N A a b).2.2.2 im t w f N lw A im t w f)) : gm_Wp X LX 280 bc bs 370 pc L (gm_vr 245 :: gm_vi b :: gm_vi a :: gm_vr 1 :: st) (245 + 4 * g) K R M Q := by
  refine mw_x (xs := [a, b]) (mj := 151) (u := some (gm_vi (ap_post N A a b).1)) (ov := oV (ap_post N A a b).1 (ap_post N A a b).2.1) (RR := fun z g1 R1 M1 => STEP (bs_R z g1) R1 (bs_M la M) M1 A (ap_post N A a b).2.2.2) hb hg hR (ra_post hR.1 ha hb2) h hc (by decide +kernel) (by decide +kernel) (show 2 + 2 = gm_na 151 by decide +kernel) (show 2 + 2 ≤ gm_ml 151 by decide +kernel) hst s0 s1 c0 c1 v0 v1 hx (by intro v hv; simp only [List.mem_cons, List.not_mem_nil, or_false] at hv; rcases hv with rfl | rfl <;> assumption) hbc hbs (Or.inr ⟨_, rfl⟩) (fun z g1 hz hz3 => ?_) (fun z g1 R1 M1 hz hs => rv_step hz hs) (fun z g1 R1 M1 K2 M2 hz hs eK eM e42 => lwl_step hR.2.1 hb.2.2.2 hz hs e42 eK eM) k
  have hE := e0_w hb hz
  exact hl_151 (k1_e hE) (gm_Wp_mono (fun o n1 K1 R1 M1 hq => ⟨hq.1, hq.2.imp (fun ⟨v, e, q⟩ => ⟨v, e, dq_aq q⟩) (fun ⟨i, hi, e, q⟩ => ⟨i, hi, e, dq_aq q⟩)⟩) (ca_post (d := 278) (bc := 6) (bs := 600) (by decide) (by decide) (by decide) hE (k245 hE).1 (k245 hE).2 hR.1.1 (clv_w hb hR.2.2.1) ha hb2))
theorem om_post (hb : bg g la K R M) (hg : g < 10000) (hR : MID la K M (ap_post N A a b).2.2.1 lw (ap_post N A a b).2.2.2 im t w f N lw A im t w f) (h : gm_at 370 pc = some (.invokevirtual ix)) (hc : gm_cal (gm_ow 370) ix = some (0, 315)) (hst : (st.map gm_cat).sum ≤ 8) (s0 : ∀ S ∈ l9, ck_Ok p2_O X LX 315 S) (c0 : l9.all w_m = true) (v0 : bc_cov 60 ds (l9.map bc_box) = true) (hx : bc_in ds [a, b]) (ha : gm_ir a) (hb2 : gm_ir b) (hbc : 6 ≤ bc) (hbs : 600 ≤ bs) (k : mm_K X LX bc bs (pc + 3) L st Q g M (PV (ap_post N A a b).1 (ap_post N A a b).2.1) (some (ap_post N A a b).1) (fun la2 K2 M2 => REL la2 K2 M2 (ap_post N A a b).2.2.1 lw (ap_post N A a b).2.2.2 im t w f)) : gm_Wp X LX 280 bc bs 370 pc L (gm_vi b :: gm_vi a :: gm_vr 226 :: st) (245 + 4 * g) K R M Q := by
  refine mw_m (xs := [a, b]) (mj := 315) (P := PV (ap_post N A a b).1 (ap_post N A a b).2.1) (oc := some (ap_post N A a b).1) hb hg hR h hc (by decide +kernel) (by decide +kernel) (show 2 = gm_na 315 by decide +kernel) (show 2 + 1 ≤ gm_ml 315 by decide +kernel) hst s0 c0 v0 hx (by intro v hv; simp only [List.mem_cons, List.not_mem_nil, or_false] at hv; rcases hv with rfl | rfl <;> assumption) hbc hbs pv_u ?_ k
  exact gm_Wp_mono (fun o n1 K1 R1 M1 hq => rd_rq ic_post hq) (rr_post (by decide) (e0_w hb (Or.inr (Or.inl ⟨rfl, rfl⟩))) hR.2.1.1 (rfv_w hR.2.2.2.2) ha hb2)
theorem ic_watch : gm_ir (ap_watch N A p l).1 := by
  have T : ∀ {P : Prop} {u v : Int × Int × (Int → Int) × List (Int → Int)}, gm_ir u.1 → gm_ir v.1 → gm_ir (tif P u v).1 := fun hu hv => tif_i (C := fun q : Int × Int × (Int → Int) × List (Int → Int) => gm_ir q.1) hu hv
  unfold ap_watch
  exact T (show (-2147483648 : Int) ≤ 1 ∧ (1 : Int) < 2147483648 from by decide) ((show (-2147483648 : Int) ≤ 0 ∧ (0 : Int) < 2147483648 from by decide))
theorem ow_watch (hb : bg g la K R M) (hg : g < 10000) (hR : REL la K M N lw A im t w f) (h : gm_at 370 pc = some (.invokestatic ix)) (hc : gm_cal (gm_ow 370) ix = some (5, 155)) (hst : (st.map gm_cat).sum ≤ 8) (s0 : ∀ S ∈ l0, ck_Ok p2_O X LX 155 S) (s1 : ∀ S ∈ l1, ck_Ok p2_OL X LX 155 S) (c0 : l0.all (w_x p2_O 0 0 1 true) = true) (c1 : l1.all (w_x p2_OL 246 1 1 true) = true) (v0 : bc_cov 60 ds (l0.map bc_box) = true) (v1 : bc_cov 60 ds (l1.map bc_box) = true) (hx : bc_in ds [p, l]) (hp : gm_ir p) (hl : gm_ir l) (hbc : 6 ≤ bc) (hbs : 600 ≤ bs) (k : mw_K X LX bc bs (pc + 3) L st Q g (some (gm_vi (ap_watch N A p l).1)) (oV (ap_watch N A p l).1 (ap_watch N A p l).2.1) (fun la2 K2 M2 => MID la2 K2 M2 (ap_watch N A p l).2.2.1 lw (ap_watch N A p l).2.2.2 im t w f N lw A im t w f)) : gm_Wp X LX 280 bc bs 370 pc L (gm_vr 245 :: gm_vi l :: gm_vi p :: gm_vr 1 :: st) (245 + 4 * g) K R M Q := by
  refine mw_x (xs := [p, l]) (mj := 155) (u := some (gm_vi (ap_watch N A p l).1)) (ov := oV (ap_watch N A p l).1 (ap_watch N A p l).2.1) (RR := fun z g1 R1 M1 => STEP (bs_R z g1) R1 (bs_M la M) M1 A (ap_watch N A p l).2.2.2) hb hg hR (ra_watch hR.1 hl) h hc (by decide +kernel) (by decide +kernel) (show 2 + 2 = gm_na 155 by decide +kernel) (show 2 + 2 ≤ gm_ml 155 by decide +kernel) hst s0 s1 c0 c1 v0 v1 hx (by intro v hv; simp only [List.mem_cons, List.not_mem_nil, or_false] at hv; rcases hv with rfl | rfl <;> assumption) hbc hbs (Or.inr ⟨_, rfl⟩) (fun z g1 hz hz3 => ?_) (fun z g1 R1 M1 hz hs => rv_step hz hs) (fun z g1 R1 M1 K2 M2 hz hs eK eM e42 => lwl_step hR.2.1 hb.2.2.2 hz hs e42 eK eM) k
  have hE := e0_w hb hz
  exact hl_155 (k1_e hE) (gm_Wp_mono (fun o n1 K1 R1 M1 hq => ⟨hq.1, hq.2.imp (fun ⟨v, e, q⟩ => ⟨v, e, dq_aq q⟩) (fun ⟨i, hi, e, q⟩ => ⟨i, hi, e, dq_aq q⟩)⟩) (ca_watch (d := 278) (bc := 6) (bs := 600) (by decide) (by decide) (by decide) hE (k245 hE).1 (k245 hE).2 hR.1.1 (clv_w hb hR.2.2.1) hp hl))
theorem om_watch (hb : bg g la K R M) (hg : g < 10000) (hR : MID la K M (ap_watch N A p l).2.2.1 lw (ap_watch N A p l).2.2.2 im t w f N lw A im t w f) (h : gm_at 370 pc = some (.invokevirtual ix)) (hc : gm_cal (gm_ow 370) ix = some (0, 317)) (hst : (st.map gm_cat).sum ≤ 8) (s0 : ∀ S ∈ l9, ck_Ok p2_O X LX 317 S) (c0 : l9.all w_m = true) (v0 : bc_cov 60 ds (l9.map bc_box) = true) (hx : bc_in ds [p, l]) (hp : gm_ir p) (hl : gm_ir l) (hbc : 6 ≤ bc) (hbs : 600 ≤ bs) (k : mm_K X LX bc bs (pc + 3) L st Q g M (PV (ap_watch N A p l).1 (ap_watch N A p l).2.1) (some (ap_watch N A p l).1) (fun la2 K2 M2 => REL la2 K2 M2 (ap_watch N A p l).2.2.1 lw (ap_watch N A p l).2.2.2 im t w f)) : gm_Wp X LX 280 bc bs 370 pc L (gm_vi l :: gm_vi p :: gm_vr 226 :: st) (245 + 4 * g) K R M Q := by
  refine mw_m (xs := [p, l]) (mj := 317) (P := PV (ap_watch N A p l).1 (ap_watch N A p l).2.1) (oc := some (ap_watch N A p l).1) hb hg hR h hc (by decide +kernel) (by decide +kernel) (show 2 = gm_na 317 by decide +kernel) (show 2 + 1 ≤ gm_ml 317 by decide +kernel) hst s0 c0 v0 hx (by intro v hv; simp only [List.mem_cons, List.not_mem_nil, or_false] at hv; rcases hv with rfl | rfl <;> assumption) hbc hbs pv_u ?_ k
  exact gm_Wp_mono (fun o n1 K1 R1 M1 hq => rd_rq ic_watch hq) (rr_watch (by decide) (e0_w hb (Or.inr (Or.inl ⟨rfl, rfl⟩))) hR.2.1.1 (rfv_w hR.2.2.2.2) hp hl)
theorem ic_open : gm_ir (ap_open lw N A l).1 := by
  have T : ∀ {P : Prop} {u v : Int × Int × (Int → Int) × List (Int → Int)}, gm_ir u.1 → gm_ir v.1 → gm_ir (tif P u v).1 := fun hu hv => tif_i (C := fun q : Int × Int × (Int → Int) × List (Int → Int) => gm_ir q.1) hu hv
  unfold ap_open
  exact T (show (-2147483648 : Int) ≤ 1 ∧ (1 : Int) < 2147483648 from by decide) (T (show (-2147483648 : Int) ≤ 2 ∧ (2 : Int) < 2147483648 from by decide) ((show (-2147483648 : Int) ≤ 0 ∧ (0 : Int) < 2147483648 from by decide)))
theorem ow_open (hb : bg g la K R M) (hg : g < 10000) (hR : REL la K M N lw A im t w f) (h : gm_at 370 pc = some (.invokestatic ix)) (hc : gm_cal (gm_ow 370) ix = some (5, 157)) (hst : (st.map gm_cat).sum ≤ 8) (s0 : ∀ S ∈ l0, ck_Ok p2_O X LX 157 S) (s1 : ∀ S ∈ l1, ck_Ok p2_OL X LX 157 S) (c0 : l0.all (w_x p2_O 0 0 1 true) = true) (c1 : l1.all (w_x p2_OL 246 1 1 true) = true) (v0 : bc_cov 60 ds (l0.map bc_box) = true) (v1 : bc_cov 60 ds (l1.map bc_box) = true) (hx : bc_in ds [l]) (hl : gm_ir l) (hbc : 6 ≤ bc) (hbs : 600 ≤ bs) (k : mw_K X LX bc bs (pc + 3) L st Q g (some (gm_vi (ap_open lw N A l).1)) (oV (ap_open lw N A l).1 (ap_open lw N A l).2.1) (fun la2 K2 M2 => MID la2 K2 M2 (ap_open lw N A l).2.2.1 lw (ap_open lw N A l).2.2.2 im t w f N lw A im t w f)) : gm_Wp X LX 280 bc bs 370 pc L (gm_vr 245 :: gm_vi l :: gm_vr 1 :: st) (245 + 4 * g) K R M Q := by
  refine mw_x (xs := [l]) (mj := 157) (u := some (gm_vi (ap_open lw N A l).1)) (ov := oV (ap_open lw N A l).1 (ap_open lw N A l).2.1) (RR := fun z g1 R1 M1 => STEP (bs_R z g1) R1 (bs_M la M) M1 A (ap_open lw N A l).2.2.2) hb hg hR (ra_open hR.1) h hc (by decide +kernel) (by decide +kernel) (show 1 + 2 = gm_na 157 by decide +kernel) (show 1 + 2 ≤ gm_ml 157 by decide +kernel) hst s0 s1 c0 c1 v0 v1 hx (by intro v hv; simp only [List.mem_cons, List.not_mem_nil, or_false] at hv; rcases hv with rfl <;> assumption) hbc hbs (Or.inr ⟨_, rfl⟩) (fun z g1 hz hz3 => ?_) (fun z g1 R1 M1 hz hs => rv_step hz hs) (fun z g1 R1 M1 K2 M2 hz hs eK eM e42 => lwl_step hR.2.1 hb.2.2.2 hz hs e42 eK eM) k
  have hE := e0_w hb hz
  obtain ⟨NC, C, Ln, hcc, hlb⟩ := cc_w hb hz hz3 hR.2.1.1 hR.2.2.2.1.2.1
  exact hl_157 (k1_e hE) (gm_Wp_mono (fun o n1 K1 R1 M1 hq => ⟨hq.1, hq.2.imp (fun ⟨v, e, q⟩ => ⟨v, e, dq_aq q⟩) (fun ⟨i, hi, e, q⟩ => ⟨i, hi, e, dq_aq q⟩)⟩) (ca_open (d := 278) (bc := 6) (bs := 600) (by decide) (by decide) (by decide) hE (k245 hE).1 (k245 hE).2 hcc hlb hR.1.1 (clv_w hb hR.2.2.1) hl))
theorem om_open (hb : bg g la K R M) (hg : g < 10000) (hR : MID la K M (ap_open lw N A l).2.2.1 lw (ap_open lw N A l).2.2.2 im t w f N lw A im t w f) (h : gm_at 370 pc = some (.invokevirtual ix)) (hc : gm_cal (gm_ow 370) ix = some (0, 318)) (hst : (st.map gm_cat).sum ≤ 8) (s0 : ∀ S ∈ l9, ck_Ok p2_O X LX 318 S) (c0 : l9.all w_m = true) (v0 : bc_cov 60 ds (l9.map bc_box) = true) (hx : bc_in ds [l]) (hl : gm_ir l) (hbc : 6 ≤ bc) (hbs : 600 ≤ bs) (k : mm_K X LX bc bs (pc + 3) L st Q g M (PV (ap_open lw N A l).1 (ap_open lw N A l).2.1) (some (ap_open lw N A l).1) (fun la2 K2 M2 => REL la2 K2 M2 (ap_open lw N A l).2.2.1 lw (ap_open lw N A l).2.2.2 im t w f)) : gm_Wp X LX 280 bc bs 370 pc L (gm_vi l :: gm_vr 226 :: st) (245 + 4 * g) K R M Q := by
  refine mw_m (xs := [l]) (mj := 318) (P := PV (ap_open lw N A l).1 (ap_open lw N A l).2.1) (oc := some (ap_open lw N A l).1) hb hg hR h hc (by decide +kernel) (by decide +kernel) (show 1 = gm_na 318 by decide +kernel) (show 1 + 1 ≤ gm_ml 318 by decide +kernel) hst s0 c0 v0 hx (by intro v hv; simp only [List.mem_cons, List.not_mem_nil, or_false] at hv; rcases hv with rfl <;> assumption) hbc hbs pv_u ?_ k
  exact gm_Wp_mono (fun o n1 K1 R1 M1 hq => rd_rq ic_open hq) (rr_open (by decide) (e0_w hb (Or.inr (Or.inl ⟨rfl, rfl⟩))) (gJ_w hb) (ns6 (bs_F0 (z := 100003) hb) (rfv_w (la := la) hR.2.2.2.2).1.1.1 hR.2.1.1.1.1) hR.2.1.1 (rfv_w hR.2.2.2.2) hl)
theorem ic_years : gm_ir (ap_years lw N A y).1 := by
  have T : ∀ {P : Prop} {u v : Int × Int × (Int → Int) × List (Int → Int)}, gm_ir u.1 → gm_ir v.1 → gm_ir (tif P u v).1 := fun hu hv => tif_i (C := fun q : Int × Int × (Int → Int) × List (Int → Int) => gm_ir q.1) hu hv
  unfold ap_years
  exact T (show (-2147483648 : Int) ≤ 1 ∧ (1 : Int) < 2147483648 from by decide) ((show (-2147483648 : Int) ≤ 0 ∧ (0 : Int) < 2147483648 from by decide))
theorem ow_years (hb : bg g la K R M) (hg : g < 10000) (hR : REL la K M N lw A im t w f) (h : gm_at 370 pc = some (.invokestatic ix)) (hc : gm_cal (gm_ow 370) ix = some (5, 160)) (hst : (st.map gm_cat).sum ≤ 8) (s0 : ∀ S ∈ l0, ck_Ok p2_O X LX 160 S) (s1 : ∀ S ∈ l1, ck_Ok p2_OL X LX 160 S) (c0 : l0.all (w_x p2_O 0 0 1 true) = true) (c1 : l1.all (w_x p2_OL 246 1 1 true) = true) (v0 : bc_cov 60 ds (l0.map bc_box) = true) (v1 : bc_cov 60 ds (l1.map bc_box) = true) (hx : bc_in ds [y]) (hy : gm_ir y) (hbc : 6 ≤ bc) (hbs : 600 ≤ bs) (k : mw_K X LX bc bs (pc + 3) L st Q g (some (gm_vi (ap_years lw N A y).1)) (oV (ap_years lw N A y).1 (ap_years lw N A y).2.1) (fun la2 K2 M2 => MID la2 K2 M2 (ap_years lw N A y).2.2.1 lw (ap_years lw N A y).2.2.2 im t w f N lw A im t w f)) : gm_Wp X LX 280 bc bs 370 pc L (gm_vr 245 :: gm_vi y :: gm_vr 1 :: st) (245 + 4 * g) K R M Q := by
  refine mw_x (xs := [y]) (mj := 160) (u := some (gm_vi (ap_years lw N A y).1)) (ov := oV (ap_years lw N A y).1 (ap_years lw N A y).2.1) (RR := fun z g1 R1 M1 => STEP (bs_R z g1) R1 (bs_M la M) M1 A (ap_years lw N A y).2.2.2) hb hg hR (ra_years hR.1) h hc (by decide +kernel) (by decide +kernel) (show 1 + 2 = gm_na 160 by decide +kernel) (show 1 + 2 ≤ gm_ml 160 by decide +kernel) hst s0 s1 c0 c1 v0 v1 hx (by intro v hv; simp only [List.mem_cons, List.not_mem_nil, or_false] at hv; rcases hv with rfl <;> assumption) hbc hbs (Or.inr ⟨_, rfl⟩) (fun z g1 hz hz3 => ?_) (fun z g1 R1 M1 hz hs => rv_step hz hs) (fun z g1 R1 M1 K2 M2 hz hs eK eM e42 => lwl_step hR.2.1 hb.2.2.2 hz hs e42 eK eM) k
  have hE := e0_w hb hz
  obtain ⟨NC, C, Ln, hcc, hlb⟩ := cc_w hb hz hz3 hR.2.1.1 hR.2.2.2.1.2.1
  exact hl_160 (k1_e hE) (gm_Wp_mono (fun o n1 K1 R1 M1 hq => ⟨hq.1, hq.2.imp (fun ⟨v, e, q⟩ => ⟨v, e, dq_aq q⟩) (fun ⟨i, hi, e, q⟩ => ⟨i, hi, e, dq_aq q⟩)⟩) (ca_years (d := 278) (bc := 6) (bs := 600) (by decide) (by decide) (by decide) hE (k245 hE).1 (k245 hE).2 hcc hlb hR.1.1 (clv_w hb hR.2.2.1) hy))
theorem om_years (hb : bg g la K R M) (hg : g < 10000) (hR : MID la K M (ap_years lw N A y).2.2.1 lw (ap_years lw N A y).2.2.2 im t w f N lw A im t w f) (h : gm_at 370 pc = some (.invokevirtual ix)) (hc : gm_cal (gm_ow 370) ix = some (0, 320)) (hst : (st.map gm_cat).sum ≤ 8) (s0 : ∀ S ∈ l9, ck_Ok p2_O X LX 320 S) (c0 : l9.all w_m = true) (v0 : bc_cov 60 ds (l9.map bc_box) = true) (hx : bc_in ds [y]) (hy : gm_ir y) (hbc : 6 ≤ bc) (hbs : 600 ≤ bs) (k : mm_K X LX bc bs (pc + 3) L st Q g M (PV (ap_years lw N A y).1 (ap_years lw N A y).2.1) (some (ap_years lw N A y).1) (fun la2 K2 M2 => REL la2 K2 M2 (ap_years lw N A y).2.2.1 lw (ap_years lw N A y).2.2.2 im t w f)) : gm_Wp X LX 280 bc bs 370 pc L (gm_vi y :: gm_vr 226 :: st) (245 + 4 * g) K R M Q := by
  refine mw_m (xs := [y]) (mj := 320) (P := PV (ap_years lw N A y).1 (ap_years lw N A y).2.1) (oc := some (ap_years lw N A y).1) hb hg hR h hc (by decide +kernel) (by decide +kernel) (show 1 = gm_na 320 by decide +kernel) (show 1 + 1 ≤ gm_ml 320 by decide +kernel) hst s0 c0 v0 hx (by intro v hv; simp only [List.mem_cons, List.not_mem_nil, or_false] at hv; rcases hv with rfl <;> assumption) hbc hbs pv_u ?_ k
  exact gm_Wp_mono (fun o n1 K1 R1 M1 hq => rd_rq ic_years hq) (rr_years (by decide) (e0_w hb (Or.inr (Or.inl ⟨rfl, rfl⟩))) (gJ_w hb) (ns6 (bs_F0 (z := 100003) hb) (rfv_w (la := la) hR.2.2.2.2).1.1.1 hR.2.1.1.1.1) hR.2.1.1 (rfv_w hR.2.2.2.2) hy)
end OPX
end OP17
end
