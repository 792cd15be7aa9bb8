/-! WHAT THE CLASS HOLDS, what the reference holds, of one abstract state: N told, lw the law, A remembered, im the image, t and f the TAPE, w the wrong byte. -/
noncomputable def CLV (N : Int → Int) (lw : Option (List lln)) (A : List (Int → Int)) (im : Option ((Int → Int) × Option (List lln))) (t w : Int) (f : Int → Int) (M : gm_M) : Prop := (TI N (hts (N 13)) (spd N) M ∧ HIS A M) ∧ (M 1 15 = 0 ∨ (M 1 15 = 1 ∧ ENDS N (hts (N 13)) (aphi lw N (hts (N 13))) M)) ∧ (¬ lw = none → KFL N (aphx lw N (hts (N 13))) M) ∧ ((M 1 6 = 0 ∧ im = none) ∨ (M 1 6 = 1 ∧ ∃ NI lI, im = some (NI, lI) ∧ cs M 29 = NI)) ∧ (M 1 1 = t ∧ M 1 2 = w) ∧ ∀ j, 0 ≤ j → j < 400 → M 2 j = f j
/-- the law that the reference holds -/
noncomputable def LAWR (lw : Option (List lln)) (W : Int → Int) : Prop := (lw = none → W 8 = 0) ∧ ∀ ls, lw = some ls → (W 8 = 1 ∧ W 395 = (ls.length : Int)) ∧ LW ls ∧ LR ls W ∧ LRb ls W
noncomputable def RFV (N : Int → Int) (lw : Option (List lln)) (A : List (Int → Int)) (im : Option ((Int → Int) × Option (List lln))) (t w : Int) (f : Int → Int) (M : gm_M) : Prop := (TR N (hts (N 13)) M ∧ LAWR lw (M 227) ∧ HISR A (M 227 8) M) ∧ KFR N (aphi lw N (hts (N 13))) M ∧ ((M 226 5 = 0 ∧ im = none) ∨ (M 226 5 = 1 ∧ ∃ NI lI, im = some (NI, lI) ∧ ws (M 228) = NI ∧ LAWR lI (M 228))) ∧ (M 226 8 = t ∧ M 226 13 = w) ∧ ∀ j, 0 ≤ j → j < 400 → M 231 j = f j
/-- what the abstract state always is -/
noncomputable def RA (N : Int → Int) (lw : Option (List lln)) (A : List (Int → Int)) (im : Option ((Int → Int) × Option (List lln))) (t w : Int) (f : Int → Int) : Prop := GJ N ∧ (∀ ls, lw = some ls → LW ls) ∧ (∀ N1 ∈ A, GJ N1 ∧ hgeo N N1) ∧ (∀ NI lI, im = some (NI, lI) → GJ NI ∧ ∀ ls, lI = some ls → LW ls) ∧ (0 ≤ t ∧ t ≤ 400) ∧ (-1 ≤ w ∧ w ≤ 400) ∧ ∀ j, 0 ≤ j → j < 400 → -128 ≤ f j ∧ f j ≤ 127
section CV4
variable {n : Nat} {K : gm_K} {R : gm_R} {M M2 : gm_M} {N N' : Int → Int} {lw : Option (List lln)} {A A' : List (Int → Int)} {im : Option ((Int → Int) × Option (List lln))} {t w : Int} {f : Int → Int}
theorem kfl_e {φ : Int → Int → Int → Int} (hk : KFL N φ M) (e6 : M2 200 6 = M 200 6) (e5 : ∀ j, M2 205 j = M 205 j) : KFL N φ M2 := by
  refine ⟨by rw [e6]; exact hk.1, fun l r y l0 l1 r0 r1 y0 y1 => ?_⟩
  rw [kv_e e6 e5]
  exact hk.2 l r y l0 l1 r0 r1 y0 y1
theorem ends_x {φ : Int → Int → Int → Int} {h : Int → Int} (he : ENDS N h φ M) (e : ∀ (k : Nat) (j : Int), k = 220 ∨ k = 221 → M2 k j = M k j) : ENDS N h φ M2 := ⟨by rw [e 220 3 (Or.inl rfl)]; exact he.1, fun l l0 l1 => by rw [e 221 _ (Or.inr rfl), e 221 _ (Or.inr rfl)]; exact he.2 l l0 l1⟩
/-- the class's cells -/
noncomputable def cK (k : Nat) (j : Int) : Prop := (k = 1 ∧ (j = 1 ∨ j = 2 ∨ j = 6 ∨ j = 15)) ∨ k = 2 ∨ (3 ≤ k ∧ k ≤ 15) ∨ (29 ≤ k ∧ k ≤ 199) ∨ (k = 200 ∧ j = 6) ∨ (201 ≤ k ∧ k ≤ 203) ∨ k = 205 ∨ k = 220 ∨ k = 221
theorem clv_e (hV : CLV N lw A im t w f M) (hC : CST M2) (e : ∀ k j, cK k j → M2 k j = M k j) : CLV N lw A im t w f M2 := by
  obtain ⟨⟨hT, hH⟩, h15, hk, hi, ht, hf⟩ := hV
  have e15 : M2 1 15 = M 1 15 := e 1 15 (by unfold cK; omega)
  have e6 : M2 1 6 = M 1 6 := e 1 6 (by unfold cK; omega)
  refine ⟨⟨⟨hC, ?_, fun y y0 y1 => ?_, fun l r l0 l1 r0 r1 => ?_⟩, his_fr hH (fun x j h1 h2 => e x j (by unfold cK; omega))⟩, ?_, fun hn => kfl_e (hk hn) (e 200 6 (by unfold cK; omega)) (fun j => e 205 j (by unfold cK; omega)), ?_, ⟨?_, ?_⟩, fun j j0 j1 => ?_⟩
  · rw [← hT.2.1]
    exact cs_same fun x j h1 h2 => e x j (by unfold cK; omega)
  · rw [e 201 y (by unfold cK; omega), e 203 y (by unfold cK; omega)]
    exact hT.2.2.1 y y0 y1
  · rw [e 202 _ (by unfold cK; omega)]
    exact hT.2.2.2 l r l0 l1 r0 r1
  · rw [e15]
    exact h15.imp_right fun h => ⟨h.1, ends_x h.2 (fun k j hk => e k j (by unfold cK; omega))⟩
  · rw [e6]
    refine hi.imp_right fun ⟨h1, NI, lI, h2, h3⟩ => ⟨h1, NI, lI, h2, ?_⟩
    rw [← h3]
    exact cs_same fun x j h1 h2 => e x j (by unfold cK; omega)
  · rw [e 1 1 (by unfold cK; omega)]; exact ht.1
  · rw [e 1 2 (by unfold cK; omega)]; exact ht.2
  · rw [e 2 j (by unfold cK; omega)]; exact hf j j0 j1
/-- the reference's cells -/
noncomputable def rK (k : Nat) (j : Int) : Prop := k = 227 ∨ k = 228 ∨ k = 230 ∨ k = 231 ∨ k = 234 ∨ k = 235 ∨ (k = 226 ∧ (j = 5 ∨ j = 6 ∨ j = 8 ∨ j = 13 ∨ j = 26))
theorem kfr_e {φ : Int → Int → Int → Int} (hk : KFR N φ M) (e6 : M2 226 26 = M 226 26) (e5 : ∀ j, M2 235 j = M 235 j) : KFR N φ M2 := by
  refine ⟨by rw [e6]; exact hk.1, fun j j0 j1 => by rw [e5]; exact hk.2.1 j j0 j1, fun r y => ?_⟩
  rw [e6, e5]
  exact hk.2.2 r y
theorem rfv_e (hV : RFV N lw A im t w f M) (e : ∀ k j, rK k j → M2 k j = M k j) : RFV N lw A im t w f M2 := by
  obtain ⟨⟨hT, hL, hH⟩, hk, hi, ht, hf⟩ := hV
  have e7 : M2 227 = M 227 := funext fun j => e 227 j (by unfold rK; omega)
  have e8 : M2 228 = M 228 := funext fun j => e 228 j (by unfold rK; omega)
  refine ⟨⟨⟨by rw [e7]; exact hT.1, fun y y0 y1 => ?_⟩, by rw [e7]; exact hL, ?_⟩, kfr_e hk (e 226 26 (by unfold rK; omega)) (fun j => e 235 j (by unfold rK; omega)), ?_, ⟨?_, ?_⟩, fun j j0 j1 => ?_⟩
  · rw [e 234 y (by unfold rK; omega)]
    exact hT.2 y y0 y1
  · rw [e7]
    exact hisr_e hH (e 226 6 (by unfold rK; omega)) (fun j => e 230 j (by unfold rK; omega))
  · rw [e 226 5 (by unfold rK; omega), e8]
    exact hi
  · rw [e 226 8 (by unfold rK; omega)]; exact ht.1
  · rw [e 226 13 (by unfold rK; omega)]; exact ht.2
  · rw [e 231 j (by unfold rK; omega)]; exact hf j j0 j1
/-- another valley of the same kind in the class -/
theorem clv_up (hV : CLV N lw A im t w f M) (hN : NR N) (hg : hgeo N N') (hC : CST M2) (hc : cs M2 3 = N') (hH : HIS A' M2) (h15 : M2 1 15 = 0 ∨ (M2 1 15 = 1 ∧ ENDS N' (hts (N' 13)) (aphi lw N' (hts (N' 13))) M2)) (hk : ¬ lw = none → KFL N (aphx lw N (hts (N 13))) M2) (e1 : ∀ j, j = 1 ∨ j = 2 ∨ j = 6 → M2 1 j = M 1 j) (e : ∀ (k : Nat) (j : Int), k = 2 ∨ (29 ≤ k ∧ k ≤ 41) ∨ (201 ≤ k ∧ k ≤ 203) → M2 k j = M k j) : CLV N' lw A' im t w f M2 := by
  obtain ⟨⟨hT, -⟩, -, -, hi, ht, hf⟩ := hV
  refine ⟨⟨hg_ti hN hg hT hC hc (fun k j h1 h2 => e k j (by omega)), hH⟩, h15, fun hn => ?_, ?_, ⟨?_, ?_⟩, fun j j0 j1 => ?_⟩
  · rw [hg_hts hg, hg_aphx hg hN]
    exact hg_kfl hg (hk hn)
  · rw [e1 6 (by decide)]
    refine hi.imp_right fun ⟨h1, NI, lI, h2, h3⟩ => ⟨h1, NI, lI, h2, ?_⟩
    rw [← h3]
    exact cs_same fun x j h1 h2 => e x j (by omega)
  · rw [e1 1 (by decide)]; exact ht.1
  · rw [e1 2 (by decide)]; exact ht.2
  · rw [e 2 j (by omega)]; exact hf j j0 j1
/-- another valley of the same kind in the reference -/
theorem rfv_up (hV : RFV N lw A im t w f M) (hN : NR N) (hg : hgeo N N') (hw : ws (M2 227) = N') (h395 : ∀ j, 395 ≤ j → M2 227 j = M 227 j) (h8 : M2 227 8 = M 227 8) (hH : HISR A' (M 227 8) M2) (hk : KFR N (aphi lw N (hts (N 13))) M2) (e1 : ∀ j, j = 5 ∨ j = 8 ∨ j = 13 → M2 226 j = M 226 j) (e : ∀ (k : Nat) (j : Int), k = 228 ∨ k = 231 ∨ k = 234 → M2 k j = M k j) (hb : ∀ ls, lw = some ls → ∀ k : Nat, k < ls.length → 0 ≤ M 227 (396 + 4 * (k : Int) + 2)) : RFV N' lw A' im t w f M2 := by
  obtain ⟨⟨hT, hL, -⟩, -, hi, ht, hf⟩ := hV
  have e8 : M2 228 = M 228 := funext fun j => e 228 j (by omega)
  refine ⟨⟨⟨hw, fun y y0 y1 => ?_⟩, ⟨fun hn => by rw [h8]; exact hL.1 hn, fun ls hs => ?_⟩, by rw [h8]; exact hH⟩, ?_, ?_, ⟨?_, ?_⟩, fun j j0 j1 => ?_⟩
  · rw [hg_hts hg, e 234 y (by omega)]
    exact hT.2 y y0 y1
  · obtain ⟨⟨a1, a2⟩, a3, a4, a5⟩ := hL.2 ls hs
    refine ⟨⟨by rw [h8]; exact a1, by rw [h395 395 (by decide)]; exact a2⟩, a3, fun k x hx => ?_, fun k x hx => ?_⟩
    · have hk9 := hb ls hs k (List.getElem?_eq_some_iff.mp hx).1
      obtain ⟨b0, b1, b2, b3⟩ := a4 k x hx
      rw [h395 (396 + 4 * (k : Int)) (by omega), h395 (396 + 4 * (k : Int) + 1) (by omega), h395 (396 + 4 * (k : Int) + 2) (by omega), h395 (396 + 4 * (k : Int) + 3) (by omega)]
      refine ⟨b0, b1, b2, fun t ht => ⟨(b3 t ht).1, fun j v hv => ?_⟩⟩
      rw [h395 _ (by omega), h395 _ (by omega)]
      exact (b3 t ht).2 j v hv
    · have hk9 := hb ls hs k (List.getElem?_eq_some_iff.mp hx).1
      rw [h395 (396 + 4 * (k : Int) + 2) (by omega)]
      exact a5 k x hx
  · rw [hg_hts hg, hg_aphi hg hN.2.1.1]
    exact hg_kfr hg hk
  · rw [e1 5 (by decide), e8]
    exact hi
  · rw [e1 8 (by decide)]; exact ht.1
  · rw [e1 13 (by decide)]; exact ht.2
  · rw [e 231 j (by omega)]; exact hf j j0 j1
end CV4
