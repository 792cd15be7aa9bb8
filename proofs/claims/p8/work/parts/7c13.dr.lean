/-! ONE HEAP TOLD TWICE: the reference. -/
theorem pwf_b {p : Int × Int} (h : pwf p) : (0 ≤ p.1 ∧ p.1 ≤ 16) ∧ gm_ir p.2 := by
  rcases h with ⟨⟨h1, h2⟩, h3⟩ | ⟨h1, h2, h3⟩
  · exact ⟨⟨h1, by omega⟩, ⟨by omega, by omega⟩⟩
  · exact ⟨⟨by omega, by omega⟩, ⟨by omega, by omega⟩⟩
theorem rps_b {c : Int × Int} : ∀ ps : List (Int × Int), (∀ p ∈ ps, pwf p) → c ∈ rps ps → (0 ≤ c.1 ∧ c.1 ≤ 16) ∧ gm_ir c.2 := by
  intro ps
  induction ps with
  | nil => intro _ hm; cases hm
  | cons q qs ih =>
    intro hp hm
    have hm : c ∈ q :: (11, 0) :: rps qs := hm
    rcases List.mem_cons.mp hm with rfl | hm
    · exact pwf_b (hp _ List.mem_cons_self)
    · rcases List.mem_cons.mp hm with rfl | hm
      · exact ⟨⟨by decide, by decide⟩, ⟨by decide, by decide⟩⟩
      · exact ih (fun p hp2 => hp p (List.mem_cons_of_mem _ hp2)) hm
theorem rpt_b {c : Int × Int} {ps : List (Int × Int)} (hp : ∀ p ∈ ps, pwf p) (hm : c ∈ rpt ps) : (0 ≤ c.1 ∧ c.1 ≤ 16) ∧ gm_ir c.2 := by
  cases ps with
  | nil => cases hm
  | cons q qs =>
    have hm : c ∈ q :: rps qs := hm
    rcases List.mem_cons.mp hm with rfl | hm
    · exact pwf_b (hp _ List.mem_cons_self)
    · exact rps_b qs (fun p hp2 => hp p (List.mem_cons_of_mem _ hp2)) hm
/-- the steps of a right law -/
theorem srds_b {B : Nat} : ∀ (ls : List lst) (h k : Nat), shg B ls h k → ∀ c ∈ srds ls, (0 ≤ c.1 ∧ c.1 ≤ 16) ∧ gm_ir c.2 := by
  intro ls
  induction ls with
  | nil => intro h k _ c hc; cases hc
  | cons s r ih =>
    intro h k hs c hc
    have hc : c ∈ srd s ++ srds r := hc
    rcases List.mem_append.mp hc with hc | hc
    · unfold srd at hc
      by_cases h0 : s.1 = 0
      · rw [if_pos h0] at hc
        have hw : cwf s.2.2.1 s.2.2.2 := by
          rcases hs with ⟨h1, -⟩ | ⟨h1, -⟩ | ⟨h1, -⟩
          · rcases h1 with ⟨-, hw⟩ | h1 | h1
            · exact hw
            · omega
            · omega
          · omega
          · omega
        rcases List.mem_append.mp hc with hc | hc
        · exact rpt_b hw.1 hc
        · rcases List.mem_append.mp hc with hc | hc
          · exact rpt_b hw.2.1 hc
          · rw [List.mem_singleton.mp hc]
            refine ⟨?_, (show (-2147483648 : Int) ≤ 0 from by decide), (show (0 : Int) < 2147483648 from by decide)⟩
            show 0 ≤ (if s.2.1 = true then (13 : Int) else 12) ∧ (if s.2.1 = true then (13 : Int) else 12) ≤ 16
            split <;> decide
      · rw [if_neg h0] at hc
        rw [List.mem_singleton.mp hc]
        refine ⟨?_, (show (-2147483648 : Int) ≤ 0 from by decide), (show (0 : Int) < 2147483648 from by decide)⟩
        show 0 ≤ s.1 ∧ s.1 ≤ 16
        rcases hs with ⟨h1, -⟩ | ⟨h1, -⟩ | ⟨h1, -⟩
        · rcases h1 with ⟨h1, -⟩ | h1 | h1 <;> omega
        · omega
        · omega
    · rcases hs with ⟨-, -, h2⟩ | ⟨-, -, h2⟩ | ⟨-, -, h2⟩
      · exact ih _ _ h2 c hc
      · exact ih _ _ h2 c hc
      · exact ih _ _ h2 c hc
section DR13
variable {n n2 : Nat} {K1 K2 : gm_K} {R2 : gm_R} {M1 M2 : gm_M} {N : Int → Int} {lw : Option (List lln)} {A : List (Int → Int)} {im : Option ((Int → Int) × Option (List lln))} {t w : Int} {f : Int → Int}
/-- a law told by numbers that go round -/
theorem lawr_w {W W2 : Int → Int} (h : LAWR lw W) (hT : jT fun j => W2 (395 + j)) (e : ∀ j, 0 ≤ j → j < 1244 → W2 j = gm_w (W j)) : LAWR lw W2 := by
  refine ⟨fun hn => by rw [e 8 (by decide) (by decide), h.1 hn]; decide, fun ls hs => ?_⟩
  obtain ⟨⟨a1, a2⟩, a3, a4, a5⟩ := h.2 ls hs
  have h12 := a3.1
  have e5 : W2 395 = (ls.length : Int) := by
    rw [e 395 (by decide) (by decide), a2]
    exact gm_w_id (by omega) (by omega)
  have hb : ∀ k : Nat, k < ls.length → 0 ≤ W2 (396 + 4 * (k : Int) + 2) := fun k hk => by
    have ht := (hT (k : Int) (by omega) (by omega) (by show (k : Int) < W2 (395 + 0); rw [show (395 : Int) + 0 = 395 by decide, e5]; omega)).1.1
    have ht : 0 ≤ W2 (395 + (3 + 4 * (k : Int))) := ht
    rw [show 395 + (3 + 4 * (k : Int)) = 396 + 4 * (k : Int) + 2 by omega] at ht
    exact ht
  refine ⟨⟨by rw [e 8 (by decide) (by decide), a1]; decide, e5⟩, a3, fun k x hx => ?_, fun k x hx => ?_⟩
  · have hk := (List.getElem?_eq_some_iff.mp hx).1
    obtain ⟨b0, b1, b2, b3⟩ := a4 k x hx
    obtain ⟨c0, c1⟩ := a5 k x hx
    obtain ⟨w0, w1, w2⟩ := a3.2 k x hx
    rw [e (396 + 4 * (k : Int)) (by omega) (by omega), e (396 + 4 * (k : Int) + 1) (by omega) (by omega), e (396 + 4 * (k : Int) + 2) (by omega) (by omega), e (396 + 4 * (k : Int) + 3) (by omega) (by omega), b0, b1]
    refine ⟨gm_w_id (by omega) (by omega), ?_, fun hn => by rw [b2 hn], fun t ht => ?_⟩
    · split
      · decide
      · exact gm_w_id (by omega) (by omega)
    · obtain ⟨d1, d2⟩ := b3 t ht
      have hsh := w2 t ht
      rw [d1]
      cases hl : srds t with
      | nil => exact ⟨by rw [show ((([] : List (Int × Int)).length : Nat) : Int) = 0 by rfl, Int.add_zero, Int.add_zero], fun j v hv => by simp at hv⟩
      | cons q qs =>
        have hlen : (srds t).length = qs.length + 1 := by rw [hl]; rfl
        have hz := c1 t ht (qs.length) ((srds t)[qs.length]'(by omega)) (List.getElem?_eq_getElem (by omega))
        have eb : gm_w (W (396 + 4 * (k : Int) + 2)) = W (396 + 4 * (k : Int) + 2) := gm_w_id (by omega) (by omega)
        rw [eb, ← hl, hlen]
        refine ⟨gm_w_id (by omega) (by omega), fun j v hv => ?_⟩
        have hj := c1 t ht j v hv
        obtain ⟨g1, g2⟩ := d2 j v hv
        obtain ⟨v1, v2⟩ := srds_b t 0 1 hsh v (List.mem_of_getElem? hv)
        rw [e _ (by omega) (by omega), e _ (by omega) (by omega), g1, g2]
        exact ⟨gm_w_id (by omega) (by omega), dw_i v2⟩
  · have hk := (List.getElem?_eq_some_iff.mp hx).1
    obtain ⟨c0, c1⟩ := a5 k x hx
    refine ⟨hb k hk, fun t ht j v hv => ?_⟩
    have hj := c1 t ht j v hv
    rw [e (396 + 4 * (k : Int) + 2) (by omega) (by omega), gm_w_id (by omega) (by omega)]
    exact hj
theorem dr_c1 : tyA 227 2093 = true ∧ tyA 228 1244 = true ∧ tyA 231 400 = true ∧ tyA 234 300 = true ∧ tyA 235 29700 = true := by decide +kernel
theorem dr_c2 : tyF 226 11 5 = true ∧ tyF 226 11 6 = true ∧ tyF 226 11 8 = true ∧ tyF 226 11 13 = true ∧ tyF 226 11 26 = true := by decide +kernel
theorem dr_c3 : p2_O.1 230 = some (0, 4740) := by decide +kernel
set_option maxRecDepth 100000 in
theorem dr_c4 : (List.range 395).all (fun j => p2_ty.any fun r => decide (r.1 ≤ (j : Int)) && decide ((j : Int) ≤ r.2.1)) = true := by decide +kernel
theorem ws_w {W W2 : Int → Int} (h : ws W = N) (hi : irN N) (e : ∀ j, 0 ≤ j → j < 395 → W2 j = gm_w (W j)) : ws W2 = N := by
  funext j
  by_cases hj : 0 ≤ j ∧ j < 395 ∧ ¬ j = 8
  · have h1 : ws W j = N j := by rw [h]
    unfold ws at h1 ⊢
    rw [if_pos hj] at h1 ⊢
    rw [e j hj.1 hj.2.1, h1]
    exact dw_i (hi j)
  · rw [← h]
    unfold ws
    rw [if_neg hj, if_neg hj]
theorem rfv_dt (hd : dt_m n K1 M1 K2 M2) (hn : 245 ≤ n) (hK : ∀ k, 1 ≤ k → k ≤ n → K1 k = K2 k) (hF : gm_Fx p2_O n2 K2 R2 M2) (hR : RA N lw A im t w f) (hV : RFV N lw A im t w f M1) : RFV N lw A im t w f M2 := by
  obtain ⟨hG, hL, hA, hI, ht9, hw9, hf9⟩ := hR
  obtain ⟨⟨hT, hLR, hH⟩, hk, hi, ht, hf⟩ := hV
  have hJ : jP p2_ty (M2 227) (M2 228) (M2 229) (M2 230) := hF.2.2.2.2
  have e7 : ∀ j, 0 ≤ j → j < 1244 → M2 227 j = gm_w (M1 227 j) := fun j j0 j1 => dw_a hd hn hK hF dr_c1.1 j0 (by omega)
  have e8 : ∀ j, 0 ≤ j → j < 1244 → M2 228 j = gm_w (M1 228 j) := fun j j0 j1 => dw_a hd hn hK hF dr_c1.2.1 j0 (by omega)
  have f5 : M2 226 5 = gm_w (M1 226 5) := dw_f hd hn hK hF dr_c2.1
  have f6 : M2 226 6 = gm_w (M1 226 6) := dw_f hd hn hK hF dr_c2.2.1
  have f8 : M2 226 8 = gm_w (M1 226 8) := dw_f hd hn hK hF dr_c2.2.2.1
  have f13 : M2 226 13 = gm_w (M1 226 13) := dw_f hd hn hK hF dr_c2.2.2.2.1
  have f26 : M2 226 26 = gm_w (M1 226 26) := dw_f hd hn hK hF dr_c2.2.2.2.2
  have l8 : M1 227 8 = 0 ∨ M1 227 8 = 1 := by
    cases hlw : lw with
    | none => exact Or.inl (hLR.1 hlw)
    | some ls => exact Or.inr (hLR.2 ls hlw).1.1
  have g8 : M2 227 8 = M1 227 8 := by
    rw [e7 8 (by decide) (by decide)]
    rcases l8 with h | h <;> rw [h] <;> decide
  refine ⟨⟨⟨ws_w hT.1 hG.2 (fun j j0 j1 => e7 j j0 (by omega)), fun y y0 y1 => ?_⟩, lawr_w hLR hJ.2.2.1 e7, ?_⟩, ?_, ?_, ⟨?_, ?_⟩, fun j j0 j1 => ?_⟩
  · obtain ⟨b1, b2⟩ := hT.2 y y0 y1
    rw [dw_a hd hn hK hF dr_c1.2.2.2.1 y0 (by omega), b1]
    exact ⟨dw_i ⟨by omega, by omega⟩, b2⟩
  · obtain ⟨⟨h1, h2⟩, h3⟩ := hH
    have e30 : ∀ (y j : Int), 0 ≤ y → y < 12 → 0 ≤ j → j < 395 → M2 230 (395 * y + j) = gm_w (M1 230 (395 * y + j)) := fun y j y0 y1 j0 j1 => by
      obtain ⟨u, rfl⟩ : ∃ u : Nat, j = (u : Int) := ⟨j.toNat, by omega⟩
      obtain ⟨r, hr, hr2⟩ := List.any_eq_true.mp (List.all_eq_true.mp dr_c4 u (List.mem_range.mpr (by omega)))
      simp only [Bool.and_eq_true, decide_eq_true_eq] at hr2
      have hir := (hJ.2.1 y y0 y1 r hr (u : Int) hr2.1 hr2.2 j0 j1).1
      obtain ⟨q, hq⟩ : ∃ q : Nat, 395 * y + (u : Int) = (q : Int) := ⟨(395 * y + (u : Int)).toNat, by omega⟩
      have k230 := hF.1 230 _ dr_c3
      have ee := hK 230 (by decide) (by omega)
      rw [hq] at hir ⊢
      exact dw_x ((hd 230 (by decide) (by omega) ee).1 (by rw [ee, k230.2.2]; exact Or.inl rfl) q (by rw [ee, k230.2.2]; show q < 4740; omega)) hir
    refine ⟨⟨by rw [f6, h1]; exact gm_w_id (by omega) (by omega), h2⟩, fun i N1 hi9 => ?_⟩
    obtain ⟨c1, c2⟩ := h3 i N1 hi9
    have hil := (List.getElem?_eq_some_iff.mp hi9).1
    refine ⟨ws_w c1 (hA N1 (List.mem_of_getElem? hi9)).1.2 (fun j j0 j1 => e30 _ j (by omega) (by omega) j0 j1), ?_⟩
    rw [e30 _ 8 (by omega) (by omega) (by decide) (by decide), c2, g8]
    rcases l8 with h | h <;> rw [h] <;> decide
  · have c26 : M2 226 26 = M1 226 26 := by rw [f26]; exact dw_i ⟨by have := hk.1.1; omega, by have := hk.1.2; omega⟩
    have c35 : ∀ j, 0 ≤ j → j < 29700 → M2 235 j = M1 235 j := fun j j0 j1 => by
      have := hk.2.1 j j0 j1
      rw [dw_a hd hn hK hF dr_c1.2.2.2.2 j0 (by omega)]
      exact dw_i ⟨by omega, by omega⟩
    have b1 := hG.1.1.1.2.1
    refine ⟨by rw [c26]; exact hk.1, fun j j0 j1 => by rw [c35 j j0 j1]; exact hk.2.1 j j0 j1, fun r y l0 l1 r0 r1 y0 y1 => ?_⟩
    rw [c26] at l0 l1 ⊢
    rw [c35 _ (by omega) (by omega)]
    exact hk.2.2 r y l0 l1 r0 r1 y0 y1
  · rw [f5]
    rcases hi with ⟨h, hi⟩ | ⟨h, NI, lI, hi, hc, hl⟩
    · exact Or.inl ⟨by rw [h]; decide, hi⟩
    · exact Or.inr ⟨by rw [h]; decide, NI, lI, hi, ws_w hc (hI NI lI hi).1.2 (fun j j0 j1 => e8 j j0 (by omega)), lawr_w hl hJ.2.2.2.1 e8⟩
  · rw [f8, ht.1]
    exact dw_i ⟨by omega, by omega⟩
  · rw [f13, ht.2]
    exact dw_i ⟨by omega, by omega⟩
  · rw [dw_a hd hn hK hF dr_c1.2.2.1 j0 (by omega), hf j j0 j1]
    have := hf9 j j0 j1
    exact dw_i ⟨by omega, by omega⟩
end DR13
