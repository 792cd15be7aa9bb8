/-! ONE HEAP TOLD TWICE: what the class and the reference hold, by the row's numbers. -/
section DT12
variable {n n2 : Nat} {K1 K2 : gm_K} {R2 : gm_R} {M1 M2 : gm_M} {N : Int → Int} {lw : Option (List lln)} {A : List (Int → Int)} {im : Option ((Int → Int) × Option (List lln))} {t w : Int} {f : Int → Int}
/-- the numbers of an array, of an object's field, by the types -/
noncomputable def tyA (k len : Nat) : Bool := ((p2_O.1 k == some (0, len)) || (p2_O.1 k == some (1, len))) && (gm_tyr p2_O k 0 ((len : Int) - 1)).isSome
noncomputable def tyF (k c j : Nat) : Bool := (p2_O.1 k == some (c + 4, 0)) && (decide (j < gm_nf c) && (!gm_isr c j && (gm_tyr p2_O k (j : Int) (j : Int)).isSome))
theorem dw_x {x y : Int} (h : Int32.ofInt x = Int32.ofInt y) (hy : gm_ir y) : y = gm_w x := by
  have := dt_w h
  rw [this]
  exact (gm_w_id hy.1 hy.2).symm
theorem dw_i {x : Int} (h : gm_ir x) : gm_w x = x := gm_w_id h.1 h.2
theorem dw_a {k len : Nat} {j : Int} (hd : dt_m n K1 M1 K2 M2) (hn : 245 ≤ n) (hK : ∀ k, 1 ≤ k → k ≤ n → K1 k = K2 k) (hF : gm_Fx p2_O n2 K2 R2 M2) (hb : tyA k len = true) (j0 : 0 ≤ j) (j1 : j < (len : Int)) : M2 k j = gm_w (M1 k j) := by
  simp only [tyA, Bool.and_eq_true, Bool.or_eq_true, beq_iff_eq] at hb
  obtain ⟨hq, hs⟩ := hb
  obtain ⟨q, hs⟩ := Option.isSome_iff_exists.mp hs
  have hir := ((gm_tyr_s hF hs).2 j j0 (by omega)).1
  obtain ⟨u, rfl⟩ : ∃ u : Nat, j = (u : Int) := ⟨j.toNat, by omega⟩
  have hk : (1 ≤ k ∧ k ≤ 245) ∧ (K2 k = (0, len) ∨ K2 k = (1, len)) := by
    rcases hq with hq | hq
    · have := bg_O1 hq
      exact ⟨⟨(hF.1 k _ hq).1, by omega⟩, Or.inl (hF.1 k _ hq).2.2⟩
    · have := bg_O1 hq
      exact ⟨⟨(hF.1 k _ hq).1, by omega⟩, Or.inr (hF.1 k _ hq).2.2⟩
  have e := hK k hk.1.1 (by omega)
  refine dw_x ((hd k hk.1.1 (by omega) e).1 ?_ u ?_) hir
  · rw [e]
    rcases hk.2 with h | h <;> rw [h]
    · exact Or.inl rfl
    · exact Or.inr rfl
  · rw [e]
    rcases hk.2 with h | h <;> rw [h] <;> show u < len <;> omega
theorem dw_f {k c j : Nat} (hd : dt_m n K1 M1 K2 M2) (hn : 245 ≤ n) (hK : ∀ k, 1 ≤ k → k ≤ n → K1 k = K2 k) (hF : gm_Fx p2_O n2 K2 R2 M2) (hb : tyF k c j = true) : M2 k (j : Int) = gm_w (M1 k (j : Int)) := by
  simp only [tyF, Bool.and_eq_true, beq_iff_eq, decide_eq_true_eq, Bool.not_eq_true'] at hb
  obtain ⟨hq, hj, hr, hs⟩ := hb
  obtain ⟨q, hs⟩ := Option.isSome_iff_exists.mp hs
  have hir := ((gm_tyr_s hF hs).2 (j : Int) (Int.le_refl _) (Int.le_refl _)).1
  have hk := bg_O1 hq
  obtain ⟨k1, k2, k3⟩ := hF.1 k _ hq
  have e := hK k k1 (by omega)
  exact dw_x ((hd k k1 (by omega) e).2.2 c j (by rw [e, k3]) hj (by rw [hr]; decide)) hir
/-- a State's cells -/
noncomputable def blk (b : Nat) : Bool := (List.range 8).all (fun j => tyF b 1 j) && ((tyF (b + 1) 2 3 && (tyF (b + 3) 2 3 && (tyF (b + 5) 2 3 && (tyF (b + 7) 2 3 && (tyF (b + 9) 2 3 && tyF (b + 11) 2 3))))) && (tyA (b + 2) 56 && (tyA (b + 4) 24 && (tyA (b + 6) 24 && (tyA (b + 8) 168 && (tyA (b + 10) 36 && tyA (b + 12) 72))))))
theorem cs_dt {b : Nat} (hd : dt_m n K1 M1 K2 M2) (hn : 245 ≤ n) (hK : ∀ k, 1 ≤ k → k ≤ n → K1 k = K2 k) (hF : gm_Fx p2_O n2 K2 R2 M2) (hb : blk b = true) (hc : cs M1 b = N) (hi : irN N) : cs M2 b = N := by
  simp only [blk, Bool.and_eq_true] at hb
  obtain ⟨hf, ⟨s1, s3, s5, s7, s9, s11⟩, a2, a4, a6, a8, a10, a12⟩ := hb
  have ff : ∀ j : Nat, j < 8 → M2 b (j : Int) = gm_w (M1 b (j : Int)) := fun j hj => dw_f hd hn hK hF (List.all_eq_true.mp hf j (List.mem_range.mpr hj))
  have key : ∀ i, (0 ≤ i ∧ i < 395 ∧ ¬ i = 8) → M2 (b + (pl i).1) (pl i).2 = gm_w (M1 (b + (pl i).1) (pl i).2) := fun i h => by
    rcases pl_cases h with h | h | h | h | h | h | h | h | h | h | h | h | h | h | h | h | h | h | h | h
    · subst h; exact ff 0 (by decide)
    · subst h; exact ff 1 (by decide)
    · subst h; exact dw_f hd hn hK hF s1
    · subst h; exact dw_f hd hn hK hF s5
    · subst h; exact dw_f hd hn hK hF s7
    · subst h; exact dw_f hd hn hK hF s3
    · subst h; exact dw_f hd hn hK hF s9
    · subst h; exact ff 7 (by decide)
    · subst h; exact ff 6 (by decide)
    · subst h; exact ff 2 (by decide)
    · subst h; exact ff 3 (by decide)
    · subst h; exact ff 4 (by decide)
    · subst h; exact ff 5 (by decide)
    · subst h; exact dw_f hd hn hK hF s11
    · rw [pl_2 h]; exact dw_a hd hn hK hF a2 (by show 0 ≤ i - 15; omega) (by show i - 15 < 56; omega)
    · rw [pl_4 h]; exact dw_a hd hn hK hF a4 (by show 0 ≤ i - 71; omega) (by show i - 71 < 24; omega)
    · rw [pl_6 h]; exact dw_a hd hn hK hF a6 (by show 0 ≤ i - 95; omega) (by show i - 95 < 24; omega)
    · rw [pl_8 h]; exact dw_a hd hn hK hF a8 (by show 0 ≤ i - 119; omega) (by show i - 119 < 168; omega)
    · rw [pl_10 h]; exact dw_a hd hn hK hF a10 (by show 0 ≤ i - 287; omega) (by show i - 287 < 36; omega)
    · rw [pl_12 h]; exact dw_a hd hn hK hF a12 (by show 0 ≤ i - 323; omega) (by show i - 323 < 72; omega)
  funext i
  by_cases h : 0 ≤ i ∧ i < 395 ∧ ¬ i = 8
  · rw [cs_pl h, key i h, ← cs_pl (M := M1) (b := b) h, hc]
    exact dw_i (hi i)
  · rw [← hc, cs_no h, cs_no h]
theorem blk_h : (List.range 12).all (fun p => blk (44 + 13 * p)) = true := by decide +kernel
theorem blk_3 : blk 3 = true ∧ blk 29 = true := by decide +kernel
theorem dt_c1 : tyF 1 0 1 = true ∧ tyF 1 0 2 = true ∧ tyF 1 0 6 = true ∧ tyF 1 0 15 = true := by decide +kernel
theorem dt_c2 : tyF 42 3 1 = true ∧ tyF 42 3 2 = true ∧ tyF 200 4 6 = true ∧ tyF 220 2 3 = true := by decide +kernel
theorem dt_c3 : tyA 2 400 = true ∧ tyA 201 300 = true ∧ tyA 202 594 = true ∧ tyA 203 300 = true ∧ tyA 221 48 = true := by decide +kernel
theorem dt_c4 : p2_O.1 205 = some (2, 14850) := by decide +kernel
theorem fld_cg {x y s : Int} (h : Int64.ofInt x = Int64.ofInt y) : fld x s = fld y s := by unfold fld ll_ushr; rw [h]
theorem outr_w {h : Int → Int} {φ : Int → Int → Int → Int} {l o d : Int} (hN : NR N) (hφ : ∀ l r y, 0 ≤ φ l r y ∧ φ l r y ≤ 30) (hh : ∀ y, 0 ≤ y → y < 300 → 0 ≤ h y ∧ h y ≤ 9) (hl : 0 ≤ l ∧ l < N 4) (ho : OUTR N h φ l o d) : OUTR N h φ l (gm_w o) (gm_w d) := by
  obtain ⟨b0, b1, b2, b3, b4, -⟩ := hN.2.2.2.2 l hl.1 hl.2
  have b9 := hN.1.2.2.2.2.2
  have b1' := hN.1.2.1
  have ob := OUTR_b ho b3.1
  have e : gm_w o = o := gm_w_id (by omega) (by omega)
  rw [e]
  rcases ho with ho | ⟨j, h1, h2, h3, h4, h5⟩
  · exact Or.inl ho
  · refine Or.inr ⟨j, h1, h2, h3, h4, ?_⟩
    have := (nwy_b (lane := (N (119 + (l * 7 + 2)))) (rock := (if (N (119 + (l * 7 + 0))) = -1 then 1 else 0)) (wo := -1) hN hφ hh b3.1 (r0 := (N (119 + (l * 7 + 4)))) ⟨b4.1, by omega⟩ j (by omega)).2
    rw [h5]
    exact gm_w_id (by omega) (by omega)
theorem clv_dt (hd : dt_m n K1 M1 K2 M2) (hn : 245 ≤ n) (hK : ∀ k, 1 ≤ k → k ≤ n → K1 k = K2 k) (hF : gm_Fx p2_O n2 K2 R2 M2) (hR : RA N lw A im t w f) (hV : CLV N lw A im t w f M1) : CLV N lw A im t w f M2 := by
  obtain ⟨hG, hL, hA, hI, ht9, hw9, hf9⟩ := hR
  obtain ⟨⟨hT, hH⟩, h15, hk, hi, ht, hf⟩ := hV
  have e1 : ∀ j : Nat, (j = 1 ∨ j = 2 ∨ j = 6 ∨ j = 15) → M2 1 (j : Int) = gm_w (M1 1 (j : Int)) := fun j hj => by
    rcases hj with rfl | rfl | rfl | rfl
    · exact dw_f hd hn hK hF dt_c1.1
    · exact dw_f hd hn hK hF dt_c1.2.1
    · exact dw_f hd hn hK hF dt_c1.2.2.1
    · exact dw_f hd hn hK hF dt_c1.2.2.2
  have e15 : M2 1 15 = gm_w (M1 1 15) := e1 15 (by decide)
  have e6 : M2 1 6 = gm_w (M1 1 6) := e1 6 (by decide)
  have e11 : M2 1 1 = gm_w (M1 1 1) := e1 1 (by decide)
  have e12 : M2 1 2 = gm_w (M1 1 2) := e1 2 (by decide)
  have e200 : M2 200 6 = gm_w (M1 200 6) := dw_f hd hn hK hF dt_c2.2.2.1
  have e421 : M2 42 1 = gm_w (M1 42 1) := dw_f hd hn hK hF dt_c2.1
  have e422 : M2 42 2 = gm_w (M1 42 2) := dw_f hd hn hK hF dt_c2.2.1
  have e220 : M2 220 3 = gm_w (M1 220 3) := dw_f hd hn hK hF dt_c2.2.2.2
  refine ⟨⟨⟨cstF hF, cs_dt hd hn hK hF blk_3.1 hT.2.1 hG.2, fun y y0 y1 => ?_, fun l r l0 l1 r0 r1 => ?_⟩, ?_⟩, ?_, fun hlw => ?_, ?_, ⟨?_, ?_⟩, fun j j0 j1 => ?_⟩
  · obtain ⟨b1, b2, b3, b4⟩ := hT.2.2.1 y y0 y1
    rw [dw_a hd hn hK hF dt_c3.2.1 y0 (by omega), dw_a hd hn hK hF dt_c3.2.2.2.1 y0 (by omega), b1, dw_i b3, dw_i ⟨by omega, by omega⟩]
    exact ⟨rfl, b2, b3, b4⟩
  · have := spd_b hG.1.1 hG.1.2.1 (r := r) l0
    rw [dw_a hd hn hK hF dt_c3.2.2.1 (by omega) (by omega), hT.2.2.2 l r l0 l1 r0 r1]
    exact dw_i ⟨by omega, by omega⟩
  · obtain ⟨nx, h0, h1, h2, h3, h4⟩ := hH
    refine ⟨nx, h0, by rw [e421, h1]; exact dw_i ⟨by omega, by omega⟩, by rw [e422, h2]; exact dw_i ⟨by omega, by omega⟩, h3, fun i N1 hi9 => ?_⟩
    have hp : ((nx + 11 - (i : Int)) % 12).toNat < 12 := by omega
    exact cs_dt hd hn hK hF (List.all_eq_true.mp blk_h _ (List.mem_range.mpr hp)) (h4 i N1 hi9) (hA N1 (List.mem_of_getElem? hi9)).1.2
  · rw [e15]
    rcases h15 with h | ⟨h, he⟩
    · exact Or.inl (by rw [h]; decide)
    · refine Or.inr ⟨by rw [h]; decide, ?_⟩
      have h4 := hG.1.1.2.1.2.2.2.1
      refine ⟨by rw [e220, he.1]; exact dw_i ⟨by omega, by omega⟩, fun l l0 l1 => ?_⟩
      rw [dw_a hd hn hK hF dt_c3.2.2.2.2 (by omega) (by omega), dw_a hd hn hK hF dt_c3.2.2.2.2 (by omega) (by omega)]
      exact outr_w hG.1.1 aphi_b (fun _ _ _ => hts_b) ⟨l0, l1⟩ (he.2 l l0 l1)
  · have hk := hk hlw
    have e9 : M2 200 6 = M1 200 6 := by rw [e200]; exact dw_i ⟨by have := hk.1.1; omega, by have := hk.1.2; omega⟩
    refine ⟨by rw [e9]; exact hk.1, fun l r y l0 l1 r0 r1 y0 y1 => ?_⟩
    have b0 := hG.1.1.1.1
    have b1 := hG.1.1.1.2.1
    have ek : kv M2 ((l * 99 + r) * 300 + y) = kv M1 ((l * 99 + r) * 300 + y) := by
      unfold kv
      rw [e9]
      have k205 := hF.1 205 _ dt_c4
      have ee := hK 205 (by decide) (by omega)
      have hj : 0 ≤ ((l * 99 + r) * 300 + y) / 12 ∧ ((l * 99 + r) * 300 + y) / 12 < 14850 := by omega
      obtain ⟨u, hu⟩ : ∃ u : Nat, ((l * 99 + r) * 300 + y) / 12 = (u : Int) := ⟨(((l * 99 + r) * 300 + y) / 12).toNat, by omega⟩
      rw [hu]
      rw [fld_cg ((hd 205 (by decide) (by omega) ee).2.1 (by rw [ee, k205.2.2]) u (by rw [ee, k205.2.2]; show u < 14850; omega)).symm]
    rw [ek]
    exact hk.2 l r y l0 l1 r0 r1 y0 y1
  · rw [e6]
    rcases hi with ⟨h, hi⟩ | ⟨h, NI, lI, hi, hc⟩
    · exact Or.inl ⟨by rw [h]; decide, hi⟩
    · exact Or.inr ⟨by rw [h]; decide, NI, lI, hi, cs_dt hd hn hK hF blk_3.2 hc (hI NI lI hi).1.2⟩
  · rw [e11, ht.1]
    exact dw_i ⟨by omega, by omega⟩
  · rw [e12, ht.2]
    exact dw_i ⟨by omega, by omega⟩
  · rw [dw_a hd hn hK hF dt_c3.1 j0 (by omega), hf j j0 j1]
    have := hf9 j j0 j1
    exact dw_i ⟨by omega, by omega⟩
end DT12
