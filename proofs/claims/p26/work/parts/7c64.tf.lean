/-! THROWSFOR, WITHOUT: what they answer. -/
/-- how many ROWS come out in that YEAR, the first, the last -/
noncomputable def thf (N h : Int → Int) (φ : Int → Int → Int → Int) (lane y t : Int) : Nat → Int × Int × Int
  | 0 => (0, -1, -1)
  | k + 1 => if fro N h φ lane (k : Int) y = t then ((thf N h φ lane y t k).1 + 1, if (thf N h φ lane y t k).1 = 0 then (k : Int) else (thf N h φ lane y t k).2.1, (k : Int)) else thf N h φ lane y t k
theorem thf_b {N h : Int → Int} {φ : Int → Int → Int → Int} {lane y t : Int} : ∀ k : Nat, (0 ≤ (thf N h φ lane y t k).1 ∧ (thf N h φ lane y t k).1 ≤ (k : Int)) ∧ (((thf N h φ lane y t k).1 = 0 ∧ (thf N h φ lane y t k).2.1 = -1) ∨ (0 < (thf N h φ lane y t k).1 ∧ 0 ≤ (thf N h φ lane y t k).2.1)) ∧ (thf N h φ lane y t k).2.1 < (k : Int) ∧ (-1 ≤ (thf N h φ lane y t k).2.2 ∧ (thf N h φ lane y t k).2.2 < (k : Int)) := by
  intro k
  induction k with
  | zero => exact show ((0 : Int) ≤ 0 ∧ (0 : Int) ≤ ((0 : Nat) : Int)) ∧ (((0 : Int) = 0 ∧ (-1 : Int) = -1) ∨ ((0 : Int) < 0 ∧ (0 : Int) ≤ -1)) ∧ (-1 : Int) < ((0 : Nat) : Int) ∧ (-1 : Int) ≤ -1 ∧ (-1 : Int) < ((0 : Nat) : Int) from ⟨⟨by decide, by decide⟩, Or.inl ⟨rfl, rfl⟩, by decide, by decide, by decide⟩
  | succ k ih =>
    by_cases hc : fro N h φ lane (k : Int) y = t
    · rw [show thf N h φ lane y t (k + 1) = ((thf N h φ lane y t k).1 + 1, if (thf N h φ lane y t k).1 = 0 then (k : Int) else (thf N h φ lane y t k).2.1, (k : Int)) from if_pos hc]
      by_cases h0 : (thf N h φ lane y t k).1 = 0
      · rw [if_pos h0]
        exact ⟨⟨by show 0 ≤ (thf N h φ lane y t k).1 + 1; omega, by show (thf N h φ lane y t k).1 + 1 ≤ _; omega⟩, Or.inr ⟨by show 0 < (thf N h φ lane y t k).1 + 1; omega, by show 0 ≤ (k : Int); omega⟩, by show (k : Int) < _; omega, by show -1 ≤ (k : Int); omega, by show (k : Int) < _; omega⟩
      · rw [if_neg h0]
        exact ⟨⟨by show 0 ≤ (thf N h φ lane y t k).1 + 1; omega, by show (thf N h φ lane y t k).1 + 1 ≤ _; omega⟩, Or.inr ⟨by show 0 < (thf N h φ lane y t k).1 + 1; omega, by show 0 ≤ (thf N h φ lane y t k).2.1; omega⟩, by show (thf N h φ lane y t k).2.1 < _; omega, by show -1 ≤ (k : Int); omega, by show (k : Int) < _; omega⟩
    · rw [show thf N h φ lane y t (k + 1) = thf N h φ lane y t k from if_neg hc]
      exact ⟨⟨by omega, by omega⟩, ih.2.1, by omega, by omega, by omega⟩
/-- the year when a letter is out, one flood left out -/
def WOUT (N h : Int → Int) (φ : Int → Int → Int → Int) (l w v : Int) : Prop := (v = -1 ∧ ∀ j : Nat, (N (119 + (l * 7 + 3))) + (j : Int) ≤ 299 → (nwy N h φ ((N (119 + (l * 7 + 2)))) (if (N (119 + (l * 7 + 0))) = -1 then 1 else 0) w ((N (119 + (l * 7 + 3)))) ((N (119 + (l * 7 + 4)))) j).1 < N 1) ∨ ∃ j : Nat, (N (119 + (l * 7 + 3))) + (j : Int) ≤ 299 ∧ v = (N (119 + (l * 7 + 3))) + (j : Int) ∧ N 1 ≤ (nwy N h φ ((N (119 + (l * 7 + 2)))) (if (N (119 + (l * 7 + 0))) = -1 then 1 else 0) w ((N (119 + (l * 7 + 3)))) ((N (119 + (l * 7 + 4)))) j).1 ∧ ∀ i, i < j → (nwy N h φ ((N (119 + (l * 7 + 2)))) (if (N (119 + (l * 7 + 0))) = -1 then 1 else 0) w ((N (119 + (l * 7 + 3)))) ((N (119 + (l * 7 + 4)))) i).1 < N 1
theorem WOUT_u {N h : Int → Int} {φ : Int → Int → Int → Int} {l w v v2 : Int} (a : WOUT N h φ l w v) (b : WOUT N h φ l w v2) : v = v2 := by
  rcases a with ⟨a1, a2⟩ | ⟨k, a1, a2, a3, a4⟩
  · rcases b with ⟨b1, b2⟩ | ⟨j, b1, b2, b3, b4⟩
    · omega
    · have := a2 j b1
      omega
  · rcases b with ⟨b1, b2⟩ | ⟨j, b1, b2, b3, b4⟩
    · have := b2 k a1
      omega
    · have e : k = j := by
        rcases Nat.lt_trichotomy k j with h | h | h
        · have := b4 k h
          omega
        · exact h
        · have := a4 j h
          omega
      rw [a2, b2, e]
section TF64
variable {X : Int → Int} {LX d bc bs n : Nat} {K : gm_K} {R : gm_R} {M : gm_M} {Q : gm_Q} {N h : Int → Int} {sp : Int → Int → Int} {FI : gm_M → Prop} {φ : Int → Int → Int → Int} {l lane row year y p w x k c v a b t : Int}
theorem th_c (hd : 20 ≤ d) (hE : E0 n K R) (hT : TI N h sp M) (hN : NR N) (hfw : FLW X LX n K R N h sp FI φ) (hI : FI M) (hl : 0 ≤ lane ∧ lane < N 0) (hy : ((0 ≤ y ∧ y ≤ 299) ∧ (0 ≤ t ∧ t ≤ 299)) ∧ N 9 ≤ y) (hw : 0 ≤ w ∧ w ≤ 2) (kv0 : w = 0 → ∀ M2, Q (.inl (some (gm_vi (thf N h φ lane y t (N 1).toNat).1))) n K R M2) (kv1 : w = 1 → ∀ M2, Q (.inl (some (gm_vi (thf N h φ lane y t (N 1).toNat).2.1))) n K R M2) (kv2 : w = 2 → ∀ M2, Q (.inl (some (gm_vi (thf N h φ lane y t (N 1).toNat).2.2))) n K R M2) : ∀ (u k : Nat) (M1 : gm_M), (k : Int) + (u : Int) = N 1 → fr [(206, some 2), (206, some 3), (206, some 4), (206, some 5), (206, some 6), (206, some 7), (206, some 8), (200, some 6), (204, none), (205, none)] M M1 → FI M1 → gm_Wp X LX d bc bs 167 71 [some (gm_vr 1), some (gm_vi lane), some (gm_vi y), some (gm_vi t), some (gm_vi w), some (gm_vi ((thf N h φ lane y t k).1)), some (gm_vi ((thf N h φ lane y t k).2.1)), some (gm_vi ((thf N h φ lane y t k).2.2)), some (gm_vi (k : Int))] [] n K R M1 Q := by
  obtain ⟨⟨⟨a0, b0⟩, ⟨a1, b1⟩, ⟨a10, b10⟩, ⟨a11, b11⟩, ⟨a12, b12⟩, a9, b9⟩, ⟨⟨a2, b2⟩, ⟨a5, b5⟩, ⟨a3, b3⟩, ⟨a4, b4⟩, ⟨a6, b6⟩, ⟨a14, b14⟩, ⟨a7, b7⟩, a13, b13⟩, rF, rP, rL⟩ := id hN
  intro u
  induction u with
  | zero =>
    intro k M1 hk hf hI1
    have ek : k = (N 1).toNat := by omega
    refine gm_sz (gm_p_load (pc := 71) (i := .iload 8) (sr := 0) (j := 8) (by decide +kernel) rfl rfl rfl) ?_
    refine gm_sz (gm_p_load (pc := 73) (i := .aload_n 0) (sr := 2) (j := 0) (by decide +kernel) rfl rfl rfl) ?_
    refine gm_sz (fw_gr (pc := 74) (ix := 23) (ci := 0) (j := 3) (r := 3) (by decide +kernel) (e0k hE (k := 1) (c := 0) (by decide +kernel)) (by decide +kernel) (by decide +kernel) (e0r hE (k := 1) (j := 3) (r := 3) (by decide +kernel))) ?_
    refine gm_sz (fw_gi (pc := 77) (ix := 226) (ci := 1) (j := 1) (x := N 1) (by decide +kernel) (e0k hE (k := 3) (c := 1) (by decide +kernel)) (by decide +kernel) (by decide +kernel) ((fr_c hf (by decide)).trans (ti_las hT))) ?_
    refine fw_ict (cc := .ge) (pc := 80) (off := 55) (by decide +kernel) (by decide) ⟨by omega, by omega⟩ ⟨by omega, by omega⟩ (show (N 1) ≤ (k : Int) by omega) ?_
    refine gm_sz (gm_p_load (pc := 135) (i := .iload 4) (sr := 0) (j := 4) (by decide +kernel) rfl rfl rfl) ?_
    refine fw_if (cc := .ne) (pc := 137) (off := 8) (by decide +kernel) (by decide) ⟨by omega, by omega⟩ (fun h137 => ?_) (fun h137 => ?_)
    · have h137 : ¬ w = 0 := h137
      refine gm_sz (gm_p_load (pc := 145) (i := .iload 4) (sr := 0) (j := 4) (by decide +kernel) rfl rfl rfl) ?_
      refine gm_sz (gm_p_const (pc := 147) (i := .iconst 1) (v := gm_vi 1) (by decide +kernel) (by decide +kernel)) ?_
      refine fw_ic (cc := .ne) (pc := 148) (off := 8) (by decide +kernel) (by decide) ⟨by omega, by omega⟩ ⟨by decide, by decide⟩ (fun h148 => ?_) (fun h148 => ?_)
      · have h148 : ¬ w = 1 := h148
        refine gm_sz (gm_p_load (pc := 156) (i := .iload 7) (sr := 0) (j := 7) (by decide +kernel) rfl rfl rfl) ?_
        rw [ek]
        exact gm_r_int (pc := 158) (by decide +kernel) (Or.inl (by decide +kernel)) (kv2 (by omega) _)
      · have h148 : w = 1 := Classical.not_not.mp h148
        refine gm_sz (gm_p_load (pc := 151) (i := .iload 6) (sr := 0) (j := 6) (by decide +kernel) rfl rfl rfl) ?_
        refine gm_sz (gm_p_goto (pc := 153) (off := 5) (by decide +kernel) (by decide)) ?_
        rw [ek]
        exact gm_r_int (pc := 158) (by decide +kernel) (Or.inl (by decide +kernel)) (kv1 (by omega) _)
    · have h137 : w = 0 := Classical.not_not.mp h137
      refine gm_sz (gm_p_load (pc := 140) (i := .iload 5) (sr := 0) (j := 5) (by decide +kernel) rfl rfl rfl) ?_
      refine gm_sz (gm_p_goto (pc := 142) (off := 16) (by decide +kernel) (by decide)) ?_
      rw [ek]
      exact gm_r_int (pc := 158) (by decide +kernel) (Or.inl (by decide +kernel)) (kv0 (by omega) _)
  | succ u ih =>
    intro k M1 hk hf hI1
    have tb9 := thf_b (N := N) (h := h) (φ := φ) (lane := lane) (y := y) (t := t) k
    refine gm_sz (gm_p_load (pc := 71) (i := .iload 8) (sr := 0) (j := 8) (by decide +kernel) rfl rfl rfl) ?_
    refine gm_sz (gm_p_load (pc := 73) (i := .aload_n 0) (sr := 2) (j := 0) (by decide +kernel) rfl rfl rfl) ?_
    refine gm_sz (fw_gr (pc := 74) (ix := 23) (ci := 0) (j := 3) (r := 3) (by decide +kernel) (e0k hE (k := 1) (c := 0) (by decide +kernel)) (by decide +kernel) (by decide +kernel) (e0r hE (k := 1) (j := 3) (r := 3) (by decide +kernel))) ?_
    refine gm_sz (fw_gi (pc := 77) (ix := 226) (ci := 1) (j := 1) (x := N 1) (by decide +kernel) (e0k hE (k := 3) (c := 1) (by decide +kernel)) (by decide +kernel) (by decide +kernel) ((fr_c hf (by decide)).trans (ti_las hT))) ?_
    refine fw_icf (cc := .ge) (pc := 80) (off := 55) (by decide +kernel) (by decide) ⟨by omega, by omega⟩ ⟨by omega, by omega⟩ (show ¬ (N 1) ≤ (k : Int) by omega) ?_
    refine gm_sz (gm_p_load (pc := 83) (i := .aload_n 0) (sr := 2) (j := 0) (by decide +kernel) rfl rfl rfl) ?_
    refine gm_sz (fw_gr (pc := 84) (ix := 58) (ci := 0) (j := 9) (r := 206) (by decide +kernel) (e0k hE (k := 1) (c := 0) (by decide +kernel)) (by decide +kernel) (by decide +kernel) (e0r hE (k := 1) (j := 9) (r := 206) (by decide +kernel))) ?_
    refine gm_sz (gm_p_load (pc := 87) (i := .iload_n 1) (sr := 0) (j := 1) (by decide +kernel) rfl rfl rfl) ?_
    refine gm_sz (gm_p_load (pc := 88) (i := .iload 8) (sr := 0) (j := 8) (by decide +kernel) rfl rfl rfl) ?_
    refine gm_sz (gm_p_load (pc := 90) (i := .iload_n 2) (sr := 0) (j := 2) (by decide +kernel) rfl rfl rfl) ?_
    refine gm_sz (gm_p_const (pc := 91) (i := .iconst 0) (v := gm_vi 0) (by decide +kernel) (by decide +kernel)) ?_
    refine gm_c_virt (k := 206) (ci := 5) (mj := 29) (ix := 291) (pc := 92) (as := [gm_vi lane, gm_vi (k : Int), gm_vi y, gm_vi 0]) (st := []) (d' := d - 1) (bc' := 0) (bs' := 0) (by decide +kernel) (by decide +kernel) (by decide +kernel) (by decide +kernel) (e0k hE (k := 206) (c := 5) (by decide +kernel)).1 (e0k hE (k := 206) (c := 5) (by decide +kernel)).2 (by decide) (by decide +kernel) (show 4 = gm_na 29 by decide +kernel) (fw_c4 fw_si fw_si fw_si fw_si) (show 5 ≤ gm_ml 29 by decide +kernel) (Nat.le_of_ble_eq_true rfl) (by omega) (Nat.zero_le _) (Nat.zero_le _) ?_
    refine wy_st206 hE (ti_fr (W := [(206, some 2), (206, some 3), (206, some 4), (206, some 5), (206, some 6), (206, some 7), (206, some 8), (200, some 6), (204, none), (205, none)]) hT (fr_t fr_0 hf (by decide)) (by decide) (by decide +kernel)) hN (by first | omega | (split <;> decide)) ?_
    show gm_Wp X LX d _ _ 167 95 _ [] n K _ _ Q
    refine gm_sz (gm_p_load (pc := 95) (i := .aload_n 0) (sr := 2) (j := 0) (by decide +kernel) rfl rfl rfl) ?_
    refine gm_sz (fw_gr (pc := 96) (ix := 58) (ci := 0) (j := 9) (r := 206) (by decide +kernel) (e0k hE (k := 1) (c := 0) (by decide +kernel)) (by decide +kernel) (by decide +kernel) (e0r hE (k := 1) (j := 9) (r := 206) (by decide +kernel))) ?_
    refine gm_sz (gm_p_load (pc := 99) (i := .iload_n 3) (sr := 0) (j := 3) (by decide +kernel) rfl rfl rfl) ?_
    refine gm_c_virt (k := 206) (ci := 5) (mj := 30) (ix := 295) (pc := 100) (as := [gm_vi t]) (st := []) (d' := d - 1) (bc' := 0) (bs' := 0) (by decide +kernel) (by decide +kernel) (by decide +kernel) (by decide +kernel) (e0k hE (k := 206) (c := 5) (by decide +kernel)).1 (e0k hE (k := 206) (c := 5) (by decide +kernel)).2 (by decide) (by decide +kernel) (show 1 = gm_na 30 by decide +kernel) (fw_c1 fw_si) (show 2 ≤ gm_ml 30 by decide +kernel) (Nat.le_of_ble_eq_true rfl) (by omega) (Nat.zero_le _) (Nat.zero_le _) ?_
    refine fo_30l (lane := lane) (row := (k : Int)) (y := y) (x := t) (by omega) hE (ti_fr (W := [(206, some 2), (206, some 3), (206, some 4), (206, some 5), (206, some 6), (206, some 7), (206, some 8), (200, some 6), (204, none), (205, none)]) hT (fr_p (fr_p (fr_p (fr_p (fr_p (fr_p (fr_p (fr_t fr_0 hf (by decide)) (Or.inr (by decide))) (Or.inr (by decide))) (Or.inr (by decide))) (Or.inr (by decide))) (Or.inr (by decide))) (Or.inr (by decide))) (Or.inr (by decide))) (by decide) (by decide +kernel)) hN hfw (hfw.2.1 [(206, some 2), (206, some 5), (206, some 7), (206, some 3), (206, some 4), (206, some 6), (206, some 8)] _ _ (by decide) (fr_p (fr_p (fr_p (fr_p (fr_p (fr_p (fr_p fr_0 (Or.inr (by decide))) (Or.inr (by decide))) (Or.inr (by decide))) (Or.inr (by decide))) (Or.inr (by decide))) (Or.inr (by decide))) (Or.inr (by decide))) hI1) ((uM_ne (by omega)).trans ((uM_ne (by omega)).trans ((uM_ne (by omega)).trans ((uM_ne (by omega)).trans ((uM_ne (by omega)).trans ((uM_ne (by omega)).trans uM_at)))))) ((uM_ne (by omega)).trans ((uM_ne (by omega)).trans ((uM_ne (by omega)).trans uM_at))) ((uM_ne (by omega)).trans ((uM_ne (by omega)).trans uM_at)) ((uM_ne (by omega)).trans ((uM_ne (by omega)).trans ((uM_ne (by omega)).trans ((uM_ne (by omega)).trans ((uM_ne (by omega)).trans uM_at))))) ((uM_ne (by omega)).trans uM_at) ((uM_ne (by omega)).trans ((uM_ne (by omega)).trans ((uM_ne (by omega)).trans ((uM_ne (by omega)).trans uM_at)))) ⟨by omega, by omega⟩ ⟨by omega, by omega⟩ ⟨by omega, by omega⟩ ⟨by omega, by omega⟩ (fun w1 w2 M30 hf30 hI30 => ?_) (fun w1 M30 hf30 hI30 => ?_)
    · show gm_Wp X LX d _ _ 167 103 _ [gm_vi (fro N h φ lane (k : Int) y)] n K _ _ Q
      have w1 : ¬ fro N h φ lane (k : Int) y = -1 := w1
      have w2 : fro N h φ lane (k : Int) y ≤ t := w2
      have fb := fro_b (N := N) (h := h) (φ := φ) (lane := lane) (row := (k : Int)) (y := y) (by omega)
      refine gm_sz (gm_p_load (pc := 103) (i := .iload_n 3) (sr := 0) (j := 3) (by decide +kernel) rfl rfl rfl) ?_
      refine fw_ic (cc := .ne) (pc := 104) (off := 25) (by decide +kernel) (by decide) ⟨by omega, by omega⟩ ⟨by omega, by omega⟩ (fun h104 => ?_) (fun h104 => ?_)
      · have h104 : ¬ (fro N h φ lane (k : Int) y) = t := h104
        refine gm_sz (gm_p_iinc (pc := 129) (j := 8) (z := 1) (by decide +kernel) rfl) ?_
        refine gm_sz (gm_p_goto (pc := 132) (off := (-61)) (by decide +kernel) (by decide)) ?_
        have e9 : (thf N h φ lane y t (k + 1)) = (thf N h φ lane y t k) := if_neg (by omega)
        have h9 := ih (k + 1) _ (by omega) (fr_t (fr_p (fr_p (fr_p (fr_p (fr_p (fr_p (fr_p (fr_t fr_0 hf (by decide)) (Or.inr (by decide))) (Or.inr (by decide))) (Or.inr (by decide))) (Or.inr (by decide))) (Or.inr (by decide))) (Or.inr (by decide))) (Or.inr (by decide))) hf30 (by decide)) hI30
        rw [e9, show ((k + 1 : Nat) : Int) = (k : Int) + 1 by omega] at h9
        exact h9
      · have h104 : (fro N h φ lane (k : Int) y) = t := Classical.not_not.mp h104
        refine gm_sz (gm_p_iinc (pc := 107) (j := 5) (z := 1) (by decide +kernel) rfl) ?_
        refine gm_sz (gm_p_load (pc := 110) (i := .iload 6) (sr := 0) (j := 6) (by decide +kernel) rfl rfl rfl) ?_
        refine gm_sz (gm_p_const (pc := 112) (i := .iconst (-1)) (v := gm_vi (-1)) (by decide +kernel) (by decide +kernel)) ?_
        refine fw_ic (cc := .ne) (pc := 113) (off := 8) (by decide +kernel) (by decide) ⟨by omega, by omega⟩ ⟨by decide, by decide⟩ (fun h113 => ?_) (fun h113 => ?_)
        · have h113 : ¬ ((thf N h φ lane y t k).2.1) = (-1) := h113
          refine gm_sz (gm_p_load (pc := 121) (i := .iload 6) (sr := 0) (j := 6) (by decide +kernel) rfl rfl rfl) ?_
          refine gm_sz (gm_p_stor (pc := 123) (i := .istore 6) (sr := 0) (j := 6) (by decide +kernel) rfl (show 7 ≤ _ from Nat.le_of_ble_eq_true rfl) rfl) ?_
          refine gm_sz (gm_p_load (pc := 125) (i := .iload 8) (sr := 0) (j := 8) (by decide +kernel) rfl rfl rfl) ?_
          refine gm_sz (gm_p_stor (pc := 127) (i := .istore 7) (sr := 0) (j := 7) (by decide +kernel) rfl (show 8 ≤ _ from Nat.le_of_ble_eq_true rfl) rfl) ?_
          refine gm_sz (gm_p_iinc (pc := 129) (j := 8) (z := 1) (by decide +kernel) rfl) ?_
          refine gm_sz (gm_p_goto (pc := 132) (off := (-61)) (by decide +kernel) (by decide)) ?_
          have e8 : ¬ (thf N h φ lane y t k).1 = 0 := by omega
          have e9 : (thf N h φ lane y t (k + 1)) = ((thf N h φ lane y t k).1 + 1, (thf N h φ lane y t k).2.1, (k : Int)) := by
            rw [show (thf N h φ lane y t (k + 1)) = ((thf N h φ lane y t k).1 + 1, if (thf N h φ lane y t k).1 = 0 then (k : Int) else (thf N h φ lane y t k).2.1, (k : Int)) from if_pos (by omega), if_neg e8]
          have h9 := ih (k + 1) _ (by omega) (fr_t (fr_p (fr_p (fr_p (fr_p (fr_p (fr_p (fr_p (fr_t fr_0 hf (by decide)) (Or.inr (by decide))) (Or.inr (by decide))) (Or.inr (by decide))) (Or.inr (by decide))) (Or.inr (by decide))) (Or.inr (by decide))) (Or.inr (by decide))) hf30 (by decide)) hI30
          rw [e9, show ((k + 1 : Nat) : Int) = (k : Int) + 1 by omega] at h9
          exact h9
        · have h113 : ((thf N h φ lane y t k).2.1) = (-1) := Classical.not_not.mp h113
          refine gm_sz (gm_p_load (pc := 116) (i := .iload 8) (sr := 0) (j := 8) (by decide +kernel) rfl rfl rfl) ?_
          refine gm_sz (gm_p_goto (pc := 118) (off := 5) (by decide +kernel) (by decide)) ?_
          refine gm_sz (gm_p_stor (pc := 123) (i := .istore 6) (sr := 0) (j := 6) (by decide +kernel) rfl (show 7 ≤ _ from Nat.le_of_ble_eq_true rfl) rfl) ?_
          refine gm_sz (gm_p_load (pc := 125) (i := .iload 8) (sr := 0) (j := 8) (by decide +kernel) rfl rfl rfl) ?_
          refine gm_sz (gm_p_stor (pc := 127) (i := .istore 7) (sr := 0) (j := 7) (by decide +kernel) rfl (show 8 ≤ _ from Nat.le_of_ble_eq_true rfl) rfl) ?_
          refine gm_sz (gm_p_iinc (pc := 129) (j := 8) (z := 1) (by decide +kernel) rfl) ?_
          refine gm_sz (gm_p_goto (pc := 132) (off := (-61)) (by decide +kernel) (by decide)) ?_
          have e8 : (thf N h φ lane y t k).1 = 0 := by omega
          have e9 : (thf N h φ lane y t (k + 1)) = ((thf N h φ lane y t k).1 + 1, (k : Int), (k : Int)) := by
            rw [show (thf N h φ lane y t (k + 1)) = ((thf N h φ lane y t k).1 + 1, if (thf N h φ lane y t k).1 = 0 then (k : Int) else (thf N h φ lane y t k).2.1, (k : Int)) from if_pos (by omega), if_pos e8]
          have h9 := ih (k + 1) _ (by omega) (fr_t (fr_p (fr_p (fr_p (fr_p (fr_p (fr_p (fr_p (fr_t fr_0 hf (by decide)) (Or.inr (by decide))) (Or.inr (by decide))) (Or.inr (by decide))) (Or.inr (by decide))) (Or.inr (by decide))) (Or.inr (by decide))) (Or.inr (by decide))) hf30 (by decide)) hI30
          rw [e9, show ((k + 1 : Nat) : Int) = (k : Int) + 1 by omega] at h9
          exact h9
    · show gm_Wp X LX d _ _ 167 103 _ [gm_vi (-1)] n K _ _ Q
      have w1 : fro N h φ lane (k : Int) y = -1 ∨ t < fro N h φ lane (k : Int) y := w1
      have fb := fro_b (N := N) (h := h) (φ := φ) (lane := lane) (row := (k : Int)) (y := y) (by omega)
      refine gm_sz (gm_p_load (pc := 103) (i := .iload_n 3) (sr := 0) (j := 3) (by decide +kernel) rfl rfl rfl) ?_
      refine fw_ic (cc := .ne) (pc := 104) (off := 25) (by decide +kernel) (by decide) ⟨by decide, by decide⟩ ⟨by omega, by omega⟩ (fun h104 => ?_) (fun h104 => ?_)
      · have h104 : ¬ (-1) = t := h104
        refine gm_sz (gm_p_iinc (pc := 129) (j := 8) (z := 1) (by decide +kernel) rfl) ?_
        refine gm_sz (gm_p_goto (pc := 132) (off := (-61)) (by decide +kernel) (by decide)) ?_
        have e9 : (thf N h φ lane y t (k + 1)) = (thf N h φ lane y t k) := if_neg (by omega)
        have h9 := ih (k + 1) _ (by omega) (fr_t (fr_p (fr_p (fr_p (fr_p (fr_p (fr_p (fr_p (fr_t fr_0 hf (by decide)) (Or.inr (by decide))) (Or.inr (by decide))) (Or.inr (by decide))) (Or.inr (by decide))) (Or.inr (by decide))) (Or.inr (by decide))) (Or.inr (by decide))) hf30 (by decide)) hI30
        rw [e9, show ((k + 1 : Nat) : Int) = (k : Int) + 1 by omega] at h9
        exact h9
      · have h104 : (-1) = t := Classical.not_not.mp h104
        refine gm_sz (gm_p_iinc (pc := 107) (j := 5) (z := 1) (by decide +kernel) rfl) ?_
        refine gm_sz (gm_p_load (pc := 110) (i := .iload 6) (sr := 0) (j := 6) (by decide +kernel) rfl rfl rfl) ?_
        refine gm_sz (gm_p_const (pc := 112) (i := .iconst (-1)) (v := gm_vi (-1)) (by decide +kernel) (by decide +kernel)) ?_
        refine fw_ic (cc := .ne) (pc := 113) (off := 8) (by decide +kernel) (by decide) ⟨by omega, by omega⟩ ⟨by decide, by decide⟩ (fun h113 => ?_) (fun h113 => ?_)
        · have h113 : ¬ ((thf N h φ lane y t k).2.1) = (-1) := h113
          refine gm_sz (gm_p_load (pc := 121) (i := .iload 6) (sr := 0) (j := 6) (by decide +kernel) rfl rfl rfl) ?_
          refine gm_sz (gm_p_stor (pc := 123) (i := .istore 6) (sr := 0) (j := 6) (by decide +kernel) rfl (show 7 ≤ _ from Nat.le_of_ble_eq_true rfl) rfl) ?_
          refine gm_sz (gm_p_load (pc := 125) (i := .iload 8) (sr := 0) (j := 8) (by decide +kernel) rfl rfl rfl) ?_
          refine gm_sz (gm_p_stor (pc := 127) (i := .istore 7) (sr := 0) (j := 7) (by decide +kernel) rfl (show 8 ≤ _ from Nat.le_of_ble_eq_true rfl) rfl) ?_
          refine gm_sz (gm_p_iinc (pc := 129) (j := 8) (z := 1) (by decide +kernel) rfl) ?_
          refine gm_sz (gm_p_goto (pc := 132) (off := (-61)) (by decide +kernel) (by decide)) ?_
          have e8 : ¬ (thf N h φ lane y t k).1 = 0 := by omega
          have e9 : (thf N h φ lane y t (k + 1)) = ((thf N h φ lane y t k).1 + 1, (thf N h φ lane y t k).2.1, (k : Int)) := by
            rw [show (thf N h φ lane y t (k + 1)) = ((thf N h φ lane y t k).1 + 1, if (thf N h φ lane y t k).1 = 0 then (k : Int) else (thf N h φ lane y t k).2.1, (k : Int)) from if_pos (by omega), if_neg e8]
          have h9 := ih (k + 1) _ (by omega) (fr_t (fr_p (fr_p (fr_p (fr_p (fr_p (fr_p (fr_p (fr_t fr_0 hf (by decide)) (Or.inr (by decide))) (Or.inr (by decide))) (Or.inr (by decide))) (Or.inr (by decide))) (Or.inr (by decide))) (Or.inr (by decide))) (Or.inr (by decide))) hf30 (by decide)) hI30
          rw [e9, show ((k + 1 : Nat) : Int) = (k : Int) + 1 by omega] at h9
          exact h9
        · have h113 : ((thf N h φ lane y t k).2.1) = (-1) := Classical.not_not.mp h113
          refine gm_sz (gm_p_load (pc := 116) (i := .iload 8) (sr := 0) (j := 8) (by decide +kernel) rfl rfl rfl) ?_
          refine gm_sz (gm_p_goto (pc := 118) (off := 5) (by decide +kernel) (by decide)) ?_
          refine gm_sz (gm_p_stor (pc := 123) (i := .istore 6) (sr := 0) (j := 6) (by decide +kernel) rfl (show 7 ≤ _ from Nat.le_of_ble_eq_true rfl) rfl) ?_
          refine gm_sz (gm_p_load (pc := 125) (i := .iload 8) (sr := 0) (j := 8) (by decide +kernel) rfl rfl rfl) ?_
          refine gm_sz (gm_p_stor (pc := 127) (i := .istore 7) (sr := 0) (j := 7) (by decide +kernel) rfl (show 8 ≤ _ from Nat.le_of_ble_eq_true rfl) rfl) ?_
          refine gm_sz (gm_p_iinc (pc := 129) (j := 8) (z := 1) (by decide +kernel) rfl) ?_
          refine gm_sz (gm_p_goto (pc := 132) (off := (-61)) (by decide +kernel) (by decide)) ?_
          have e8 : (thf N h φ lane y t k).1 = 0 := by omega
          have e9 : (thf N h φ lane y t (k + 1)) = ((thf N h φ lane y t k).1 + 1, (k : Int), (k : Int)) := by
            rw [show (thf N h φ lane y t (k + 1)) = ((thf N h φ lane y t k).1 + 1, if (thf N h φ lane y t k).1 = 0 then (k : Int) else (thf N h φ lane y t k).2.1, (k : Int)) from if_pos (by omega), if_pos e8]
          have h9 := ih (k + 1) _ (by omega) (fr_t (fr_p (fr_p (fr_p (fr_p (fr_p (fr_p (fr_p (fr_t fr_0 hf (by decide)) (Or.inr (by decide))) (Or.inr (by decide))) (Or.inr (by decide))) (Or.inr (by decide))) (Or.inr (by decide))) (Or.inr (by decide))) (Or.inr (by decide))) hf30 (by decide)) hI30
          rw [e9, show ((k + 1 : Nat) : Int) = (k : Int) + 1 by omega] at h9
          exact h9
theorem th_r (hd : 20 ≤ d) (hE : E0 n K R) (hT : TR N h M) (hN : NR N) (hfw : FLR X LX n K R N h FI φ) (hI : FI M) (hl : 0 ≤ lane ∧ lane < N 0) (hy : ((0 ≤ y ∧ y ≤ 299) ∧ (0 ≤ t ∧ t ≤ 299)) ∧ N 9 ≤ y) (hw : 0 ≤ w ∧ w ≤ 2) (kv0 : w = 0 → ∀ M2, M2 226 0 = 0 → Q (.inl (some (gm_vi (thf N h φ lane y t (N 1).toNat).1))) n K R M2) (kv1 : w = 1 → ∀ M2, M2 226 0 = 0 → Q (.inl (some (gm_vi (thf N h φ lane y t (N 1).toNat).2.1))) n K R M2) (kv2 : w = 2 → ∀ M2, M2 226 0 = 0 → Q (.inl (some (gm_vi (thf N h φ lane y t (N 1).toNat).2.2))) n K R M2) : ∀ (u k : Nat) (M1 : gm_M), (k : Int) + (u : Int) = N 1 → fr [(226, some 0), (226, some 29), (226, some 30), (226, some 26), (226, some 17), (226, some 18), (226, some 19), (226, some 20), (226, some 21), (226, some 22), (226, some 23), (235, none), (233, none), (236, none), (237, none)] M M1 → FI M1 → M1 226 0 = 0 → gm_Wp X LX d bc bs 324 90 [some (gm_vr 226), some (gm_vi lane), some (gm_vi y), some (gm_vi t), some (gm_vi w), some (gm_vi ((thf N h φ lane y t k).1)), some (gm_vi ((thf N h φ lane y t k).2.1)), some (gm_vi ((thf N h φ lane y t k).2.2)), some (gm_vi (k : Int))] [] n K R M1 Q := by
  obtain ⟨⟨⟨a0, b0⟩, ⟨a1, b1⟩, ⟨a10, b10⟩, ⟨a11, b11⟩, ⟨a12, b12⟩, a9, b9⟩, ⟨⟨a2, b2⟩, ⟨a5, b5⟩, ⟨a3, b3⟩, ⟨a4, b4⟩, ⟨a6, b6⟩, ⟨a14, b14⟩, ⟨a7, b7⟩, a13, b13⟩, rF, rP, rL⟩ := id hN
  intro u
  induction u with
  | zero =>
    intro k M1 hk hf hI1 h0
    have ek : k = (N 1).toNat := by omega
    refine gm_sz (gm_p_load (pc := 90) (i := .iload 8) (sr := 0) (j := 8) (by decide +kernel) rfl rfl rfl) ?_
    refine gm_sz (gm_p_load (pc := 92) (i := .aload_n 0) (sr := 2) (j := 0) (by decide +kernel) rfl rfl rfl) ?_
    refine gm_c_virt (k := 226) (ci := 11) (mj := 259) (ix := 94) (pc := 93) (as := []) (st := [gm_vi (k : Int)]) (d' := d - 1) (bc' := 0) (bs' := 0) (by decide +kernel) (by decide +kernel) (by decide +kernel) (by decide +kernel) (e0k hE (k := 226) (c := 11) (by decide +kernel)).1 (e0k hE (k := 226) (c := 11) (by decide +kernel)).2 (by decide) (by decide +kernel) (show 0 = gm_na 259 by decide +kernel) fw_c0 (show 1 ≤ gm_ml 259 by decide +kernel) (Nat.le_of_ble_eq_true rfl) (by omega) (Nat.zero_le _) (Nat.zero_le _) ?_
    refine re_lip hE (tr_fr (W := [(226, some 0), (226, some 29), (226, some 30), (226, some 26), (226, some 17), (226, some 18), (226, some 19), (226, some 20), (226, some 21), (226, some 22), (226, some 23), (235, none), (233, none), (236, none), (237, none)]) hT (fr_t fr_0 hf (by decide)) (by decide)) hN ?_
    show gm_Wp X LX d _ _ 324 96 _ [gm_vi (N 1), gm_vi (k : Int)] n K _ _ Q
    refine fw_ict (cc := .ge) (pc := 96) (off := 45) (by decide +kernel) (by decide) ⟨by omega, by omega⟩ ⟨by omega, by omega⟩ (show (N 1) ≤ (k : Int) by omega) ?_
    refine gm_sz (gm_p_load (pc := 141) (i := .iload 4) (sr := 0) (j := 4) (by decide +kernel) rfl rfl rfl) ?_
    refine fw_if (cc := .ne) (pc := 143) (off := 8) (by decide +kernel) (by decide) ⟨by omega, by omega⟩ (fun h143 => ?_) (fun h143 => ?_)
    · have h143 : ¬ w = 0 := h143
      refine gm_sz (gm_p_load (pc := 151) (i := .iload 4) (sr := 0) (j := 4) (by decide +kernel) rfl rfl rfl) ?_
      refine gm_sz (gm_p_const (pc := 153) (i := .iconst 1) (v := gm_vi 1) (by decide +kernel) (by decide +kernel)) ?_
      refine fw_ic (cc := .ne) (pc := 154) (off := 8) (by decide +kernel) (by decide) ⟨by omega, by omega⟩ ⟨by decide, by decide⟩ (fun h154 => ?_) (fun h154 => ?_)
      · have h154 : ¬ w = 1 := h154
        refine gm_sz (gm_p_load (pc := 162) (i := .iload 7) (sr := 0) (j := 7) (by decide +kernel) rfl rfl rfl) ?_
        rw [ek]
        exact gm_r_int (pc := 164) (by decide +kernel) (Or.inl (by decide +kernel)) (kv2 (by omega) _ h0)
      · have h154 : w = 1 := Classical.not_not.mp h154
        refine gm_sz (gm_p_load (pc := 157) (i := .iload 6) (sr := 0) (j := 6) (by decide +kernel) rfl rfl rfl) ?_
        refine gm_sz (gm_p_goto (pc := 159) (off := 5) (by decide +kernel) (by decide)) ?_
        rw [ek]
        exact gm_r_int (pc := 164) (by decide +kernel) (Or.inl (by decide +kernel)) (kv1 (by omega) _ h0)
    · have h143 : w = 0 := Classical.not_not.mp h143
      refine gm_sz (gm_p_load (pc := 146) (i := .iload 5) (sr := 0) (j := 5) (by decide +kernel) rfl rfl rfl) ?_
      refine gm_sz (gm_p_goto (pc := 148) (off := 16) (by decide +kernel) (by decide)) ?_
      rw [ek]
      exact gm_r_int (pc := 164) (by decide +kernel) (Or.inl (by decide +kernel)) (kv0 (by omega) _ h0)
  | succ u ih =>
    intro k M1 hk hf hI1 h0
    have tb9 := thf_b (N := N) (h := h) (φ := φ) (lane := lane) (y := y) (t := t) k
    refine gm_sz (gm_p_load (pc := 90) (i := .iload 8) (sr := 0) (j := 8) (by decide +kernel) rfl rfl rfl) ?_
    refine gm_sz (gm_p_load (pc := 92) (i := .aload_n 0) (sr := 2) (j := 0) (by decide +kernel) rfl rfl rfl) ?_
    refine gm_c_virt (k := 226) (ci := 11) (mj := 259) (ix := 94) (pc := 93) (as := []) (st := [gm_vi (k : Int)]) (d' := d - 1) (bc' := 0) (bs' := 0) (by decide +kernel) (by decide +kernel) (by decide +kernel) (by decide +kernel) (e0k hE (k := 226) (c := 11) (by decide +kernel)).1 (e0k hE (k := 226) (c := 11) (by decide +kernel)).2 (by decide) (by decide +kernel) (show 0 = gm_na 259 by decide +kernel) fw_c0 (show 1 ≤ gm_ml 259 by decide +kernel) (Nat.le_of_ble_eq_true rfl) (by omega) (Nat.zero_le _) (Nat.zero_le _) ?_
    refine re_lip hE (tr_fr (W := [(226, some 0), (226, some 29), (226, some 30), (226, some 26), (226, some 17), (226, some 18), (226, some 19), (226, some 20), (226, some 21), (226, some 22), (226, some 23), (235, none), (233, none), (236, none), (237, none)]) hT (fr_t fr_0 hf (by decide)) (by decide)) hN ?_
    show gm_Wp X LX d _ _ 324 96 _ [gm_vi (N 1), gm_vi (k : Int)] n K _ _ Q
    refine fw_icf (cc := .ge) (pc := 96) (off := 45) (by decide +kernel) (by decide) ⟨by omega, by omega⟩ ⟨by omega, by omega⟩ (show ¬ (N 1) ≤ (k : Int) by omega) ?_
    refine gm_sz (gm_p_load (pc := 99) (i := .aload_n 0) (sr := 2) (j := 0) (by decide +kernel) rfl rfl rfl) ?_
    refine gm_sz (gm_p_load (pc := 100) (i := .iload_n 1) (sr := 0) (j := 1) (by decide +kernel) rfl rfl rfl) ?_
    refine gm_sz (gm_p_load (pc := 101) (i := .iload 8) (sr := 0) (j := 8) (by decide +kernel) rfl rfl rfl) ?_
    refine gm_sz (gm_p_load (pc := 103) (i := .iload_n 2) (sr := 0) (j := 2) (by decide +kernel) rfl rfl rfl) ?_
    refine gm_c_virt (k := 226) (ci := 11) (mj := 325) (ix := 425) (pc := 104) (as := [gm_vi lane, gm_vi (k : Int), gm_vi y]) (st := []) (d' := d - 1) (bc' := 0) (bs' := 0) (by decide +kernel) (by decide +kernel) (by decide +kernel) (by decide +kernel) (e0k hE (k := 226) (c := 11) (by decide +kernel)).1 (e0k hE (k := 226) (c := 11) (by decide +kernel)).2 (by decide) (by decide +kernel) (show 3 = gm_na 325 by decide +kernel) (fw_c3 fw_si fw_si fw_si) (show 4 ≤ gm_ml 325 by decide +kernel) (Nat.le_of_ble_eq_true rfl) (by omega) (Nat.zero_le _) (Nat.zero_le _) ?_
    refine ou_325 (lane := lane) (row := (k : Int)) (y := y) (by omega) hE (tr_fr (W := [(226, some 0), (226, some 29), (226, some 30), (226, some 26), (226, some 17), (226, some 18), (226, some 19), (226, some 20), (226, some 21), (226, some 22), (226, some 23), (235, none), (233, none), (236, none), (237, none)]) hT (fr_t fr_0 hf (by decide)) (by decide)) hN hfw hI1 ⟨by omega, by omega⟩ ⟨by omega, by omega⟩ ⟨by omega, by omega⟩ (fun M25 hf25 hI25 => ?_)
    show gm_Wp X LX d _ _ 324 107 _ [gm_vi (fro N h φ lane (k : Int) y)] n K _ _ Q
    have fb := fro_b (N := N) (h := h) (φ := φ) (lane := lane) (row := (k : Int)) (y := y) (by omega)
    refine gm_sz (gm_p_load (pc := 107) (i := .iload_n 3) (sr := 0) (j := 3) (by decide +kernel) rfl rfl rfl) ?_
    refine fw_ic (cc := .eq) (pc := 108) (off := 6) (by decide +kernel) (by decide) ⟨by omega, by omega⟩ ⟨by omega, by omega⟩ (fun h108 => ?_) (fun h108 => ?_)
    · have h108 : (fro N h φ lane (k : Int) y) = t := h108
      refine gm_sz (gm_p_load (pc := 114) (i := .iload 5) (sr := 0) (j := 5) (by decide +kernel) rfl rfl rfl) ?_
      refine fw_if (cc := .ne) (pc := 116) (off := 8) (by decide +kernel) (by decide) ⟨by omega, by omega⟩ (fun h116 => ?_) (fun h116 => ?_)
      · have h116 : ¬ ((thf N h φ lane y t k).1) = 0 := h116
        refine gm_sz (gm_p_load (pc := 124) (i := .iload 6) (sr := 0) (j := 6) (by decide +kernel) rfl rfl rfl) ?_
        refine gm_sz (gm_p_stor (pc := 126) (i := .istore 6) (sr := 0) (j := 6) (by decide +kernel) rfl (show 7 ≤ _ from Nat.le_of_ble_eq_true rfl) rfl) ?_
        refine gm_sz (gm_p_load (pc := 128) (i := .iload 8) (sr := 0) (j := 8) (by decide +kernel) rfl rfl rfl) ?_
        refine gm_sz (gm_p_stor (pc := 130) (i := .istore 7) (sr := 0) (j := 7) (by decide +kernel) rfl (show 8 ≤ _ from Nat.le_of_ble_eq_true rfl) rfl) ?_
        refine gm_sz (gm_p_iinc (pc := 132) (j := 5) (z := 1) (by decide +kernel) rfl) ?_
        refine gm_sz (gm_p_iinc (pc := 135) (j := 8) (z := 1) (by decide +kernel) rfl) ?_
        refine gm_sz (gm_p_goto (pc := 138) (off := (-48)) (by decide +kernel) (by decide)) ?_
        have e8 : ¬ (thf N h φ lane y t k).1 = 0 := by omega
        have e9 : (thf N h φ lane y t (k + 1)) = ((thf N h φ lane y t k).1 + 1, (thf N h φ lane y t k).2.1, (k : Int)) := by
          rw [show (thf N h φ lane y t (k + 1)) = ((thf N h φ lane y t k).1 + 1, if (thf N h φ lane y t k).1 = 0 then (k : Int) else (thf N h φ lane y t k).2.1, (k : Int)) from if_pos (by omega), if_neg e8]
        have h9 := ih (k + 1) _ (by omega) (fr_t (fr_t fr_0 hf (by decide)) hf25 (by decide)) hI25 ((fr_j hf25 (by decide)).trans h0)
        rw [e9, show ((k + 1 : Nat) : Int) = (k : Int) + 1 by omega] at h9
        exact h9
      · have h116 : ((thf N h φ lane y t k).1) = 0 := Classical.not_not.mp h116
        refine gm_sz (gm_p_load (pc := 119) (i := .iload 8) (sr := 0) (j := 8) (by decide +kernel) rfl rfl rfl) ?_
        refine gm_sz (gm_p_goto (pc := 121) (off := 5) (by decide +kernel) (by decide)) ?_
        refine gm_sz (gm_p_stor (pc := 126) (i := .istore 6) (sr := 0) (j := 6) (by decide +kernel) rfl (show 7 ≤ _ from Nat.le_of_ble_eq_true rfl) rfl) ?_
        refine gm_sz (gm_p_load (pc := 128) (i := .iload 8) (sr := 0) (j := 8) (by decide +kernel) rfl rfl rfl) ?_
        refine gm_sz (gm_p_stor (pc := 130) (i := .istore 7) (sr := 0) (j := 7) (by decide +kernel) rfl (show 8 ≤ _ from Nat.le_of_ble_eq_true rfl) rfl) ?_
        refine gm_sz (gm_p_iinc (pc := 132) (j := 5) (z := 1) (by decide +kernel) rfl) ?_
        refine gm_sz (gm_p_iinc (pc := 135) (j := 8) (z := 1) (by decide +kernel) rfl) ?_
        refine gm_sz (gm_p_goto (pc := 138) (off := (-48)) (by decide +kernel) (by decide)) ?_
        have e8 : (thf N h φ lane y t k).1 = 0 := by omega
        have e9 : (thf N h φ lane y t (k + 1)) = ((thf N h φ lane y t k).1 + 1, (k : Int), (k : Int)) := by
          rw [show (thf N h φ lane y t (k + 1)) = ((thf N h φ lane y t k).1 + 1, if (thf N h φ lane y t k).1 = 0 then (k : Int) else (thf N h φ lane y t k).2.1, (k : Int)) from if_pos (by omega), if_pos e8]
        have h9 := ih (k + 1) _ (by omega) (fr_t (fr_t fr_0 hf (by decide)) hf25 (by decide)) hI25 ((fr_j hf25 (by decide)).trans h0)
        rw [e9, show ((k + 1 : Nat) : Int) = (k : Int) + 1 by omega] at h9
        exact h9
    · have h108 : ¬ (fro N h φ lane (k : Int) y) = t := h108
      refine gm_sz (gm_p_goto (pc := 111) (off := 24) (by decide +kernel) (by decide)) ?_
      refine gm_sz (gm_p_iinc (pc := 135) (j := 8) (z := 1) (by decide +kernel) rfl) ?_
      refine gm_sz (gm_p_goto (pc := 138) (off := (-48)) (by decide +kernel) (by decide)) ?_
      have e9 : (thf N h φ lane y t (k + 1)) = (thf N h φ lane y t k) := if_neg (by omega)
      have h9 := ih (k + 1) _ (by omega) (fr_t (fr_t fr_0 hf (by decide)) hf25 (by decide)) hI25 ((fr_j hf25 (by decide)).trans h0)
      rw [e9, show ((k + 1 : Nat) : Int) = (k : Int) + 1 by omega] at h9
      exact h9
theorem cl_throwsFor (hd : 20 ≤ d) (hbc : 4 ≤ bc) (hbs : 24 ≤ bs) (hE : E0 n K R) (hT : TI N h sp M) (hN : NR N) (hfw : FLW X LX n K R N h sp FI φ) (hI : FI M) (hi : gm_ir lane) (hi2 : gm_ir y) (hi3 : gm_ir t) (hi4 : gm_ir w) (kv0 : w = 0 → 0 ≤ lane ∧ lane < N 0 → ((0 ≤ y ∧ y ≤ 299) ∧ (0 ≤ t ∧ t ≤ 299)) ∧ N 9 ≤ y → ∀ M2, Q (.inl (some (gm_vi (thf N h φ lane y t (N 1).toNat).1))) n K R M2) (kv1 : w = 1 → 0 ≤ lane ∧ lane < N 0 → ((0 ≤ y ∧ y ≤ 299) ∧ (0 ≤ t ∧ t ≤ 299)) ∧ N 9 ≤ y → ∀ M2, Q (.inl (some (gm_vi (thf N h φ lane y t (N 1).toNat).2.1))) n K R M2) (kv2 : w = 2 → 0 ≤ lane ∧ lane < N 0 → ((0 ≤ y ∧ y ≤ 299) ∧ (0 ≤ t ∧ t ≤ 299)) ∧ N 9 ≤ y → ∀ M2, Q (.inl (some (gm_vi (thf N h φ lane y t (N 1).toNat).2.2))) n K R M2) (k3 : ¬ (0 ≤ lane ∧ lane < N 0) → Q (.inr 3) n K R M) (k0 : 0 ≤ lane ∧ lane < N 0 → ¬ (((0 ≤ y ∧ y ≤ 299) ∧ (0 ≤ t ∧ t ≤ 299)) ∧ N 9 ≤ y) → Q (.inr 0) n K R M) (k4 : 0 ≤ lane ∧ lane < N 0 → ((0 ≤ y ∧ y ≤ 299) ∧ (0 ≤ t ∧ t ≤ 299)) ∧ N 9 ≤ y → ¬ (0 ≤ w ∧ w ≤ 2) → Q (.inr 4) n K R M) : gm_Wp X LX d bc bs 167 0 (gm_ent 167 [gm_vr 1, gm_vi lane, gm_vi y, gm_vi t, gm_vi w]) [] n K R M Q := by
  obtain ⟨⟨⟨a0, b0⟩, ⟨a1, b1⟩, ⟨a10, b10⟩, ⟨a11, b11⟩, ⟨a12, b12⟩, a9, b9⟩, ⟨⟨a2, b2⟩, ⟨a5, b5⟩, ⟨a3, b3⟩, ⟨a4, b4⟩, ⟨a6, b6⟩, ⟨a14, b14⟩, ⟨a7, b7⟩, a13, b13⟩, rF, rP, rL⟩ := id hN
  refine gm_sz (gm_p_load (pc := 0) (i := .aload_n 0) (sr := 2) (j := 0) (by decide +kernel) rfl rfl rfl) ?_
  refine gm_sz (gm_p_load (pc := 1) (i := .iload_n 1) (sr := 0) (j := 1) (by decide +kernel) rfl rfl rfl) ?_
  refine gm_c_virt (k := 1) (ci := 0) (mj := 132) (ix := 166) (pc := 2) (as := [gm_vi lane]) (st := []) (d' := d - 1) (bc' := 1) (bs' := 6) (by decide +kernel) (by decide +kernel) (by decide +kernel) (by decide +kernel) (e0k hE (k := 1) (c := 0) (by decide +kernel)).1 (e0k hE (k := 1) (c := 0) (by decide +kernel)).2 (by decide) (by decide +kernel) (show 1 = gm_na 132 by decide +kernel) (fw_c1 fw_si) (show 2 ≤ gm_ml 132 by decide +kernel) (Nat.le_of_ble_eq_true rfl) (by omega) (by omega) (by omega) ?_
  refine nd_132 (i := lane) (by omega) (by omega) (by omega) hE hT hN hi (fun c2 => ?_) (fun c2 => ?_)
  · show gm_Wp X LX d _ _ 167 5 _ [] n K _ _ Q
    have c2 : 0 ≤ lane ∧ lane < N 0 := c2
    refine gm_sz (gm_p_load (pc := 5) (i := .aload_n 0) (sr := 2) (j := 0) (by decide +kernel) rfl rfl rfl) ?_
    refine gm_sz (gm_p_load (pc := 6) (i := .iload_n 2) (sr := 0) (j := 2) (by decide +kernel) rfl rfl rfl) ?_
    refine gm_c_virt (k := 1) (ci := 0) (mj := 129) (ix := 160) (pc := 7) (as := [gm_vi y]) (st := []) (d' := d - 1) (bc' := 1) (bs' := 6) (by decide +kernel) (by decide +kernel) (by decide +kernel) (by decide +kernel) (e0k hE (k := 1) (c := 0) (by decide +kernel)).1 (e0k hE (k := 1) (c := 0) (by decide +kernel)).2 (by decide) (by decide +kernel) (show 1 = gm_na 129 by decide +kernel) (fw_c1 fw_si) (show 2 ≤ gm_ml 129 by decide +kernel) (Nat.le_of_ble_eq_true rfl) (by omega) (by omega) (by omega) ?_
    refine nd_129 (i := y) (by omega) (by omega) (by omega) hi2 (fun c7 => ?_) (fun c7 => ?_)
    · show gm_Wp X LX d _ _ 167 10 _ [] n K _ _ Q
      have c7 : 0 ≤ y ∧ y ≤ 299 := c7
      refine gm_sz (gm_p_load (pc := 10) (i := .aload_n 0) (sr := 2) (j := 0) (by decide +kernel) rfl rfl rfl) ?_
      refine gm_sz (gm_p_load (pc := 11) (i := .iload_n 3) (sr := 0) (j := 3) (by decide +kernel) rfl rfl rfl) ?_
      refine gm_c_virt (k := 1) (ci := 0) (mj := 129) (ix := 160) (pc := 12) (as := [gm_vi t]) (st := []) (d' := d - 1) (bc' := 1) (bs' := 6) (by decide +kernel) (by decide +kernel) (by decide +kernel) (by decide +kernel) (e0k hE (k := 1) (c := 0) (by decide +kernel)).1 (e0k hE (k := 1) (c := 0) (by decide +kernel)).2 (by decide) (by decide +kernel) (show 1 = gm_na 129 by decide +kernel) (fw_c1 fw_si) (show 2 ≤ gm_ml 129 by decide +kernel) (Nat.le_of_ble_eq_true rfl) (by omega) (by omega) (by omega) ?_
      refine nd_129 (i := t) (by omega) (by omega) (by omega) hi3 (fun c12 => ?_) (fun c12 => ?_)
      · show gm_Wp X LX d _ _ 167 15 _ [] n K _ _ Q
        have c12 : 0 ≤ t ∧ t ≤ 299 := c12
        refine gm_sz (gm_p_load (pc := 15) (i := .iload_n 2) (sr := 0) (j := 2) (by decide +kernel) rfl rfl rfl) ?_
        refine gm_sz (gm_p_load (pc := 16) (i := .aload_n 0) (sr := 2) (j := 0) (by decide +kernel) rfl rfl rfl) ?_
        refine gm_sz (fw_gr (pc := 17) (ix := 23) (ci := 0) (j := 3) (r := 3) (by decide +kernel) (e0k hE (k := 1) (c := 0) (by decide +kernel)) (by decide +kernel) (by decide +kernel) (e0r hE (k := 1) (j := 3) (r := 3) (by decide +kernel))) ?_
        refine gm_sz (fw_gi (pc := 20) (ix := 269) (ci := 1) (j := 6) (x := N 9) (by decide +kernel) (e0k hE (k := 3) (c := 1) (by decide +kernel)) (by decide +kernel) (by decide +kernel) (ti_now hT)) ?_
        refine fw_ic (cc := .ge) (pc := 23) (off := 14) (by decide +kernel) (by decide) hi2 ⟨by omega, by omega⟩ (fun h23 => ?_) (fun h23 => ?_)
        · have h23 : (N 9) ≤ y := h23
          refine gm_sz (gm_p_load (pc := 37) (i := .iload 4) (sr := 0) (j := 4) (by decide +kernel) rfl rfl rfl) ?_
          refine fw_if (cc := .lt) (pc := 39) (off := 9) (by decide +kernel) (by decide) hi4 (fun h39 => ?_) (fun h39 => ?_)
          · have h39 : w < 0 := h39
            exact gm_throw (ik := 195) (is := 289) (ic := 199) (x := 4) (id := 41) (lw := true) (by decide +kernel) (by decide +kernel) (by decide +kernel) (by decide +kernel) (by decide +kernel) (by decide +kernel) (by decide +kernel) (by decide +kernel) (Nat.le_of_ble_eq_true rfl) (by omega) (by omega) (by omega) (k4 ⟨by omega, by omega⟩ ⟨⟨⟨by omega, by omega⟩, by omega, by omega⟩, by omega⟩ (by omega))
          · have h39 : ¬ w < 0 := h39
            refine gm_sz (gm_p_load (pc := 42) (i := .iload 4) (sr := 0) (j := 4) (by decide +kernel) rfl rfl rfl) ?_
            refine gm_sz (gm_p_const (pc := 44) (i := .iconst 2) (v := gm_vi 2) (by decide +kernel) (by decide +kernel)) ?_
            refine fw_ic (cc := .le) (pc := 45) (off := 14) (by decide +kernel) (by decide) hi4 ⟨by decide, by decide⟩ (fun h45 => ?_) (fun h45 => ?_)
            · have h45 : w ≤ 2 := h45
              refine gm_sz (gm_p_const (pc := 59) (i := .iconst 0) (v := gm_vi 0) (by decide +kernel) (by decide +kernel)) ?_
              refine gm_sz (gm_p_stor (pc := 60) (i := .istore 5) (sr := 0) (j := 5) (by decide +kernel) rfl (show 6 ≤ _ from Nat.le_of_ble_eq_true rfl) rfl) ?_
              refine gm_sz (gm_p_const (pc := 62) (i := .iconst (-1)) (v := gm_vi (-1)) (by decide +kernel) (by decide +kernel)) ?_
              refine gm_sz (gm_p_stor (pc := 63) (i := .istore 6) (sr := 0) (j := 6) (by decide +kernel) rfl (show 7 ≤ _ from Nat.le_of_ble_eq_true rfl) rfl) ?_
              refine gm_sz (gm_p_const (pc := 65) (i := .iconst (-1)) (v := gm_vi (-1)) (by decide +kernel) (by decide +kernel)) ?_
              refine gm_sz (gm_p_stor (pc := 66) (i := .istore 7) (sr := 0) (j := 7) (by decide +kernel) rfl (show 8 ≤ _ from Nat.le_of_ble_eq_true rfl) rfl) ?_
              refine gm_sz (gm_p_const (pc := 68) (i := .iconst 0) (v := gm_vi 0) (by decide +kernel) (by decide +kernel)) ?_
              refine gm_sz (gm_p_stor (pc := 69) (i := .istore 8) (sr := 0) (j := 8) (by decide +kernel) rfl (show 9 ≤ _ from Nat.le_of_ble_eq_true rfl) rfl) ?_
              exact th_c hd hE hT hN hfw hI ⟨by omega, by omega⟩ ⟨⟨⟨by omega, by omega⟩, by omega, by omega⟩, by omega⟩ ⟨by omega, by omega⟩ (fun h => kv0 h ⟨by omega, by omega⟩ ⟨⟨⟨by omega, by omega⟩, by omega, by omega⟩, by omega⟩) (fun h => kv1 h ⟨by omega, by omega⟩ ⟨⟨⟨by omega, by omega⟩, by omega, by omega⟩, by omega⟩) (fun h => kv2 h ⟨by omega, by omega⟩ ⟨⟨⟨by omega, by omega⟩, by omega, by omega⟩, by omega⟩) (N 1).toNat 0 _ (by omega) fr_0 hI
            · have h45 : ¬ w ≤ 2 := h45
              exact gm_throw (ik := 195) (is := 289) (ic := 199) (x := 4) (id := 41) (lw := true) (by decide +kernel) (by decide +kernel) (by decide +kernel) (by decide +kernel) (by decide +kernel) (by decide +kernel) (by decide +kernel) (by decide +kernel) (Nat.le_of_ble_eq_true rfl) (by omega) (by omega) (by omega) (k4 ⟨by omega, by omega⟩ ⟨⟨⟨by omega, by omega⟩, by omega, by omega⟩, by omega⟩ (by omega))
        · have h23 : ¬ (N 9) ≤ y := h23
          exact gm_throw (ik := 121) (is := 287) (ic := 125) (x := 0) (id := 40) (lw := true) (by decide +kernel) (by decide +kernel) (by decide +kernel) (by decide +kernel) (by decide +kernel) (by decide +kernel) (by decide +kernel) (by decide +kernel) (Nat.le_of_ble_eq_true rfl) (by omega) (by omega) (by omega) (k0 ⟨by omega, by omega⟩ (by omega))
      · show Q (.inr 0) n K _ _
        have c12 : ¬ (0 ≤ t ∧ t ≤ 299) := c12
        exact (k0 ⟨by omega, by omega⟩ (by omega))
    · show Q (.inr 0) n K _ _
      have c7 : ¬ (0 ≤ y ∧ y ≤ 299) := c7
      exact (k0 ⟨by omega, by omega⟩ (by omega))
  · show Q (.inr 3) n K _ _
    have c2 : ¬ (0 ≤ lane ∧ lane < N 0) := c2
    exact (k3 (by omega))
theorem re_throwsFor (hd : 20 ≤ d) (hE : E0 n K R) (hT : TR N h M) (hN : NR N) (hfw : FLR X LX n K R N h FI φ) (hI : FI M) (hi : gm_ir lane) (hi2 : gm_ir y) (hi3 : gm_ir t) (hi4 : gm_ir w) (kv0 : w = 0 → 0 ≤ lane ∧ lane < N 0 → ((0 ≤ y ∧ y ≤ 299) ∧ (0 ≤ t ∧ t ≤ 299)) ∧ N 9 ≤ y → ∀ M2, M2 226 0 = 0 → Q (.inl (some (gm_vi (thf N h φ lane y t (N 1).toNat).1))) n K R M2) (kv1 : w = 1 → 0 ≤ lane ∧ lane < N 0 → ((0 ≤ y ∧ y ≤ 299) ∧ (0 ≤ t ∧ t ≤ 299)) ∧ N 9 ≤ y → ∀ M2, M2 226 0 = 0 → Q (.inl (some (gm_vi (thf N h φ lane y t (N 1).toNat).2.1))) n K R M2) (kv2 : w = 2 → 0 ≤ lane ∧ lane < N 0 → ((0 ≤ y ∧ y ≤ 299) ∧ (0 ≤ t ∧ t ≤ 299)) ∧ N 9 ≤ y → ∀ M2, M2 226 0 = 0 → Q (.inl (some (gm_vi (thf N h φ lane y t (N 1).toNat).2.2))) n K R M2) (k1 : ¬ (0 ≤ lane ∧ lane < N 0) → ∀ M2, M2 226 0 = 1 → Q (.inl (some (gm_vi 0))) n K R M2) (k2 : 0 ≤ lane ∧ lane < N 0 → ¬ (((0 ≤ y ∧ y ≤ 299) ∧ (0 ≤ t ∧ t ≤ 299)) ∧ N 9 ≤ y) → ∀ M2, M2 226 0 = 2 → Q (.inl (some (gm_vi 0))) n K R M2) (k9 : 0 ≤ lane ∧ lane < N 0 → ((0 ≤ y ∧ y ≤ 299) ∧ (0 ≤ t ∧ t ≤ 299)) ∧ N 9 ≤ y → ¬ (0 ≤ w ∧ w ≤ 2) → ∀ M2, M2 226 0 = 3 → Q (.inl (some (gm_vi 0))) n K R M2) : gm_Wp X LX d bc bs 324 0 (gm_ent 324 [gm_vr 226, gm_vi lane, gm_vi y, gm_vi t, gm_vi w]) [] n K R M Q := by
  obtain ⟨⟨⟨a0, b0⟩, ⟨a1, b1⟩, ⟨a10, b10⟩, ⟨a11, b11⟩, ⟨a12, b12⟩, a9, b9⟩, ⟨⟨a2, b2⟩, ⟨a5, b5⟩, ⟨a3, b3⟩, ⟨a4, b4⟩, ⟨a6, b6⟩, ⟨a14, b14⟩, ⟨a7, b7⟩, a13, b13⟩, rF, rP, rL⟩ := id hN
  refine gm_sz (gm_p_load (pc := 0) (i := .aload_n 0) (sr := 2) (j := 0) (by decide +kernel) rfl rfl rfl) ?_
  refine gm_sz (gm_p_const (pc := 1) (i := .iconst 0) (v := gm_vi 0) (by decide +kernel) (by decide +kernel)) ?_
  refine gm_sz (fw_pi (pc := 2) (ix := 3) (ci := 11) (j := 0) (M' := gm_uM M 226 0 0) (by decide +kernel) (e0k hE (k := 226) (c := 11) (by decide +kernel)) (by decide +kernel) (by decide +kernel) (by decide +kernel) rfl) ?_
  refine gm_sz (gm_p_load (pc := 5) (i := .aload_n 0) (sr := 2) (j := 0) (by decide +kernel) rfl rfl rfl) ?_
  refine gm_sz (gm_p_load (pc := 6) (i := .aload_n 0) (sr := 2) (j := 0) (by decide +kernel) rfl rfl rfl) ?_
  refine gm_sz (gm_p_load (pc := 7) (i := .iload_n 1) (sr := 0) (j := 1) (by decide +kernel) rfl rfl rfl) ?_
  refine gm_c_virt (k := 226) (ci := 11) (mj := 288) (ix := 356) (pc := 8) (as := [gm_vi lane]) (st := [gm_vr 226]) (d' := d - 1) (bc' := 0) (bs' := 0) (by decide +kernel) (by decide +kernel) (by decide +kernel) (by decide +kernel) (e0k hE (k := 226) (c := 11) (by decide +kernel)).1 (e0k hE (k := 226) (c := 11) (by decide +kernel)).2 (by decide) (by decide +kernel) (show 1 = gm_na 288 by decide +kernel) (fw_c1 fw_si) (show 2 ≤ gm_ml 288 by decide +kernel) (Nat.le_of_ble_eq_true rfl) (by omega) (Nat.zero_le _) (Nat.zero_le _) ?_
  refine no_288 (i := lane) (by omega) hE (tr_fr (W := [(226, some 0)]) hT (fr_p fr_0 (Or.inr (by decide))) (by decide)) hN hi (fun n8 => ?_) (fun n8 => ?_)
  · show gm_Wp X LX d _ _ 324 11 _ [gm_vi 1, gm_vr 226] n K _ _ Q
    have n8 : ¬ (0 ≤ lane ∧ lane < N 0) := n8
    refine gm_sz (gm_p_const (pc := 11) (i := .iconst 1) (v := gm_vi 1) (by decide +kernel) (by decide +kernel)) ?_
    refine gm_c_virt (k := 226) (ci := 11) (mj := 282) (ix := 300) (pc := 12) (as := [gm_vi 1, gm_vi 1]) (st := []) (d' := d - 1) (bc' := 0) (bs' := 0) (by decide +kernel) (by decide +kernel) (by decide +kernel) (by decide +kernel) (e0k hE (k := 226) (c := 11) (by decide +kernel)).1 (e0k hE (k := 226) (c := 11) (by decide +kernel)).2 (by decide) (by decide +kernel) (show 2 = gm_na 282 by decide +kernel) (fw_c2 fw_si fw_si) (show 3 ≤ gm_ml 282 by decide +kernel) (Nat.le_of_ble_eq_true rfl) (by omega) (Nat.zero_le _) (Nat.zero_le _) ?_
    refine tf_1 hE ?_
    show gm_Wp X LX d _ _ 324 15 _ [gm_vi 1] n K _ _ Q
    refine fw_iftd (cc := .ne) (pc := 15) (off := 61) (by decide +kernel) (by decide) ⟨by decide, by decide⟩ (by decide) ?_
    refine gm_sz (gm_p_const (pc := 76) (i := .iconst 0) (v := gm_vi 0) (by decide +kernel) (by decide +kernel)) ?_
    exact gm_r_int (pc := 77) (by decide +kernel) (Or.inl (by decide +kernel)) (k1 (by omega) _ uM_at)
  · show gm_Wp X LX d _ _ 324 11 _ [gm_vi 0, gm_vr 226] n K _ _ Q
    have n8 : 0 ≤ lane ∧ lane < N 0 := n8
    refine gm_sz (gm_p_const (pc := 11) (i := .iconst 1) (v := gm_vi 1) (by decide +kernel) (by decide +kernel)) ?_
    refine gm_c_virt (k := 226) (ci := 11) (mj := 282) (ix := 300) (pc := 12) (as := [gm_vi 0, gm_vi 1]) (st := []) (d' := d - 1) (bc' := 0) (bs' := 0) (by decide +kernel) (by decide +kernel) (by decide +kernel) (by decide +kernel) (e0k hE (k := 226) (c := 11) (by decide +kernel)).1 (e0k hE (k := 226) (c := 11) (by decide +kernel)).2 (by decide) (by decide +kernel) (show 2 = gm_na 282 by decide +kernel) (fw_c2 fw_si fw_si) (show 3 ≤ gm_ml 282 by decide +kernel) (Nat.le_of_ble_eq_true rfl) (by omega) (Nat.zero_le _) (Nat.zero_le _) ?_
    refine tf_0 hE ?_
    show gm_Wp X LX d _ _ 324 15 _ [gm_vi 0] n K _ _ Q
    refine fw_iffd (cc := .ne) (pc := 15) (off := 61) (by decide +kernel) (by decide) ⟨by decide, by decide⟩ (by decide) ?_
    refine gm_sz (gm_p_load (pc := 18) (i := .aload_n 0) (sr := 2) (j := 0) (by decide +kernel) rfl rfl rfl) ?_
    refine gm_sz (gm_p_load (pc := 19) (i := .iload_n 2) (sr := 0) (j := 2) (by decide +kernel) rfl rfl rfl) ?_
    refine gm_c_stat (mj := 285) (ix := 353) (pc := 20) (as := [gm_vi y]) (st := [gm_vr 226]) (d' := d - 1) (bc' := 0) (bs' := 0) (by decide +kernel) (by decide +kernel) (by decide +kernel) (by decide +kernel) (show 1 = gm_na 285 by decide +kernel) (fw_c1 fw_si) (show 1 ≤ gm_ml 285 by decide +kernel) (Nat.le_of_ble_eq_true rfl) (by omega) (Nat.zero_le _) (Nat.zero_le _) ?_
    refine no_285 (i := y) (by omega) hi2 (fun n20 => ?_) (fun n20 => ?_)
    · show gm_Wp X LX d _ _ 324 23 _ [gm_vi 1, gm_vr 226] n K _ _ Q
      have n20 : ¬ (0 ≤ y ∧ y ≤ 299) := n20
      refine fw_iftd (cc := .ne) (pc := 23) (off := 18) (by decide +kernel) (by decide) ⟨by decide, by decide⟩ (by decide) ?_
      refine gm_sz (gm_p_const (pc := 41) (i := .iconst 1) (v := gm_vi 1) (by decide +kernel) (by decide +kernel)) ?_
      refine gm_sz (gm_p_goto (pc := 42) (off := 4) (by decide +kernel) (by decide)) ?_
      refine gm_sz (gm_p_const (pc := 46) (i := .iconst 2) (v := gm_vi 2) (by decide +kernel) (by decide +kernel)) ?_
      refine gm_c_virt (k := 226) (ci := 11) (mj := 282) (ix := 300) (pc := 47) (as := [gm_vi 1, gm_vi 2]) (st := []) (d' := d - 1) (bc' := 0) (bs' := 0) (by decide +kernel) (by decide +kernel) (by decide +kernel) (by decide +kernel) (e0k hE (k := 226) (c := 11) (by decide +kernel)).1 (e0k hE (k := 226) (c := 11) (by decide +kernel)).2 (by decide) (by decide +kernel) (show 2 = gm_na 282 by decide +kernel) (fw_c2 fw_si fw_si) (show 3 ≤ gm_ml 282 by decide +kernel) (Nat.le_of_ble_eq_true rfl) (by omega) (Nat.zero_le _) (Nat.zero_le _) ?_
      refine tf_1 hE ?_
      show gm_Wp X LX d _ _ 324 50 _ [gm_vi 1] n K _ _ Q
      refine fw_iftd (cc := .ne) (pc := 50) (off := 26) (by decide +kernel) (by decide) ⟨by decide, by decide⟩ (by decide) ?_
      refine gm_sz (gm_p_const (pc := 76) (i := .iconst 0) (v := gm_vi 0) (by decide +kernel) (by decide +kernel)) ?_
      exact gm_r_int (pc := 77) (by decide +kernel) (Or.inl (by decide +kernel)) (k2 ⟨by omega, by omega⟩ (by omega) _ uM_at)
    · show gm_Wp X LX d _ _ 324 23 _ [gm_vi 0, gm_vr 226] n K _ _ Q
      have n20 : 0 ≤ y ∧ y ≤ 299 := n20
      refine fw_iffd (cc := .ne) (pc := 23) (off := 18) (by decide +kernel) (by decide) ⟨by decide, by decide⟩ (by decide) ?_
      refine gm_sz (gm_p_load (pc := 26) (i := .iload_n 3) (sr := 0) (j := 3) (by decide +kernel) rfl rfl rfl) ?_
      refine gm_c_stat (mj := 285) (ix := 353) (pc := 27) (as := [gm_vi t]) (st := [gm_vr 226]) (d' := d - 1) (bc' := 0) (bs' := 0) (by decide +kernel) (by decide +kernel) (by decide +kernel) (by decide +kernel) (show 1 = gm_na 285 by decide +kernel) (fw_c1 fw_si) (show 1 ≤ gm_ml 285 by decide +kernel) (Nat.le_of_ble_eq_true rfl) (by omega) (Nat.zero_le _) (Nat.zero_le _) ?_
      refine no_285 (i := t) (by omega) hi3 (fun n27 => ?_) (fun n27 => ?_)
      · show gm_Wp X LX d _ _ 324 30 _ [gm_vi 1, gm_vr 226] n K _ _ Q
        have n27 : ¬ (0 ≤ t ∧ t ≤ 299) := n27
        refine fw_iftd (cc := .ne) (pc := 30) (off := 11) (by decide +kernel) (by decide) ⟨by decide, by decide⟩ (by decide) ?_
        refine gm_sz (gm_p_const (pc := 41) (i := .iconst 1) (v := gm_vi 1) (by decide +kernel) (by decide +kernel)) ?_
        refine gm_sz (gm_p_goto (pc := 42) (off := 4) (by decide +kernel) (by decide)) ?_
        refine gm_sz (gm_p_const (pc := 46) (i := .iconst 2) (v := gm_vi 2) (by decide +kernel) (by decide +kernel)) ?_
        refine gm_c_virt (k := 226) (ci := 11) (mj := 282) (ix := 300) (pc := 47) (as := [gm_vi 1, gm_vi 2]) (st := []) (d' := d - 1) (bc' := 0) (bs' := 0) (by decide +kernel) (by decide +kernel) (by decide +kernel) (by decide +kernel) (e0k hE (k := 226) (c := 11) (by decide +kernel)).1 (e0k hE (k := 226) (c := 11) (by decide +kernel)).2 (by decide) (by decide +kernel) (show 2 = gm_na 282 by decide +kernel) (fw_c2 fw_si fw_si) (show 3 ≤ gm_ml 282 by decide +kernel) (Nat.le_of_ble_eq_true rfl) (by omega) (Nat.zero_le _) (Nat.zero_le _) ?_
        refine tf_1 hE ?_
        show gm_Wp X LX d _ _ 324 50 _ [gm_vi 1] n K _ _ Q
        refine fw_iftd (cc := .ne) (pc := 50) (off := 26) (by decide +kernel) (by decide) ⟨by decide, by decide⟩ (by decide) ?_
        refine gm_sz (gm_p_const (pc := 76) (i := .iconst 0) (v := gm_vi 0) (by decide +kernel) (by decide +kernel)) ?_
        exact gm_r_int (pc := 77) (by decide +kernel) (Or.inl (by decide +kernel)) (k2 ⟨by omega, by omega⟩ (by omega) _ uM_at)
      · show gm_Wp X LX d _ _ 324 30 _ [gm_vi 0, gm_vr 226] n K _ _ Q
        have n27 : 0 ≤ t ∧ t ≤ 299 := n27
        refine fw_iffd (cc := .ne) (pc := 30) (off := 11) (by decide +kernel) (by decide) ⟨by decide, by decide⟩ (by decide) ?_
        refine gm_sz (gm_p_load (pc := 33) (i := .iload_n 2) (sr := 0) (j := 2) (by decide +kernel) rfl rfl rfl) ?_
        refine gm_sz (gm_p_load (pc := 34) (i := .aload_n 0) (sr := 2) (j := 0) (by decide +kernel) rfl rfl rfl) ?_
        refine gm_c_virt (k := 226) (ci := 11) (mj := 266) (ix := 162) (pc := 35) (as := []) (st := [gm_vi y, gm_vr 226]) (d' := d - 1) (bc' := 0) (bs' := 0) (by decide +kernel) (by decide +kernel) (by decide +kernel) (by decide +kernel) (e0k hE (k := 226) (c := 11) (by decide +kernel)).1 (e0k hE (k := 226) (c := 11) (by decide +kernel)).2 (by decide) (by decide +kernel) (show 0 = gm_na 266 by decide +kernel) fw_c0 (show 1 ≤ gm_ml 266 by decide +kernel) (Nat.le_of_ble_eq_true rfl) (by omega) (Nat.zero_le _) (Nat.zero_le _) ?_
        refine re_now hE (tr_fr (W := [(226, some 0)]) hT (fr_p fr_0 (Or.inr (by decide))) (by decide)) hN ?_
        show gm_Wp X LX d _ _ 324 38 _ [gm_vi (N 9), gm_vi y, gm_vr 226] n K _ _ Q
        refine fw_ic (cc := .ge) (pc := 38) (off := 7) (by decide +kernel) (by decide) hi2 ⟨by omega, by omega⟩ (fun h38 => ?_) (fun h38 => ?_)
        · have h38 : (N 9) ≤ y := h38
          refine gm_sz (gm_p_const (pc := 45) (i := .iconst 0) (v := gm_vi 0) (by decide +kernel) (by decide +kernel)) ?_
          refine gm_sz (gm_p_const (pc := 46) (i := .iconst 2) (v := gm_vi 2) (by decide +kernel) (by decide +kernel)) ?_
          refine gm_c_virt (k := 226) (ci := 11) (mj := 282) (ix := 300) (pc := 47) (as := [gm_vi 0, gm_vi 2]) (st := []) (d' := d - 1) (bc' := 0) (bs' := 0) (by decide +kernel) (by decide +kernel) (by decide +kernel) (by decide +kernel) (e0k hE (k := 226) (c := 11) (by decide +kernel)).1 (e0k hE (k := 226) (c := 11) (by decide +kernel)).2 (by decide) (by decide +kernel) (show 2 = gm_na 282 by decide +kernel) (fw_c2 fw_si fw_si) (show 3 ≤ gm_ml 282 by decide +kernel) (Nat.le_of_ble_eq_true rfl) (by omega) (Nat.zero_le _) (Nat.zero_le _) ?_
          refine tf_0 hE ?_
          show gm_Wp X LX d _ _ 324 50 _ [gm_vi 0] n K _ _ Q
          refine fw_iffd (cc := .ne) (pc := 50) (off := 26) (by decide +kernel) (by decide) ⟨by decide, by decide⟩ (by decide) ?_
          refine gm_sz (gm_p_load (pc := 53) (i := .aload_n 0) (sr := 2) (j := 0) (by decide +kernel) rfl rfl rfl) ?_
          refine gm_sz (gm_p_load (pc := 54) (i := .iload 4) (sr := 0) (j := 4) (by decide +kernel) rfl rfl rfl) ?_
          refine gm_sz (gm_p_const (pc := 56) (i := .iconst 0) (v := gm_vi 0) (by decide +kernel) (by decide +kernel)) ?_
          refine gm_sz (gm_p_const (pc := 57) (i := .iconst 2) (v := gm_vi 2) (by decide +kernel) (by decide +kernel)) ?_
          refine gm_c_stat (mj := 286) (ix := 90) (pc := 58) (as := [gm_vi w, gm_vi 0, gm_vi 2]) (st := [gm_vr 226]) (d' := d - 1) (bc' := 0) (bs' := 0) (by decide +kernel) (by decide +kernel) (by decide +kernel) (by decide +kernel) (show 3 = gm_na 286 by decide +kernel) (fw_c3 fw_si fw_si fw_si) (show 3 ≤ gm_ml 286 by decide +kernel) (Nat.le_of_ble_eq_true rfl) (by omega) (Nat.zero_le _) (Nat.zero_le _) ?_
          refine in_286 (x := w) (y := 0) (z := 2) hi4 ⟨by decide, by decide⟩ ⟨by decide, by decide⟩ (fun k58a k58 => ?_) (fun k58 => ?_)
          · show gm_Wp X LX d _ _ 324 61 _ [gm_vi 1, gm_vr 226] n K _ _ Q
            have k58a : 0 ≤ w := k58a
            have k58 : w ≤ 2 := k58
            refine fw_iftd (cc := .ne) (pc := 61) (off := 7) (by decide +kernel) (by decide) ⟨by decide, by decide⟩ (by decide) ?_
            refine gm_sz (gm_p_const (pc := 68) (i := .iconst 0) (v := gm_vi 0) (by decide +kernel) (by decide +kernel)) ?_
            refine gm_sz (gm_p_const (pc := 69) (i := .iconst 3) (v := gm_vi 3) (by decide +kernel) (by decide +kernel)) ?_
            refine gm_c_virt (k := 226) (ci := 11) (mj := 282) (ix := 300) (pc := 70) (as := [gm_vi 0, gm_vi 3]) (st := []) (d' := d - 1) (bc' := 0) (bs' := 0) (by decide +kernel) (by decide +kernel) (by decide +kernel) (by decide +kernel) (e0k hE (k := 226) (c := 11) (by decide +kernel)).1 (e0k hE (k := 226) (c := 11) (by decide +kernel)).2 (by decide) (by decide +kernel) (show 2 = gm_na 282 by decide +kernel) (fw_c2 fw_si fw_si) (show 3 ≤ gm_ml 282 by decide +kernel) (Nat.le_of_ble_eq_true rfl) (by omega) (Nat.zero_le _) (Nat.zero_le _) ?_
            refine tf_0 hE ?_
            show gm_Wp X LX d _ _ 324 73 _ [gm_vi 0] n K _ _ Q
            refine fw_iftd (cc := .eq) (pc := 73) (off := 5) (by decide +kernel) (by decide) ⟨by decide, by decide⟩ (by decide) ?_
            refine gm_sz (gm_p_const (pc := 78) (i := .iconst 0) (v := gm_vi 0) (by decide +kernel) (by decide +kernel)) ?_
            refine gm_sz (gm_p_stor (pc := 79) (i := .istore 5) (sr := 0) (j := 5) (by decide +kernel) rfl (show 6 ≤ _ from Nat.le_of_ble_eq_true rfl) rfl) ?_
            refine gm_sz (gm_p_const (pc := 81) (i := .iconst (-1)) (v := gm_vi (-1)) (by decide +kernel) (by decide +kernel)) ?_
            refine gm_sz (gm_p_stor (pc := 82) (i := .istore 6) (sr := 0) (j := 6) (by decide +kernel) rfl (show 7 ≤ _ from Nat.le_of_ble_eq_true rfl) rfl) ?_
            refine gm_sz (gm_p_const (pc := 84) (i := .iconst (-1)) (v := gm_vi (-1)) (by decide +kernel) (by decide +kernel)) ?_
            refine gm_sz (gm_p_stor (pc := 85) (i := .istore 7) (sr := 0) (j := 7) (by decide +kernel) rfl (show 8 ≤ _ from Nat.le_of_ble_eq_true rfl) rfl) ?_
            refine gm_sz (gm_p_const (pc := 87) (i := .iconst 0) (v := gm_vi 0) (by decide +kernel) (by decide +kernel)) ?_
            refine gm_sz (gm_p_stor (pc := 88) (i := .istore 8) (sr := 0) (j := 8) (by decide +kernel) rfl (show 9 ≤ _ from Nat.le_of_ble_eq_true rfl) rfl) ?_
            exact th_r hd hE (tr_fr (W := [(226, some 0)]) hT (fr_p fr_0 (Or.inr (by decide))) (by decide)) hN hfw (hfw.2.1 [(226, some 0)] _ _ (by decide) (fr_p fr_0 (Or.inr (by decide))) hI) ⟨by omega, by omega⟩ ⟨⟨⟨by omega, by omega⟩, by omega, by omega⟩, by omega⟩ ⟨by omega, by omega⟩ (fun h => kv0 h ⟨by omega, by omega⟩ ⟨⟨⟨by omega, by omega⟩, by omega, by omega⟩, by omega⟩) (fun h => kv1 h ⟨by omega, by omega⟩ ⟨⟨⟨by omega, by omega⟩, by omega, by omega⟩, by omega⟩) (fun h => kv2 h ⟨by omega, by omega⟩ ⟨⟨⟨by omega, by omega⟩, by omega, by omega⟩, by omega⟩) (N 1).toNat 0 _ (by omega) fr_0 (hfw.2.1 [(226, some 0)] _ _ (by decide) (fr_p fr_0 (Or.inr (by decide))) hI) uM_at
          · show gm_Wp X LX d _ _ 324 61 _ [gm_vi 0, gm_vr 226] n K _ _ Q
            have k58 : ¬ (0 ≤ w ∧ w ≤ 2) := k58
            refine fw_iffd (cc := .ne) (pc := 61) (off := 7) (by decide +kernel) (by decide) ⟨by decide, by decide⟩ (by decide) ?_
            refine gm_sz (gm_p_const (pc := 64) (i := .iconst 1) (v := gm_vi 1) (by decide +kernel) (by decide +kernel)) ?_
            refine gm_sz (gm_p_goto (pc := 65) (off := 4) (by decide +kernel) (by decide)) ?_
            refine gm_sz (gm_p_const (pc := 69) (i := .iconst 3) (v := gm_vi 3) (by decide +kernel) (by decide +kernel)) ?_
            refine gm_c_virt (k := 226) (ci := 11) (mj := 282) (ix := 300) (pc := 70) (as := [gm_vi 1, gm_vi 3]) (st := []) (d' := d - 1) (bc' := 0) (bs' := 0) (by decide +kernel) (by decide +kernel) (by decide +kernel) (by decide +kernel) (e0k hE (k := 226) (c := 11) (by decide +kernel)).1 (e0k hE (k := 226) (c := 11) (by decide +kernel)).2 (by decide) (by decide +kernel) (show 2 = gm_na 282 by decide +kernel) (fw_c2 fw_si fw_si) (show 3 ≤ gm_ml 282 by decide +kernel) (Nat.le_of_ble_eq_true rfl) (by omega) (Nat.zero_le _) (Nat.zero_le _) ?_
            refine tf_1 hE ?_
            show gm_Wp X LX d _ _ 324 73 _ [gm_vi 1] n K _ _ Q
            refine fw_iffd (cc := .eq) (pc := 73) (off := 5) (by decide +kernel) (by decide) ⟨by decide, by decide⟩ (by decide) ?_
            refine gm_sz (gm_p_const (pc := 76) (i := .iconst 0) (v := gm_vi 0) (by decide +kernel) (by decide +kernel)) ?_
            exact gm_r_int (pc := 77) (by decide +kernel) (Or.inl (by decide +kernel)) (k9 ⟨by omega, by omega⟩ ⟨⟨⟨by omega, by omega⟩, by omega, by omega⟩, by omega⟩ (by omega) _ uM_at)
        · have h38 : ¬ (N 9) ≤ y := h38
          refine gm_sz (gm_p_const (pc := 41) (i := .iconst 1) (v := gm_vi 1) (by decide +kernel) (by decide +kernel)) ?_
          refine gm_sz (gm_p_goto (pc := 42) (off := 4) (by decide +kernel) (by decide)) ?_
          refine gm_sz (gm_p_const (pc := 46) (i := .iconst 2) (v := gm_vi 2) (by decide +kernel) (by decide +kernel)) ?_
          refine gm_c_virt (k := 226) (ci := 11) (mj := 282) (ix := 300) (pc := 47) (as := [gm_vi 1, gm_vi 2]) (st := []) (d' := d - 1) (bc' := 0) (bs' := 0) (by decide +kernel) (by decide +kernel) (by decide +kernel) (by decide +kernel) (e0k hE (k := 226) (c := 11) (by decide +kernel)).1 (e0k hE (k := 226) (c := 11) (by decide +kernel)).2 (by decide) (by decide +kernel) (show 2 = gm_na 282 by decide +kernel) (fw_c2 fw_si fw_si) (show 3 ≤ gm_ml 282 by decide +kernel) (Nat.le_of_ble_eq_true rfl) (by omega) (Nat.zero_le _) (Nat.zero_le _) ?_
          refine tf_1 hE ?_
          show gm_Wp X LX d _ _ 324 50 _ [gm_vi 1] n K _ _ Q
          refine fw_iftd (cc := .ne) (pc := 50) (off := 26) (by decide +kernel) (by decide) ⟨by decide, by decide⟩ (by decide) ?_
          refine gm_sz (gm_p_const (pc := 76) (i := .iconst 0) (v := gm_vi 0) (by decide +kernel) (by decide +kernel)) ?_
          exact gm_r_int (pc := 77) (by decide +kernel) (Or.inl (by decide +kernel)) (k2 ⟨by omega, by omega⟩ (by omega) _ uM_at)
theorem lo_175 (hE : E0 n K R) (hq : Q (.inl none) n K R (gm_uM M 206 4 w)) : gm_Wp X LX d bc bs 175 0 (gm_ent 175 [gm_vr 206, gm_vi w]) [] n K R M Q := by
  refine gm_sz (gm_p_load (pc := 0) (i := .aload_n 0) (sr := 2) (j := 0) (by decide +kernel) rfl rfl rfl) ?_
  refine gm_sz (gm_p_load (pc := 1) (i := .iload_n 1) (sr := 0) (j := 1) (by decide +kernel) rfl rfl rfl) ?_
  refine gm_sz (fw_pi (pc := 2) (ix := 19) (ci := 5) (j := 4) (M' := gm_uM M 206 4 w) (by decide +kernel) (e0k hE (k := 206) (c := 5) (by decide +kernel)) (by decide +kernel) (by decide +kernel) (by decide +kernel) rfl) ?_
  exact gm_r_void (pc := 5) (by decide +kernel) (by decide +kernel) hq
theorem cl_without (hd : 20 ≤ d) (hbc : 4 ≤ bc) (hbs : 24 ≤ bs) (hE : E0 n K R) (hT : TI N h sp M) (hN : NR N) (hfw : FLW X LX n K R N h sp FI φ) (hI : FI M) (hl : 0 ≤ l ∧ l < N 4) (hi2 : gm_ir w) (kv : 0 ≤ w ∧ w < N 5 → ∀ v, WOUT N h φ l w v → ∀ M2, Q (.inl (some (gm_vi v))) n K R M2) (k3 : ¬ (0 ≤ w ∧ w < N 5) → Q (.inr 3) n K R M) : gm_Wp X LX d bc bs 174 0 (gm_ent 174 [gm_vr 1, gm_vi l, gm_vi w]) [] n K R M Q := by
  obtain ⟨⟨⟨a0, b0⟩, ⟨a1, b1⟩, ⟨a10, b10⟩, ⟨a11, b11⟩, ⟨a12, b12⟩, a9, b9⟩, ⟨⟨a2, b2⟩, ⟨a5, b5⟩, ⟨a3, b3⟩, ⟨a4, b4⟩, ⟨a6, b6⟩, ⟨a14, b14⟩, ⟨a7, b7⟩, a13, b13⟩, rF, rP, rL⟩ := id hN
  obtain ⟨r0, r1, l2, l3, l4, r5, r6, -⟩ := rL l hl.1 hl.2
  have l5 : 0 ≤ (N (119 + (l * 7 + 4))) ∧ (N (119 + (l * 7 + 4))) ≤ 300 := ⟨l4.1, by have := l4.2; omega⟩
  have l4 := l5
  have l39 : (N (119 + (l * 7 + 3))) ≤ 299 := by have := l3.2; omega
  have rk9 : 0 ≤ (if (N (119 + (l * 7 + 0))) = -1 then (1 : Int) else 0) ∧ (if (N (119 + (l * 7 + 0))) = -1 then (1 : Int) else 0) ≤ 1 := by split <;> exact ⟨by decide, by decide⟩
  refine gm_sz (gm_p_load (pc := 0) (i := .aload_n 0) (sr := 2) (j := 0) (by decide +kernel) rfl rfl rfl) ?_
  refine gm_sz (gm_p_load (pc := 1) (i := .iload_n 1) (sr := 0) (j := 1) (by decide +kernel) rfl rfl rfl) ?_
  refine gm_c_virt (k := 1) (ci := 0) (mj := 143) (ix := 200) (pc := 2) (as := [gm_vi l]) (st := []) (d' := d - 1) (bc' := 1) (bs' := 6) (by decide +kernel) (by decide +kernel) (by decide +kernel) (by decide +kernel) (e0k hE (k := 1) (c := 0) (by decide +kernel)).1 (e0k hE (k := 1) (c := 0) (by decide +kernel)).2 (by decide) (by decide +kernel) (show 1 = gm_na 143 by decide +kernel) (fw_c1 fw_si) (show 2 ≤ gm_ml 143 by decide +kernel) (Nat.le_of_ble_eq_true rfl) (by omega) (by omega) (by omega) ?_
  refine nd_143 (i := l) (by omega) (by omega) (by omega) hE hT hN ⟨by omega, by omega⟩ (fun c2 => ?_) (fun c2 => ?_)
  · show gm_Wp X LX d _ _ 174 5 _ [] n K _ _ Q
    have c2 : 0 ≤ l ∧ l < N 4 := c2
    refine gm_sz (gm_p_load (pc := 5) (i := .aload_n 0) (sr := 2) (j := 0) (by decide +kernel) rfl rfl rfl) ?_
    refine gm_sz (gm_p_load (pc := 6) (i := .iload_n 2) (sr := 0) (j := 2) (by decide +kernel) rfl rfl rfl) ?_
    refine gm_sz (gm_p_load (pc := 7) (i := .aload_n 0) (sr := 2) (j := 0) (by decide +kernel) rfl rfl rfl) ?_
    refine gm_sz (fw_gr (pc := 8) (ix := 23) (ci := 0) (j := 3) (r := 3) (by decide +kernel) (e0k hE (k := 1) (c := 0) (by decide +kernel)) (by decide +kernel) (by decide +kernel) (e0r hE (k := 1) (j := 3) (r := 3) (by decide +kernel))) ?_
    refine gm_sz (fw_gr (pc := 11) (ix := 303) (ci := 1) (j := 10) (r := 6) (by decide +kernel) (e0k hE (k := 3) (c := 1) (by decide +kernel)) (by decide +kernel) (by decide +kernel) (e0r hE (k := 3) (j := 10) (r := 6) (by decide +kernel))) ?_
    refine gm_c_virt (k := 6) (ci := 2) (mj := 9) (ix := 277) (pc := 14) (as := []) (st := [gm_vi w, gm_vr 1]) (d' := d - 1) (bc' := 0) (bs' := 0) (by decide +kernel) (by decide +kernel) (by decide +kernel) (by decide +kernel) (e0k hE (k := 6) (c := 2) (by decide +kernel)).1 (e0k hE (k := 6) (c := 2) (by decide +kernel)).2 (by decide) (by decide +kernel) (show 0 = gm_na 9 by decide +kernel) fw_c0 (show 1 ≤ gm_ml 9 by decide +kernel) (Nat.le_of_ble_eq_true rfl) (by omega) (Nat.zero_le _) (Nat.zero_le _) ?_
    refine rw_size (s := N 5) (e0k hE (k := 6) (c := 2) (by decide +kernel)) (ti_flo hT) ?_
    show gm_Wp X LX d _ _ 174 17 _ [gm_vi (N 5), gm_vi w, gm_vr 1] n K _ _ Q
    refine gm_c_virt (k := 1) (ci := 0) (mj := 133) (ix := 306) (pc := 17) (as := [gm_vi w, gm_vi (N 5)]) (st := []) (d' := d - 1) (bc' := 1) (bs' := 6) (by decide +kernel) (by decide +kernel) (by decide +kernel) (by decide +kernel) (e0k hE (k := 1) (c := 0) (by decide +kernel)).1 (e0k hE (k := 1) (c := 0) (by decide +kernel)).2 (by decide) (by decide +kernel) (show 2 = gm_na 133 by decide +kernel) (fw_c2 fw_si fw_si) (show 3 ≤ gm_ml 133 by decide +kernel) (Nat.le_of_ble_eq_true rfl) (by omega) (by omega) (by omega) ?_
    refine nd_133 (i := w) (sz := (N 5)) (by omega) (by decide) (by decide) hi2 ⟨by omega, by omega⟩ (fun c17 => ?_) (fun c17 => ?_)
    · show gm_Wp X LX d _ _ 174 20 _ [] n K _ _ Q
      refine gm_sz (gm_p_load (pc := 20) (i := .aload_n 0) (sr := 2) (j := 0) (by decide +kernel) rfl rfl rfl) ?_
      refine gm_sz (fw_gr (pc := 21) (ix := 58) (ci := 0) (j := 9) (r := 206) (by decide +kernel) (e0k hE (k := 1) (c := 0) (by decide +kernel)) (by decide +kernel) (by decide +kernel) (e0r hE (k := 1) (j := 9) (r := 206) (by decide +kernel))) ?_
      refine gm_sz (gm_p_load (pc := 24) (i := .iload_n 1) (sr := 0) (j := 1) (by decide +kernel) rfl rfl rfl) ?_
      refine gm_c_virt (k := 206) (ci := 5) (mj := 27) (ix := 217) (pc := 25) (as := [gm_vi l]) (st := []) (d' := d - 1) (bc' := 0) (bs' := 0) (by decide +kernel) (by decide +kernel) (by decide +kernel) (by decide +kernel) (e0k hE (k := 206) (c := 5) (by decide +kernel)).1 (e0k hE (k := 206) (c := 5) (by decide +kernel)).2 (by decide) (by decide +kernel) (show 1 = gm_na 27 by decide +kernel) (fw_c1 fw_si) (show 2 ≤ gm_ml 27 by decide +kernel) (Nat.le_of_ble_eq_true rfl) (by omega) (Nat.zero_le _) (Nat.zero_le _) ?_
      refine wy_let206 (by omega) hE hT hN ⟨by omega, by omega⟩ ?_
      show gm_Wp X LX d _ _ 174 28 _ [] n K _ _ Q
      refine gm_sz (gm_p_load (pc := 28) (i := .aload_n 0) (sr := 2) (j := 0) (by decide +kernel) rfl rfl rfl) ?_
      refine gm_sz (fw_gr (pc := 29) (ix := 58) (ci := 0) (j := 9) (r := 206) (by decide +kernel) (e0k hE (k := 1) (c := 0) (by decide +kernel)) (by decide +kernel) (by decide +kernel) (e0r hE (k := 1) (j := 9) (r := 206) (by decide +kernel))) ?_
      refine gm_sz (gm_p_load (pc := 32) (i := .iload_n 2) (sr := 0) (j := 2) (by decide +kernel) rfl rfl rfl) ?_
      refine gm_c_virt (k := 206) (ci := 5) (mj := 175) (ix := 309) (pc := 33) (as := [gm_vi w]) (st := []) (d' := d - 1) (bc' := 0) (bs' := 0) (by decide +kernel) (by decide +kernel) (by decide +kernel) (by decide +kernel) (e0k hE (k := 206) (c := 5) (by decide +kernel)).1 (e0k hE (k := 206) (c := 5) (by decide +kernel)).2 (by decide) (by decide +kernel) (show 1 = gm_na 175 by decide +kernel) (fw_c1 fw_si) (show 2 ≤ gm_ml 175 by decide +kernel) (Nat.le_of_ble_eq_true rfl) (by omega) (Nat.zero_le _) (Nat.zero_le _) ?_
      refine lo_175 (w := w) hE ?_
      show gm_Wp X LX d _ _ 174 36 _ [] n K _ _ Q
      refine gm_sz (gm_p_load (pc := 36) (i := .aload_n 0) (sr := 2) (j := 0) (by decide +kernel) rfl rfl rfl) ?_
      refine gm_sz (fw_gr (pc := 37) (ix := 58) (ci := 0) (j := 9) (r := 206) (by decide +kernel) (e0k hE (k := 1) (c := 0) (by decide +kernel)) (by decide +kernel) (by decide +kernel) (e0r hE (k := 1) (j := 9) (r := 206) (by decide +kernel))) ?_
      refine gm_sz (gm_p_const (pc := 40) (i := .sipush 299) (v := gm_vi 299) (by decide +kernel) (by decide +kernel)) ?_
      refine gm_c_virt (k := 206) (ci := 5) (mj := 30) (ix := 295) (pc := 43) (as := [gm_vi 299]) (st := []) (d' := d - 1) (bc' := 0) (bs' := 0) (by decide +kernel) (by decide +kernel) (by decide +kernel) (by decide +kernel) (e0k hE (k := 206) (c := 5) (by decide +kernel)).1 (e0k hE (k := 206) (c := 5) (by decide +kernel)).2 (by decide) (by decide +kernel) (show 1 = gm_na 30 by decide +kernel) (fw_c1 fw_si) (show 2 ≤ gm_ml 30 by decide +kernel) (Nat.le_of_ble_eq_true rfl) (by omega) (Nat.zero_le _) (Nat.zero_le _) ?_
      refine wy_c30_206 (lane := (N (119 + (l * 7 + 2)))) (rock := (if (N (119 + (l * 7 + 0))) = -1 then 1 else 0)) (wo := w) (r0 := (N (119 + (l * 7 + 4)))) (y0 := (N (119 + (l * 7 + 3)))) (lim := 299) (by omega) hE (ti_fr (W := [(206, some 2), (206, some 5), (206, some 7), (206, some 3), (206, some 4), (206, some 6), (206, some 8)]) hT (fr_p (fr_p (fr_p (fr_p (fr_p (fr_p (fr_p (fr_p fr_0 (Or.inr (by decide))) (Or.inr (by decide))) (Or.inr (by decide))) (Or.inr (by decide))) (Or.inr (by decide))) (Or.inr (by decide))) (Or.inr (by decide))) (Or.inr (by decide))) (by decide) (by decide +kernel)) hN hfw (hfw.2.1 [(206, some 2), (206, some 5), (206, some 7), (206, some 3), (206, some 4), (206, some 6), (206, some 8)] _ _ (by decide) (fr_p (fr_p (fr_p (fr_p (fr_p (fr_p (fr_p (fr_p fr_0 (Or.inr (by decide))) (Or.inr (by decide))) (Or.inr (by decide))) (Or.inr (by decide))) (Or.inr (by decide))) (Or.inr (by decide))) (Or.inr (by decide))) (Or.inr (by decide))) hI) ((uM_ne (by omega)).trans ((uM_ne (by omega)).trans ((uM_ne (by omega)).trans ((uM_ne (by omega)).trans ((uM_ne (by omega)).trans ((uM_ne (by omega)).trans ((uM_ne (by omega)).trans uM_at))))))) ((uM_ne (by omega)).trans ((uM_ne (by omega)).trans ((uM_ne (by omega)).trans ((uM_ne (by omega)).trans uM_at)))) uM_at ((uM_ne (by omega)).trans ((uM_ne (by omega)).trans ((uM_ne (by omega)).trans ((uM_ne (by omega)).trans ((uM_ne (by omega)).trans ((uM_ne (by omega)).trans uM_at)))))) ((uM_ne (by omega)).trans ((uM_ne (by omega)).trans uM_at)) ((uM_ne (by omega)).trans ((uM_ne (by omega)).trans ((uM_ne (by omega)).trans ((uM_ne (by omega)).trans ((uM_ne (by omega)).trans uM_at))))) l3.1 l2 rk9 ⟨by omega, by omega⟩ l4 (by omega) (by decide) (by decide) (fun j9 M30 hf30 hI30 g1 g2 g3 g5 g6 => ?_) (fun M30 hf30 hI30 g1 => ?_)
      · show gm_Wp X LX d _ _ 174 46 _ [gm_vi ((N (119 + (l * 7 + 3))) + (j9 : Int))] n K _ _ Q
        exact gm_r_int (pc := 46) (by decide +kernel) (Or.inl (by decide +kernel)) (kv ⟨by omega, by omega⟩ _ (Or.inr ⟨j9, g1, rfl, g2, g3⟩) _)
      · show gm_Wp X LX d _ _ 174 46 _ [gm_vi (-1)] n K _ _ Q
        exact gm_r_int (pc := 46) (by decide +kernel) (Or.inl (by decide +kernel)) (kv ⟨by omega, by omega⟩ _ (Or.inl ⟨rfl, g1⟩) _)
    · show Q (.inr 3) n K _ _
      exact (k3 (by omega))
  · show Q (.inr 3) n K _ _
    have c2 : ¬ (0 ≤ l ∧ l < N 4) := c2
    exact (k3 (by omega))
theorem cl_withoutx (hd : 20 ≤ d) (hbc : 4 ≤ bc) (hbs : 24 ≤ bs) (hE : E0 n K R) (hT : TI N h sp M) (hN : NR N) (hl : ¬ (0 ≤ l ∧ l < N 4)) (hi : gm_ir l) (k3 : Q (.inr 3) n K R M) : gm_Wp X LX d bc bs 174 0 (gm_ent 174 [gm_vr 1, gm_vi l, gm_vi w]) [] n K R M Q := by
  obtain ⟨⟨⟨a0, b0⟩, ⟨a1, b1⟩, ⟨a10, b10⟩, ⟨a11, b11⟩, ⟨a12, b12⟩, a9, b9⟩, ⟨⟨a2, b2⟩, ⟨a5, b5⟩, ⟨a3, b3⟩, ⟨a4, b4⟩, ⟨a6, b6⟩, ⟨a14, b14⟩, ⟨a7, b7⟩, a13, b13⟩, rF, rP, rL⟩ := id hN
  refine gm_sz (gm_p_load (pc := 0) (i := .aload_n 0) (sr := 2) (j := 0) (by decide +kernel) rfl rfl rfl) ?_
  refine gm_sz (gm_p_load (pc := 1) (i := .iload_n 1) (sr := 0) (j := 1) (by decide +kernel) rfl rfl rfl) ?_
  refine gm_c_virt (k := 1) (ci := 0) (mj := 143) (ix := 200) (pc := 2) (as := [gm_vi l]) (st := []) (d' := d - 1) (bc' := 1) (bs' := 6) (by decide +kernel) (by decide +kernel) (by decide +kernel) (by decide +kernel) (e0k hE (k := 1) (c := 0) (by decide +kernel)).1 (e0k hE (k := 1) (c := 0) (by decide +kernel)).2 (by decide) (by decide +kernel) (show 1 = gm_na 143 by decide +kernel) (fw_c1 fw_si) (show 2 ≤ gm_ml 143 by decide +kernel) (Nat.le_of_ble_eq_true rfl) (by omega) (by omega) (by omega) ?_
  refine nd_143 (i := l) (by omega) (by omega) (by omega) hE hT hN hi (fun c2 => ?_) (fun c2 => ?_)
  · show gm_Wp X LX d _ _ 174 5 _ [] n K _ _ Q
    have c2 : 0 ≤ l ∧ l < N 4 := c2
    exact absurd ⟨by omega, by omega⟩ hl
  · show Q (.inr 3) n K _ _
    have c2 : ¬ (0 ≤ l ∧ l < N 4) := c2
    exact k3
theorem re_without (hd : 20 ≤ d) (hE : E0 n K R) (hT : TR N h M) (hN : NR N) (hfw : FLR X LX n K R N h FI φ) (hI : FI M) (hl : 0 ≤ l ∧ l < N 4) (hi2 : gm_ir w) (kv : 0 ≤ w ∧ w < N 5 → ∀ v, WOUT N h φ l w v → ∀ M2, M2 226 0 = 0 → Q (.inl (some (gm_vi v))) n K R M2) (k1 : ¬ (0 ≤ w ∧ w < N 5) → ∀ M2, M2 226 0 = 1 → Q (.inl (some (gm_vi 0))) n K R M2) : gm_Wp X LX d bc bs 328 0 (gm_ent 328 [gm_vr 226, gm_vi l, gm_vi w]) [] n K R M Q := by
  obtain ⟨⟨⟨a0, b0⟩, ⟨a1, b1⟩, ⟨a10, b10⟩, ⟨a11, b11⟩, ⟨a12, b12⟩, a9, b9⟩, ⟨⟨a2, b2⟩, ⟨a5, b5⟩, ⟨a3, b3⟩, ⟨a4, b4⟩, ⟨a6, b6⟩, ⟨a14, b14⟩, ⟨a7, b7⟩, a13, b13⟩, rF, rP, rL⟩ := id hN
  obtain ⟨r0, r1, l2, l3, l4, r5, r6, -⟩ := rL l hl.1 hl.2
  have l5 : 0 ≤ (N (119 + (l * 7 + 4))) ∧ (N (119 + (l * 7 + 4))) ≤ 300 := ⟨l4.1, by have := l4.2; omega⟩
  have l4 := l5
  have l39 : (N (119 + (l * 7 + 3))) ≤ 299 := by have := l3.2; omega
  have rk9 : 0 ≤ (if (N (119 + (l * 7 + 0))) = -1 then (1 : Int) else 0) ∧ (if (N (119 + (l * 7 + 0))) = -1 then (1 : Int) else 0) ≤ 1 := by split <;> exact ⟨by decide, by decide⟩
  refine gm_sz (gm_p_load (pc := 0) (i := .aload_n 0) (sr := 2) (j := 0) (by decide +kernel) rfl rfl rfl) ?_
  refine gm_sz (gm_p_const (pc := 1) (i := .iconst 0) (v := gm_vi 0) (by decide +kernel) (by decide +kernel)) ?_
  refine gm_sz (fw_pi (pc := 2) (ix := 3) (ci := 11) (j := 0) (M' := gm_uM M 226 0 0) (by decide +kernel) (e0k hE (k := 226) (c := 11) (by decide +kernel)) (by decide +kernel) (by decide +kernel) (by decide +kernel) rfl) ?_
  refine gm_sz (gm_p_load (pc := 5) (i := .aload_n 0) (sr := 2) (j := 0) (by decide +kernel) rfl rfl rfl) ?_
  refine gm_sz (gm_p_load (pc := 6) (i := .aload_n 0) (sr := 2) (j := 0) (by decide +kernel) rfl rfl rfl) ?_
  refine gm_sz (gm_p_load (pc := 7) (i := .iload_n 1) (sr := 0) (j := 1) (by decide +kernel) rfl rfl rfl) ?_
  refine gm_c_virt (k := 226) (ci := 11) (mj := 309) (ix := 405) (pc := 8) (as := [gm_vi l]) (st := [gm_vr 226]) (d' := d - 1) (bc' := 0) (bs' := 0) (by decide +kernel) (by decide +kernel) (by decide +kernel) (by decide +kernel) (e0k hE (k := 226) (c := 11) (by decide +kernel)).1 (e0k hE (k := 226) (c := 11) (by decide +kernel)).2 (by decide) (by decide +kernel) (show 1 = gm_na 309 by decide +kernel) (fw_c1 fw_si) (show 2 ≤ gm_ml 309 by decide +kernel) (Nat.le_of_ble_eq_true rfl) (by omega) (Nat.zero_le _) (Nat.zero_le _) ?_
  refine no_309 (i := l) (by omega) hE (tr_fr (W := [(226, some 0)]) hT (fr_p fr_0 (Or.inr (by decide))) (by decide)) hN ⟨by omega, by omega⟩ (fun n8 => ?_) (fun n8 => ?_)
  · show gm_Wp X LX d _ _ 328 11 _ [gm_vi 1, gm_vr 226] n K _ _ Q
    have n8 : ¬ (0 ≤ l ∧ l < N 4) := n8
    refine fw_iftd (cc := .ne) (pc := 11) (off := 19) (by decide +kernel) (by decide) ⟨by decide, by decide⟩ (by decide) ?_
    refine gm_sz (gm_p_const (pc := 30) (i := .iconst 1) (v := gm_vi 1) (by decide +kernel) (by decide +kernel)) ?_
    refine gm_sz (gm_p_goto (pc := 31) (off := 4) (by decide +kernel) (by decide)) ?_
    refine gm_sz (gm_p_const (pc := 35) (i := .iconst 1) (v := gm_vi 1) (by decide +kernel) (by decide +kernel)) ?_
    refine gm_c_virt (k := 226) (ci := 11) (mj := 282) (ix := 300) (pc := 36) (as := [gm_vi 1, gm_vi 1]) (st := []) (d' := d - 1) (bc' := 0) (bs' := 0) (by decide +kernel) (by decide +kernel) (by decide +kernel) (by decide +kernel) (e0k hE (k := 226) (c := 11) (by decide +kernel)).1 (e0k hE (k := 226) (c := 11) (by decide +kernel)).2 (by decide) (by decide +kernel) (show 2 = gm_na 282 by decide +kernel) (fw_c2 fw_si fw_si) (show 3 ≤ gm_ml 282 by decide +kernel) (Nat.le_of_ble_eq_true rfl) (by omega) (Nat.zero_le _) (Nat.zero_le _) ?_
    refine tf_1 hE ?_
    show gm_Wp X LX d _ _ 328 39 _ [gm_vi 1] n K _ _ Q
    refine fw_iffd (cc := .eq) (pc := 39) (off := 5) (by decide +kernel) (by decide) ⟨by decide, by decide⟩ (by decide) ?_
    refine gm_sz (gm_p_const (pc := 42) (i := .iconst 0) (v := gm_vi 0) (by decide +kernel) (by decide +kernel)) ?_
    exact gm_r_int (pc := 43) (by decide +kernel) (Or.inl (by decide +kernel)) (k1 (by omega) _ uM_at)
  · show gm_Wp X LX d _ _ 328 11 _ [gm_vi 0, gm_vr 226] n K _ _ Q
    have n8 : 0 ≤ l ∧ l < N 4 := n8
    refine fw_iffd (cc := .ne) (pc := 11) (off := 19) (by decide +kernel) (by decide) ⟨by decide, by decide⟩ (by decide) ?_
    refine gm_sz (gm_p_load (pc := 14) (i := .iload_n 2) (sr := 0) (j := 2) (by decide +kernel) rfl rfl rfl) ?_
    refine gm_sz (gm_p_const (pc := 15) (i := .iconst 0) (v := gm_vi 0) (by decide +kernel) (by decide +kernel)) ?_
    refine gm_sz (gm_p_load (pc := 16) (i := .aload_n 0) (sr := 2) (j := 0) (by decide +kernel) rfl rfl rfl) ?_
    refine gm_sz (fw_gr (pc := 17) (ix := 13) (ci := 11) (j := 1) (r := 227) (by decide +kernel) (e0k hE (k := 226) (c := 11) (by decide +kernel)) (by decide +kernel) (by decide +kernel) (e0r hE (k := 226) (j := 1) (r := 227) (by decide +kernel))) ?_
    refine gm_sz (gm_p_const (pc := 20) (i := .iconst 5) (v := gm_vi 5) (by decide +kernel) (by decide +kernel)) ?_
    refine gm_sz (fw_ia (pc := 21) (k := 227) (len := 2093) (e0 := 5) (x := N 5) (by decide +kernel) (e0a hE (k := 227) (q := (0, 2093)) (by decide +kernel)).1 (e0a hE (k := 227) (q := (0, 2093)) (by decide +kernel)).2 (by decide) ⟨by omega, by omega⟩ ((uM_ne (by omega)).trans (tr_w hT (by decide) (by decide) (by decide)))) ?_
    refine gm_sz (gm_p_const (pc := 22) (i := .iconst 1) (v := gm_vi 1) (by decide +kernel) (by decide +kernel)) ?_
    refine gm_sz (gm_p_bin (pc := 23) (i := .isub) (f := fun x y => x - y) (by decide +kernel) rfl) ?_
    refine gm_c_stat (mj := 286) (ix := 90) (pc := 24) (as := [gm_vi w, gm_vi 0, gm_vi ((N 5) - 1)]) (st := [gm_vr 226]) (d' := d - 1) (bc' := 0) (bs' := 0) (by decide +kernel) (by decide +kernel) (by decide +kernel) (by decide +kernel) (show 3 = gm_na 286 by decide +kernel) (fw_c3 fw_si fw_si fw_si) (show 3 ≤ gm_ml 286 by decide +kernel) (Nat.le_of_ble_eq_true rfl) (by omega) (Nat.zero_le _) (Nat.zero_le _) ?_
    refine in_286 (x := w) (y := 0) (z := ((N 5) - 1)) hi2 ⟨by decide, by decide⟩ ⟨by omega, by omega⟩ (fun k24a k24 => ?_) (fun k24 => ?_)
    · show gm_Wp X LX d _ _ 328 27 _ [gm_vi 1, gm_vr 226] n K _ _ Q
      have k24a : 0 ≤ w := k24a
      have k24 : w ≤ ((N 5) - 1) := k24
      refine fw_iftd (cc := .ne) (pc := 27) (off := 7) (by decide +kernel) (by decide) ⟨by decide, by decide⟩ (by decide) ?_
      refine gm_sz (gm_p_const (pc := 34) (i := .iconst 0) (v := gm_vi 0) (by decide +kernel) (by decide +kernel)) ?_
      refine gm_sz (gm_p_const (pc := 35) (i := .iconst 1) (v := gm_vi 1) (by decide +kernel) (by decide +kernel)) ?_
      refine gm_c_virt (k := 226) (ci := 11) (mj := 282) (ix := 300) (pc := 36) (as := [gm_vi 0, gm_vi 1]) (st := []) (d' := d - 1) (bc' := 0) (bs' := 0) (by decide +kernel) (by decide +kernel) (by decide +kernel) (by decide +kernel) (e0k hE (k := 226) (c := 11) (by decide +kernel)).1 (e0k hE (k := 226) (c := 11) (by decide +kernel)).2 (by decide) (by decide +kernel) (show 2 = gm_na 282 by decide +kernel) (fw_c2 fw_si fw_si) (show 3 ≤ gm_ml 282 by decide +kernel) (Nat.le_of_ble_eq_true rfl) (by omega) (Nat.zero_le _) (Nat.zero_le _) ?_
      refine tf_0 hE ?_
      show gm_Wp X LX d _ _ 328 39 _ [gm_vi 0] n K _ _ Q
      refine fw_iftd (cc := .eq) (pc := 39) (off := 5) (by decide +kernel) (by decide) ⟨by decide, by decide⟩ (by decide) ?_
      refine gm_sz (gm_p_load (pc := 44) (i := .aload_n 0) (sr := 2) (j := 0) (by decide +kernel) rfl rfl rfl) ?_
      refine gm_sz (gm_p_load (pc := 45) (i := .iload_n 1) (sr := 0) (j := 1) (by decide +kernel) rfl rfl rfl) ?_
      refine gm_sz (gm_p_load (pc := 46) (i := .iload_n 2) (sr := 0) (j := 2) (by decide +kernel) rfl rfl rfl) ?_
      refine gm_c_virt (k := 226) (ci := 11) (mj := 305) (ix := 381) (pc := 47) (as := [gm_vi l, gm_vi w]) (st := []) (d' := d - 1) (bc' := 0) (bs' := 0) (by decide +kernel) (by decide +kernel) (by decide +kernel) (by decide +kernel) (e0k hE (k := 226) (c := 11) (by decide +kernel)).1 (e0k hE (k := 226) (c := 11) (by decide +kernel)).2 (by decide) (by decide +kernel) (show 2 = gm_na 305 by decide +kernel) (fw_c2 fw_si fw_si) (show 3 ≤ gm_ml 305 by decide +kernel) (Nat.le_of_ble_eq_true rfl) (by omega) (Nat.zero_le _) (Nat.zero_le _) ?_
      refine re_c305 (l := l) (wo := w) (by omega) hE (tr_fr (W := [(226, some 0)]) hT (fr_p fr_0 (Or.inr (by decide))) (by decide)) hN hfw (hfw.2.1 [(226, some 0)] _ _ (by decide) (fr_p fr_0 (Or.inr (by decide))) hI) ⟨by omega, by omega⟩ hi2 (fun M47 hf47 hI47 hr47 => ?_)
      show gm_Wp X LX d _ _ 328 50 _ [] n K _ _ Q
      have hr47 : rrun N h φ ((N (119 + (l * 7 + 2)))) (if (N (119 + (l * 7 + 0))) = -1 then 1 else 0) w ((N (119 + (l * 7 + 3)))) ((N (119 + (l * 7 + 4)))) M47 := hr47
      refine gm_sz (gm_p_load (pc := 50) (i := .aload_n 0) (sr := 2) (j := 0) (by decide +kernel) rfl rfl rfl) ?_
      refine gm_sz (fw_gi (pc := 51) (ix := 368) (ci := 11) (j := 29) (x := M47 226 29) (by decide +kernel) (e0k hE (k := 226) (c := 11) (by decide +kernel)) (by decide +kernel) (by decide +kernel) rfl) ?_
      have ho9 : WOUT N h φ l w (M47 226 29) := by
        obtain ⟨-, -, hr⟩ := hr47
        rcases hr with ⟨a, b⟩ | ⟨j, a, b, c, e⟩
        · exact Or.inl ⟨a, fun j hj => b j (by omega)⟩
        · exact Or.inr ⟨j, by omega, b, c, e⟩
      exact gm_r_int (pc := 54) (by decide +kernel) (Or.inl (by decide +kernel)) (kv ⟨by omega, by omega⟩ _ ho9 _ ((fr_j hf47 (by decide)).trans uM_at))
    · show gm_Wp X LX d _ _ 328 27 _ [gm_vi 0, gm_vr 226] n K _ _ Q
      have k24 : ¬ (0 ≤ w ∧ w ≤ ((N 5) - 1)) := k24
      refine fw_iffd (cc := .ne) (pc := 27) (off := 7) (by decide +kernel) (by decide) ⟨by decide, by decide⟩ (by decide) ?_
      refine gm_sz (gm_p_const (pc := 30) (i := .iconst 1) (v := gm_vi 1) (by decide +kernel) (by decide +kernel)) ?_
      refine gm_sz (gm_p_goto (pc := 31) (off := 4) (by decide +kernel) (by decide)) ?_
      refine gm_sz (gm_p_const (pc := 35) (i := .iconst 1) (v := gm_vi 1) (by decide +kernel) (by decide +kernel)) ?_
      refine gm_c_virt (k := 226) (ci := 11) (mj := 282) (ix := 300) (pc := 36) (as := [gm_vi 1, gm_vi 1]) (st := []) (d' := d - 1) (bc' := 0) (bs' := 0) (by decide +kernel) (by decide +kernel) (by decide +kernel) (by decide +kernel) (e0k hE (k := 226) (c := 11) (by decide +kernel)).1 (e0k hE (k := 226) (c := 11) (by decide +kernel)).2 (by decide) (by decide +kernel) (show 2 = gm_na 282 by decide +kernel) (fw_c2 fw_si fw_si) (show 3 ≤ gm_ml 282 by decide +kernel) (Nat.le_of_ble_eq_true rfl) (by omega) (Nat.zero_le _) (Nat.zero_le _) ?_
      refine tf_1 hE ?_
      show gm_Wp X LX d _ _ 328 39 _ [gm_vi 1] n K _ _ Q
      refine fw_iffd (cc := .eq) (pc := 39) (off := 5) (by decide +kernel) (by decide) ⟨by decide, by decide⟩ (by decide) ?_
      refine gm_sz (gm_p_const (pc := 42) (i := .iconst 0) (v := gm_vi 0) (by decide +kernel) (by decide +kernel)) ?_
      exact gm_r_int (pc := 43) (by decide +kernel) (Or.inl (by decide +kernel)) (k1 (by omega) _ uM_at)
theorem re_withoutx (hd : 20 ≤ d) (hE : E0 n K R) (hT : TR N h M) (hN : NR N) (hl : ¬ (0 ≤ l ∧ l < N 4)) (hi : gm_ir l) (hi2 : gm_ir w) (k1 : ∀ M2, M2 226 0 = 1 → Q (.inl (some (gm_vi 0))) n K R M2) : gm_Wp X LX d bc bs 328 0 (gm_ent 328 [gm_vr 226, gm_vi l, gm_vi w]) [] n K R M Q := by
  obtain ⟨⟨⟨a0, b0⟩, ⟨a1, b1⟩, ⟨a10, b10⟩, ⟨a11, b11⟩, ⟨a12, b12⟩, a9, b9⟩, ⟨⟨a2, b2⟩, ⟨a5, b5⟩, ⟨a3, b3⟩, ⟨a4, b4⟩, ⟨a6, b6⟩, ⟨a14, b14⟩, ⟨a7, b7⟩, a13, b13⟩, rF, rP, rL⟩ := id hN
  refine gm_sz (gm_p_load (pc := 0) (i := .aload_n 0) (sr := 2) (j := 0) (by decide +kernel) rfl rfl rfl) ?_
  refine gm_sz (gm_p_const (pc := 1) (i := .iconst 0) (v := gm_vi 0) (by decide +kernel) (by decide +kernel)) ?_
  refine gm_sz (fw_pi (pc := 2) (ix := 3) (ci := 11) (j := 0) (M' := gm_uM M 226 0 0) (by decide +kernel) (e0k hE (k := 226) (c := 11) (by decide +kernel)) (by decide +kernel) (by decide +kernel) (by decide +kernel) rfl) ?_
  refine gm_sz (gm_p_load (pc := 5) (i := .aload_n 0) (sr := 2) (j := 0) (by decide +kernel) rfl rfl rfl) ?_
  refine gm_sz (gm_p_load (pc := 6) (i := .aload_n 0) (sr := 2) (j := 0) (by decide +kernel) rfl rfl rfl) ?_
  refine gm_sz (gm_p_load (pc := 7) (i := .iload_n 1) (sr := 0) (j := 1) (by decide +kernel) rfl rfl rfl) ?_
  refine gm_c_virt (k := 226) (ci := 11) (mj := 309) (ix := 405) (pc := 8) (as := [gm_vi l]) (st := [gm_vr 226]) (d' := d - 1) (bc' := 0) (bs' := 0) (by decide +kernel) (by decide +kernel) (by decide +kernel) (by decide +kernel) (e0k hE (k := 226) (c := 11) (by decide +kernel)).1 (e0k hE (k := 226) (c := 11) (by decide +kernel)).2 (by decide) (by decide +kernel) (show 1 = gm_na 309 by decide +kernel) (fw_c1 fw_si) (show 2 ≤ gm_ml 309 by decide +kernel) (Nat.le_of_ble_eq_true rfl) (by omega) (Nat.zero_le _) (Nat.zero_le _) ?_
  refine no_309 (i := l) (by omega) hE (tr_fr (W := [(226, some 0)]) hT (fr_p fr_0 (Or.inr (by decide))) (by decide)) hN hi (fun n8 => ?_) (fun n8 => ?_)
  · show gm_Wp X LX d _ _ 328 11 _ [gm_vi 1, gm_vr 226] n K _ _ Q
    have n8 : ¬ (0 ≤ l ∧ l < N 4) := n8
    refine fw_iftd (cc := .ne) (pc := 11) (off := 19) (by decide +kernel) (by decide) ⟨by decide, by decide⟩ (by decide) ?_
    refine gm_sz (gm_p_const (pc := 30) (i := .iconst 1) (v := gm_vi 1) (by decide +kernel) (by decide +kernel)) ?_
    refine gm_sz (gm_p_goto (pc := 31) (off := 4) (by decide +kernel) (by decide)) ?_
    refine gm_sz (gm_p_const (pc := 35) (i := .iconst 1) (v := gm_vi 1) (by decide +kernel) (by decide +kernel)) ?_
    refine gm_c_virt (k := 226) (ci := 11) (mj := 282) (ix := 300) (pc := 36) (as := [gm_vi 1, gm_vi 1]) (st := []) (d' := d - 1) (bc' := 0) (bs' := 0) (by decide +kernel) (by decide +kernel) (by decide +kernel) (by decide +kernel) (e0k hE (k := 226) (c := 11) (by decide +kernel)).1 (e0k hE (k := 226) (c := 11) (by decide +kernel)).2 (by decide) (by decide +kernel) (show 2 = gm_na 282 by decide +kernel) (fw_c2 fw_si fw_si) (show 3 ≤ gm_ml 282 by decide +kernel) (Nat.le_of_ble_eq_true rfl) (by omega) (Nat.zero_le _) (Nat.zero_le _) ?_
    refine tf_1 hE ?_
    show gm_Wp X LX d _ _ 328 39 _ [gm_vi 1] n K _ _ Q
    refine fw_iffd (cc := .eq) (pc := 39) (off := 5) (by decide +kernel) (by decide) ⟨by decide, by decide⟩ (by decide) ?_
    refine gm_sz (gm_p_const (pc := 42) (i := .iconst 0) (v := gm_vi 0) (by decide +kernel) (by decide +kernel)) ?_
    exact gm_r_int (pc := 43) (by decide +kernel) (Or.inl (by decide +kernel)) (k1 _ uM_at)
  · show gm_Wp X LX d _ _ 328 11 _ [gm_vi 0, gm_vr 226] n K _ _ Q
    have n8 : 0 ≤ l ∧ l < N 4 := n8
    refine fw_iffd (cc := .ne) (pc := 11) (off := 19) (by decide +kernel) (by decide) ⟨by decide, by decide⟩ (by decide) ?_
    exact absurd n8 hl
end TF64
section TF64B
variable {X : Int → Int} {LX d bc bs n g z g1 : Nat} {la : Nat → Nat} {K : gm_K} {R : gm_R} {M : gm_M} {N : Int → Int} {lw : Option (List lln)} {A : List (Int → Int)} {im : Option ((Int → Int) × Option (List lln))} {t w : Int} {f : Int → Int} {a b c e : Int} {NC : Nat} {C Ln G : Int → Int}
noncomputable def q_throwsFor (lw : Option (List lln)) (N : Int → Int) (a : Int) (b : Int) (c : Int) (e : Int) : Int × Int := tif (¬ (0 ≤ a ∧ a < N 0)) (1, 0) (tif (¬ (((0 ≤ b ∧ b ≤ 299) ∧ (0 ≤ c ∧ c ≤ 299)) ∧ N 9 ≤ b)) (2, 0) (tif (¬ (0 ≤ e ∧ e ≤ 2)) (3, 0) (tif (e = 0) (0, (thf N (hts (N 13)) (aphi lw N (hts (N 13))) a b c (N 1).toNat).1) (tif (e = 1) (0, (thf N (hts (N 13)) (aphi lw N (hts (N 13))) a b c (N 1).toNat).2.1) (0, (thf N (hts (N 13)) (aphi lw N (hts (N 13))) a b c (N 1).toNat).2.2)))))
theorem iq_throwsFor : gm_ir (q_throwsFor lw N a b c e).1 := by
  unfold q_throwsFor
  exact tif_ir (show (-2147483648 : Int) ≤ 1 ∧ (1 : Int) < 2147483648 from by decide) (tif_ir (show (-2147483648 : Int) ≤ 2 ∧ (2 : Int) < 2147483648 from by decide) (tif_ir (show (-2147483648 : Int) ≤ 3 ∧ (3 : Int) < 2147483648 from by decide) (tif_ir (show (-2147483648 : Int) ≤ 0 ∧ (0 : Int) < 2147483648 from by decide) (tif_ir (show (-2147483648 : Int) ≤ 0 ∧ (0 : Int) < 2147483648 from by decide) ((show (-2147483648 : Int) ≤ 0 ∧ (0 : Int) < 2147483648 from by decide))))))
theorem cq_throwsFor (hd : 24 ≤ d) (hbc : 4 ≤ bc) (hbs : 24 ≤ bs) (hE : E0 n K R) (hn : 245 ≤ n) (hK : K 245 = (2, 1)) (hc : CC n K R NC C Ln G lw) (hL : LBX NC C Ln lw M) (hG : GJ N) (hV : CLV N lw A im t w f M) (ia : gm_ir a) (ib : gm_ir b) (ic : gm_ir c) (ie : gm_ir e) : gm_Wp X LX d bc bs 167 0 (gm_ent 167 [gm_vr 1, gm_vi a, gm_vi b, gm_vi c, gm_vi e]) [] n K R M (hQ [(3, 1), (0, 2), (4, 3)] (CF (q_throwsFor lw N a b c e).1 (oV (q_throwsFor lw N a b c e).1 (q_throwsFor lw N a b c e).2))) := by
  exact cl_throwsFor (Nat.le_trans (by decide) hd) hbc hbs hE hV.1.1 hG.1.1 (flw_a hE hc hG.1.1 hG.1.2.1) (fic_of hL hV) ia ib ic ie (fun h h1 h2 M2 => hQ_v hn hK (cf_v hK ((tif_f (fun hh => hh h1)).trans ((tif_f (fun hh => hh h2)).trans ((tif_f (fun hh => hh ⟨by omega, by omega⟩)).trans (tif_t h)))) rfl)) (fun h h1 h2 M2 => hQ_v hn hK (cf_v hK ((tif_f (fun hh => hh h1)).trans ((tif_f (fun hh => hh h2)).trans ((tif_f (fun hh => hh ⟨by omega, by omega⟩)).trans ((tif_f (show ¬ e = 0 by omega)).trans (tif_t h))))) rfl)) (fun h h1 h2 M2 => hQ_v hn hK (cf_v hK ((tif_f (fun hh => hh h1)).trans ((tif_f (fun hh => hh h2)).trans ((tif_f (fun hh => hh ⟨by omega, by omega⟩)).trans ((tif_f (show ¬ e = 0 by omega)).trans (tif_f (show ¬ e = 1 by omega)))))) rfl)) (fun h => hQ_x hn hK (c := 1) (by decide) (cf_x hK (tif_t h) (by decide))) (fun h1 h => hQ_x hn hK (c := 2) (by decide) (cf_x hK ((tif_f (fun hh => hh h1)).trans (tif_t h)) (by decide))) (fun h1 h2 h => hQ_x hn hK (c := 3) (by decide) (cf_x hK ((tif_f (fun hh => hh h1)).trans ((tif_f (fun hh => hh h2)).trans (tif_t h))) (by decide)))
theorem rq_throwsFor (hd : 24 ≤ d) (hE : E0 n K R) (hT : jT fun j => M 227 (395 + j)) (hS6 : NSb 6 N) (hG : GJ N) (hV : RFV N lw A im t w f M) (ia : gm_ir a) (ib : gm_ir b) (ic : gm_ir c) (ie : gm_ir e) : gm_Wp X LX d bc bs 324 0 (gm_ent 324 [gm_vr 226, gm_vi a, gm_vi b, gm_vi c, gm_vi e]) [] n K R M (RF (q_throwsFor lw N a b c e).1 (q_throwsFor lw N a b c e).2) := by
  have k226 := k226 hE
  exact re_throwsFor (Nat.le_trans (by decide) hd) hE hV.1.1 hG.1.1 (flr_a hE (lawg_of hV.1.2.1 hT) hgeo_r hG.1.1 hG.1.1 hS6) ⟨hV.2.1, fun _ _ => rfl⟩ ia ib ic ie (fun h h1 h2 M2 h0 => rf_e k226 ((tif_f (fun hh => hh h1)).trans ((tif_f (fun hh => hh h2)).trans ((tif_f (fun hh => hh ⟨by omega, by omega⟩)).trans (tif_t h)))) (fun _ => rfl) h0) (fun h h1 h2 M2 h0 => rf_e k226 ((tif_f (fun hh => hh h1)).trans ((tif_f (fun hh => hh h2)).trans ((tif_f (fun hh => hh ⟨by omega, by omega⟩)).trans ((tif_f (show ¬ e = 0 by omega)).trans (tif_t h))))) (fun _ => rfl) h0) (fun h h1 h2 M2 h0 => rf_e k226 ((tif_f (fun hh => hh h1)).trans ((tif_f (fun hh => hh h2)).trans ((tif_f (fun hh => hh ⟨by omega, by omega⟩)).trans ((tif_f (show ¬ e = 0 by omega)).trans (tif_f (show ¬ e = 1 by omega)))))) (fun _ => rfl) h0) (fun h M2 h0 => rf_e k226 (tif_t h) (fun e => absurd e (by decide)) h0) (fun h1 h M2 h0 => rf_e k226 ((tif_f (fun hh => hh h1)).trans (tif_t h)) (fun e => absurd e (by decide)) h0) (fun h1 h2 h M2 h0 => rf_e k226 ((tif_f (fun hh => hh h1)).trans ((tif_f (fun hh => hh h2)).trans (tif_t h))) (fun e => absurd e (by decide)) h0)
theorem fw_throwsFor (hb : bg g la K R M) (hR : REL la K M N lw A im t w f) (ia : gm_ir a) (ib : gm_ir b) (ic : gm_ir c) (ie : gm_ir e) : ∀ z g1, bs_ok la z g1 → ¬ z = 100003 → gm_Wp X LX 279 6 600 166 0 (gm_ent 166 (gm_vr 1 :: bc_as [a, b, c, e] true)) [] (245 + 4 * g1) (bs_K la K) (bs_R z g1) (bs_M la M) (CF (q_throwsFor lw N a b c e).1 (oV (q_throwsFor lw N a b c e).1 (q_throwsFor lw N a b c e).2)) := by
  intro z g1 hz hz3
  have hE := e0_w hb hz
  obtain ⟨NC, C, Ln, hcc, hlb⟩ := cc_w hb hz hz3 hR.2.1.1 hR.2.2.2.1.2.1
  exact hl_166 (d := 278) (k1_e hE) (cq_throwsFor (by decide) (by decide) (by decide) hE (k245 hE).1 (k245 hE).2 hcc hlb hR.1.1 (clv_w hb hR.2.2.1) ia ib ic ie)
theorem fm_throwsFor (hb : bg g la K R M) (hR : REL la K M N lw A im t w f) (ia : gm_ir a) (ib : gm_ir b) (ic : gm_ir c) (ie : gm_ir e) : gm_Wp X LX 279 6 600 324 0 (gm_ent 324 (gm_vr 226 :: [a, b, c, e].map gm_vi)) [] 245 (bs_K la K) (bs_R 100003 0) (bs_M la M) (RF (q_throwsFor lw N a b c e).1 (q_throwsFor lw N a b c e).2) := rq_throwsFor (by decide) (e0_w hb (Or.inr (Or.inl ⟨rfl, rfl⟩))) (gJ_w hb) (ns6 (bs_F0 (z := 100003) hb) (rfv_w (la := la) hR.2.2.2).1.1.1 hR.1.1.1.1) hR.1.1 (rfv_w hR.2.2.2) ia ib ic ie
/-- what without answers -/
noncomputable def v_without (lw : Option (List lln)) (N : Int → Int) (a b : Int) : Int := @dite Int (∃ v, WOUT N (hts (N 13)) (aphi lw N (hts (N 13))) a b v) (Classical.propDecidable _) (fun h => Classical.choose h) (fun _ => 0)
theorem v_without_s {v : Int} (h : WOUT N (hts (N 13)) (aphi lw N (hts (N 13))) a b v) : v_without lw N a b = v := by
  unfold v_without
  rw [dif_pos ⟨v, h⟩]
  exact WOUT_u (Classical.choose_spec (⟨v, h⟩ : ∃ v, WOUT N (hts (N 13)) (aphi lw N (hts (N 13))) a b v)) h
noncomputable def q_without (lw : Option (List lln)) (N : Int → Int) (a : Int) (b : Int) : Int × Int := tif (¬ ((0 ≤ a ∧ a < N 4) ∧ (0 ≤ b ∧ b < N 5))) (1, 0) (0, v_without lw N a b)
theorem iq_without : gm_ir (q_without lw N a b).1 := by
  unfold q_without
  exact tif_ir (show (-2147483648 : Int) ≤ 1 ∧ (1 : Int) < 2147483648 from by decide) ((show (-2147483648 : Int) ≤ 0 ∧ (0 : Int) < 2147483648 from by decide))
theorem cq_without (hd : 24 ≤ d) (hbc : 4 ≤ bc) (hbs : 24 ≤ bs) (hE : E0 n K R) (hn : 245 ≤ n) (hK : K 245 = (2, 1)) (hc : CC n K R NC C Ln G lw) (hL : LBX NC C Ln lw M) (hG : GJ N) (hV : CLV N lw A im t w f M) (ia : gm_ir a) (ib : gm_ir b) : gm_Wp X LX d bc bs 174 0 (gm_ent 174 [gm_vr 1, gm_vi a, gm_vi b]) [] n K R M (hQ [(3, 1)] (CF (q_without lw N a b).1 (oV (q_without lw N a b).1 (q_without lw N a b).2))) := by
  by_cases hl : 0 ≤ a ∧ a < N 4
  · exact cl_without (Nat.le_trans (by decide) hd) hbc hbs hE hV.1.1 hG.1.1 (flw_a hE hc hG.1.1 hG.1.2.1) (fic_of hL hV) hl ib (fun h v hv M2 => hQ_v hn hK (cf_v hK ((tif_f (fun hh => hh ⟨hl, h⟩)).trans (congrArg (Prod.mk 0) (v_without_s hv))) rfl)) (fun h => hQ_x hn hK (c := 1) (by decide) (cf_x hK (tif_t (fun hh => h hh.2)) (by decide)))
  · exact cl_withoutx (Nat.le_trans (by decide) hd) hbc hbs hE hV.1.1 hG.1.1 hl ia (hQ_x hn hK (c := 1) (by decide) (cf_x hK (tif_t (fun hh => hl hh.1)) (by decide)))
theorem rq_without (hd : 24 ≤ d) (hE : E0 n K R) (hT : jT fun j => M 227 (395 + j)) (hS6 : NSb 6 N) (hG : GJ N) (hV : RFV N lw A im t w f M) (ia : gm_ir a) (ib : gm_ir b) : gm_Wp X LX d bc bs 328 0 (gm_ent 328 [gm_vr 226, gm_vi a, gm_vi b]) [] n K R M (RF (q_without lw N a b).1 (q_without lw N a b).2) := by
  have k226 := k226 hE
  by_cases hl : 0 ≤ a ∧ a < N 4
  · exact re_without (Nat.le_trans (by decide) hd) hE hV.1.1 hG.1.1 (flr_a hE (lawg_of hV.1.2.1 hT) hgeo_r hG.1.1 hG.1.1 hS6) ⟨hV.2.1, fun _ _ => rfl⟩ hl ib (fun h v hv M2 h0 => rf_e k226 ((tif_f (fun hh => hh ⟨hl, h⟩)).trans (congrArg (Prod.mk 0) (v_without_s hv))) (fun _ => rfl) h0) (fun h M2 h0 => rf_e k226 (tif_t (fun hh => h hh.2)) (fun e => absurd e (by decide)) h0)
  · exact re_withoutx (Nat.le_trans (by decide) hd) hE hV.1.1 hG.1.1 hl ia ib (fun M2 h0 => rf_e k226 (tif_t (fun hh => hl hh.1)) (fun e => absurd e (by decide)) h0)
theorem fw_without (hb : bg g la K R M) (hR : REL la K M N lw A im t w f) (ia : gm_ir a) (ib : gm_ir b) : ∀ z g1, bs_ok la z g1 → ¬ z = 100003 → gm_Wp X LX 279 6 600 173 0 (gm_ent 173 (gm_vr 1 :: bc_as [a, b] true)) [] (245 + 4 * g1) (bs_K la K) (bs_R z g1) (bs_M la M) (CF (q_without lw N a b).1 (oV (q_without lw N a b).1 (q_without lw N a b).2)) := by
  intro z g1 hz hz3
  have hE := e0_w hb hz
  obtain ⟨NC, C, Ln, hcc, hlb⟩ := cc_w hb hz hz3 hR.2.1.1 hR.2.2.2.1.2.1
  exact hl_173 (d := 278) (k1_e hE) (cq_without (by decide) (by decide) (by decide) hE (k245 hE).1 (k245 hE).2 hcc hlb hR.1.1 (clv_w hb hR.2.2.1) ia ib)
theorem fm_without (hb : bg g la K R M) (hR : REL la K M N lw A im t w f) (ia : gm_ir a) (ib : gm_ir b) : gm_Wp X LX 279 6 600 328 0 (gm_ent 328 (gm_vr 226 :: [a, b].map gm_vi)) [] 245 (bs_K la K) (bs_R 100003 0) (bs_M la M) (RF (q_without lw N a b).1 (q_without lw N a b).2) := rq_without (by decide) (e0_w hb (Or.inr (Or.inl ⟨rfl, rfl⟩))) (gJ_w hb) (ns6 (bs_F0 (z := 100003) hb) (rfv_w (la := la) hR.2.2.2).1.1.1 hR.1.1.1.1) hR.1.1 (rfv_w hR.2.2.2) ia ib
end TF64B
