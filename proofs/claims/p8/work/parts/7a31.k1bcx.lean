/-! 7a31.k1bcx -/
section
/-! THE CLASS'S READER OF A LAW, with the lines that it lays down (laid by wip/core/k1b.py out of p5's texts). -/
/-- a line more -/
noncomputable def dln (D : Int → Int) (i k m b s : Int) : Int → Int := fun t => if t = i * 4 + 3 then s else if t = i * 4 + 2 then b else if t = i * 4 + 1 then m else if t = i * 4 + 0 then k else D t
/-- the lines laid down so far -/
noncomputable def cdl (ls : List lln) (us : Int) (D C : Int → Int) : Prop := LC ls C D ∧ (∀ i, 0 ≤ i → i < us → ∃ (k : Nat) (x : lln) (t : List lst) (j : Nat), ls[k]? = some x ∧ x.2.2 = some t ∧ (scds t)[j]? = some (C i)) ∧ ∀ k : Nat, k < ls.length → (0 ≤ D ((k : Int) * 4 + 2) ∧ D ((k : Int) * 4 + 2) ≤ D ((k : Int) * 4 + 3) ∧ D ((k : Int) * 4 + 3) ≤ us) ∧ (0 ≤ D ((k : Int) * 4 + 0) ∧ D ((k : Int) * 4 + 0) ≤ 2) ∧ 0 ≤ D ((k : Int) * 4 + 1) ∧ D ((k : Int) * 4 + 1) ≤ 20
theorem cdl_0 {D C : Int → Int} : cdl [] 0 D C := ⟨fun k x h => by simp at h, fun i i0 i1 => by omega, fun k h => absurd h (Nat.not_lt_zero _)⟩
theorem cdl_add {ls : List lln} {us us2 lc k9 m9 : Int} {D C C2 : Int → Int} {c9 : Option (List lst)} (h : cdl ls us D C) (hl : lc = (ls.length : Int)) (hu : 0 ≤ us ∧ us ≤ us2) (hC : ∀ i, 0 ≤ i → i < us → C2 i = C i) (hk : 0 ≤ k9 ∧ k9 ≤ 2) (hm : 0 ≤ m9 ∧ m9 ≤ 20) (h0 : c9 = none → us2 = us) (h1 : ∀ t, c9 = some t → us2 = us + ((scds t).length : Int) ∧ ∀ (j : Nat) (v : Int), (scds t)[j]? = some v → C2 (us + (j : Int)) = v) : cdl (ls ++ [(k9, m9, c9)]) us2 (dln D lc k9 m9 us us2) C2 := by
  have e3 : ∀ i : Int, dln D lc k9 m9 us us2 (i * 4 + 3) = if i = lc then us2 else D (i * 4 + 3) := fun i => by
    unfold dln
    by_cases e : i = lc
    · rw [if_pos (by omega), if_pos e]
    · rw [if_neg (by omega), if_neg (by omega), if_neg (by omega), if_neg (by omega), if_neg e]
  have e2 : ∀ i : Int, dln D lc k9 m9 us us2 (i * 4 + 2) = if i = lc then us else D (i * 4 + 2) := fun i => by
    unfold dln
    by_cases e : i = lc
    · rw [if_neg (by omega), if_pos (by omega), if_pos e]
    · rw [if_neg (by omega), if_neg (by omega), if_neg (by omega), if_neg (by omega), if_neg e]
  have e1 : ∀ i : Int, dln D lc k9 m9 us us2 (i * 4 + 1) = if i = lc then m9 else D (i * 4 + 1) := fun i => by
    unfold dln
    by_cases e : i = lc
    · rw [if_neg (by omega), if_neg (by omega), if_pos (by omega), if_pos e]
    · rw [if_neg (by omega), if_neg (by omega), if_neg (by omega), if_neg (by omega), if_neg e]
  have e0 : ∀ i : Int, dln D lc k9 m9 us us2 (i * 4 + 0) = if i = lc then k9 else D (i * 4 + 0) := fun i => by
    unfold dln
    by_cases e : i = lc
    · rw [if_neg (by omega), if_neg (by omega), if_neg (by omega), if_pos (by omega), if_pos e]
    · rw [if_neg (by omega), if_neg (by omega), if_neg (by omega), if_neg (by omega), if_neg e]
  have old : ∀ k : Nat, k < ls.length → ¬ (k : Int) = lc := fun k hk => by omega
  refine ⟨fun k x hx => ?_, fun i i0 i1 => ?_, fun k hk9 => ?_⟩
  rotate_left
  · by_cases hi : i < us
    · obtain ⟨k, x, t, j, a1, a2, a3⟩ := h.2.1 i i0 hi
      exact ⟨k, x, t, j, by rw [List.getElem?_append_left (List.getElem?_eq_some_iff.mp a1).1]; exact a1, a2, by rw [hC i i0 hi]; exact a3⟩
    · by_cases hn : c9 = none
      · have := h0 hn
        omega
      · obtain ⟨t, ht⟩ := Option.ne_none_iff_exists'.mp hn
        obtain ⟨b1, b2⟩ := h1 t ht
        have hj : (i - us).toNat < (scds t).length := by omega
        have e : (scds t)[(i - us).toNat]? = some (scds t)[(i - us).toNat] := List.getElem?_eq_getElem hj
        have e2 := b2 _ _ e
        rw [show us + (((i - us).toNat : Nat) : Int) = i by omega] at e2
        refine ⟨ls.length, (k9, m9, c9), t, (i - us).toNat, by rw [List.getElem?_append_right (Nat.le_refl _), Nat.sub_self]; rfl, ht, ?_⟩
        rw [e2]
        exact e
  rotate_left
  · rw [e0, e1, e2, e3]
    by_cases hk9 : k < ls.length
    · rw [if_neg (old k hk9), if_neg (old k hk9), if_neg (old k hk9), if_neg (old k hk9)]
      rw [List.getElem?_append_left hk9] at hx
      obtain ⟨b1, b2, b3, b4⟩ := h.1 k x hx
      obtain ⟨⟨d1, d2, d3⟩, -⟩ := h.2.2 k hk9
      refine ⟨b1, b2, b3, fun t ht => ?_⟩
      obtain ⟨c1, c2⟩ := b4 t ht
      refine ⟨c1, fun j v hj => ?_⟩
      have hj9 := (List.getElem?_eq_some_iff.mp hj).1
      rw [hC _ (by omega) (by omega)]
      exact c2 j v hj
    · rw [List.getElem?_append_right (by omega)] at hx
      have hz : k - ls.length = 0 := by
        cases hk : k - ls.length with
        | zero => rfl
        | succ q => rw [hk] at hx; simp at hx
      rw [hz] at hx
      have ex : (k9, m9, c9) = x := by simpa using hx
      subst ex
      have ek : (k : Int) = lc := by omega
      rw [if_pos ek, if_pos ek, if_pos ek, if_pos ek]
      exact ⟨rfl, fun _ => rfl, fun hn => (h0 hn).symm, fun t ht => h1 t ht⟩
  · rw [e0, e1, e2, e3]
    by_cases hk2 : k < ls.length
    · rw [if_neg (old k hk2), if_neg (old k hk2), if_neg (old k hk2), if_neg (old k hk2)]
      obtain ⟨⟨d1, d2, d3⟩, d4⟩ := h.2.2 k hk2
      exact ⟨⟨d1, d2, by omega⟩, d4⟩
    · rw [List.length_append] at hk9
      have hk9 : k < ls.length + 1 := hk9
      have ek : (k : Int) = lc := by omega
      rw [if_pos ek, if_pos ek, if_pos ek, if_pos ek]
      exact ⟨⟨hu.1, hu.2, Int.le_refl _⟩, hk, hm⟩
theorem ctl_C {Lc E : List Int} {us us2 lc lc2 : Int} {D D2 C C2 : Int → Int} (h : ctl Lc us lc D C) (k : ctl (Lc ++ E) us2 lc2 D2 C2) : ∀ i, 0 ≤ i → i < us → C2 i = C i := by
  intro i i0 i1
  obtain ⟨u, rfl⟩ : ∃ u : Nat, i = (u : Int) := ⟨i.toNat, by omega⟩
  have hl : u < Lc.length := by have := h.1; omega
  have e : Lc[u]? = some Lc[u] := List.getElem?_eq_getElem hl
  rw [h.2.2 u _ e, k.2.2 u Lc[u] (by rw [List.getElem?_append_left hl]; exact e)]
theorem ctl_E {Lc E : List Int} {us us2 lc lc2 : Int} {D D2 C C2 : Int → Int} (h : ctl Lc us lc D C) (k : ctl (Lc ++ E) us2 lc2 D2 C2) : us2 = us + (E.length : Int) ∧ ∀ (j : Nat) (v : Int), E[j]? = some v → C2 (us + (j : Int)) = v := by
  refine ⟨klen k h, fun j v hj => ?_⟩
  have := k.2.2 (Lc.length + j) v (by rw [List.getElem?_append_right (by omega), show Lc.length + j - Lc.length = j by omega]; exact hj)
  rw [← this]
  congr 1
  have := h.1
  omega
/-- readLine -/
noncomputable def cL2 (X : Int → Int) (LX n : Nat) (K : gm_K) (R : gm_R) (M : gm_M) (e : Int) : Prop := ∀ (d bc bs : Nat) (b us lc : Int) (D C : Int → Int) (Lc : List Int) (ls : List lln) (Q : gm_Q), 23 ≤ d → 0 ≤ b ∧ b ≤ e → us ≤ b → lc < 12 → lc = (ls.length : Int) → ctl Lc us lc D C → cdl ls us D C → (∀ us2 D2 C2 Lc2, ctl Lc2 us2 (lc + 1) D2 C2 → cdl (ls ++ [s_line (M 2) e b]) us2 D2 C2 → us2 ≤ (g_line (M 2) e b).2 → (g_line (M 2) e b).1 = true → Q (.inl (some (gm_vi 1))) n K R (ct M e (g_line (M 2) e b).2 (-1) us2 (lc + 1) D2 C2)) → (∀ us2 D2 C2, ctk us2 lc D2 C2 → ¬ (g_line (M 2) e b).1 = true → Q (.inl (some (gm_vi 0))) n K R (ct M e (g_line (M 2) e b).2 (g_line (M 2) e b).2 us2 lc D2 C2)) → gm_Wp X LX d bc bs 79 0 (gm_ent 79 [gm_vr 215]) [] n K R (ct M e b (-1) us lc D C) Q
section KX
variable {X : Int → Int} {LX d bc bs n : Nat} {K : gm_K} {R : gm_R} {M : gm_M} {Q : gm_Q} {e b w us lc x : Int} {D C : Int → Int} {Lc : List Int}
theorem kx_c80 (hd : 6 ≤ d) (hE : tx_E n K R M e) (hb : 0 ≤ b ∧ b ≤ e) (h1 : tx_is (M 2) e b wo_fast ∨ tx_is (M 2) e b wo_slow → ∀ k, 0 ≤ k → k ≤ 1 → (tx_is (M 2) e b wo_fast ∧ k = 0 ∨ tx_is (M 2) e b wo_slow ∧ k = 1) → Q (.inl (some (gm_vi k))) n K R (ct M e b w us lc D C)) (h2 : tx_is (M 2) e b wo_open → Q (.inl (some (gm_vi 2))) n K R (ct M e b w us lc D C)) (h0 : ¬ (tx_is (M 2) e b wo_fast ∨ tx_is (M 2) e b wo_slow) → ¬ tx_is (M 2) e b wo_open → Q (.inl (some (gm_vi (-1)))) n K R (ct M e b w us lc D C)) : gm_Wp X LX d bc bs 80 0 (gm_ent 80 [gm_vr 215]) [] n K R (ct M e b w us lc D C) Q := by
  obtain ⟨-, he0, he4⟩ := tEe hE
  refine gm_sz (gm_p_load (pc := 0) (i := .aload_n 0) (sr := 2) (j := 0) (by decide +kernel) rfl rfl rfl) ?_
  refine gm_sz (fw_gr (pc := 1) (ix := 47) (ci := 9) (j := 0) (r := 216) (by decide +kernel) (tE215c hE) (by decide +kernel) (by decide +kernel) (tEr hE).2.1) ?_
  refine gm_sz (gm_p_ldcs (pc := 4) (i := .ldc 82) (ix := 82) (id := 0) (by decide +kernel) (Or.inl rfl) (by decide +kernel)) ?_
  refine gm_c_virt (k := 216) (ci := 8) (mj := 81) (ix := 84) (pc := 6) (as := [gm_vo 0]) (st := []) (d' := d - 1) (bc' := 0) (bs' := 0) (by decide +kernel) (by decide +kernel) (by decide +kernel) (by decide +kernel) (tE216c hE).1 (tE216c hE).2 (by decide) (by decide +kernel) (show 1 = gm_na 81 by decide +kernel) (fw_c1 fw_so) (show 2 ≤ gm_ml 81 by decide +kernel) (Nat.le_of_ble_eq_true rfl) (by omega) (Nat.zero_le _) (Nat.zero_le _) ?_
  refine tx_c81 (by omega) hE (by decide) (show tx_o 0 = wo_fast by decide +kernel) hb (fun j1 => ?_) (fun j1 => ?_)
  · show gm_Wp X LX d _ _ 80 9 _ [gm_vi 1] n K R _ Q
    have j1 : tx_is (M 2) e b wo_fast := j1
    refine fw_iffd (cc := .eq) (pc := 9) (off := 5) (by decide +kernel) (by decide) ⟨by decide, by decide⟩ (by decide) ?_
    refine gm_sz (gm_p_const (pc := 12) (i := .iconst 0) (v := gm_vi 0) (by decide +kernel) (by decide +kernel)) ?_
    exact gm_r_int (pc := 13) (by decide +kernel) (Or.inl (by decide +kernel)) (h1 (Or.inl j1) 0 (by decide) (by decide) (Or.inl ⟨j1, rfl⟩))
  · show gm_Wp X LX d _ _ 80 9 _ [gm_vi 0] n K R _ Q
    have j1 : ¬ tx_is (M 2) e b wo_fast := j1
    refine fw_iftd (cc := .eq) (pc := 9) (off := 5) (by decide +kernel) (by decide) ⟨by decide, by decide⟩ (by decide) ?_
    refine gm_sz (gm_p_load (pc := 14) (i := .aload_n 0) (sr := 2) (j := 0) (by decide +kernel) rfl rfl rfl) ?_
    refine gm_sz (fw_gr (pc := 15) (ix := 47) (ci := 9) (j := 0) (r := 216) (by decide +kernel) (tE215c hE) (by decide +kernel) (by decide +kernel) (tEr hE).2.1) ?_
    refine gm_sz (gm_p_ldcs (pc := 18) (i := .ldc 87) (ix := 87) (id := 1) (by decide +kernel) (Or.inl rfl) (by decide +kernel)) ?_
    refine gm_c_virt (k := 216) (ci := 8) (mj := 81) (ix := 84) (pc := 20) (as := [gm_vo 1]) (st := []) (d' := d - 1) (bc' := 0) (bs' := 0) (by decide +kernel) (by decide +kernel) (by decide +kernel) (by decide +kernel) (tE216c hE).1 (tE216c hE).2 (by decide) (by decide +kernel) (show 1 = gm_na 81 by decide +kernel) (fw_c1 fw_so) (show 2 ≤ gm_ml 81 by decide +kernel) (Nat.le_of_ble_eq_true rfl) (by omega) (Nat.zero_le _) (Nat.zero_le _) ?_
    refine tx_c81 (by omega) hE (by decide) (show tx_o 1 = wo_slow by decide +kernel) hb (fun j2 => ?_) (fun j2 => ?_)
    · show gm_Wp X LX d _ _ 80 23 _ [gm_vi 1] n K R _ Q
      have j2 : tx_is (M 2) e b wo_slow := j2
      refine fw_iffd (cc := .eq) (pc := 23) (off := 5) (by decide +kernel) (by decide) ⟨by decide, by decide⟩ (by decide) ?_
      refine gm_sz (gm_p_const (pc := 26) (i := .iconst 1) (v := gm_vi 1) (by decide +kernel) (by decide +kernel)) ?_
      exact gm_r_int (pc := 27) (by decide +kernel) (Or.inl (by decide +kernel)) (h1 (Or.inr j2) 1 (by decide) (by decide) (Or.inr ⟨j2, rfl⟩))
    · show gm_Wp X LX d _ _ 80 23 _ [gm_vi 0] n K R _ Q
      have j2 : ¬ tx_is (M 2) e b wo_slow := j2
      refine fw_iftd (cc := .eq) (pc := 23) (off := 5) (by decide +kernel) (by decide) ⟨by decide, by decide⟩ (by decide) ?_
      refine gm_sz (gm_p_load (pc := 28) (i := .aload_n 0) (sr := 2) (j := 0) (by decide +kernel) rfl rfl rfl) ?_
      refine gm_sz (fw_gr (pc := 29) (ix := 47) (ci := 9) (j := 0) (r := 216) (by decide +kernel) (tE215c hE) (by decide +kernel) (by decide +kernel) (tEr hE).2.1) ?_
      refine gm_sz (gm_p_ldcs (pc := 32) (i := .ldc 89) (ix := 89) (id := 2) (by decide +kernel) (Or.inl rfl) (by decide +kernel)) ?_
      refine gm_c_virt (k := 216) (ci := 8) (mj := 81) (ix := 84) (pc := 34) (as := [gm_vo 2]) (st := []) (d' := d - 1) (bc' := 0) (bs' := 0) (by decide +kernel) (by decide +kernel) (by decide +kernel) (by decide +kernel) (tE216c hE).1 (tE216c hE).2 (by decide) (by decide +kernel) (show 1 = gm_na 81 by decide +kernel) (fw_c1 fw_so) (show 2 ≤ gm_ml 81 by decide +kernel) (Nat.le_of_ble_eq_true rfl) (by omega) (Nat.zero_le _) (Nat.zero_le _) ?_
      refine tx_c81 (by omega) hE (by decide) (show tx_o 2 = wo_open by decide +kernel) hb (fun j3 => ?_) (fun j3 => ?_)
      · show gm_Wp X LX d _ _ 80 37 _ [gm_vi 1] n K R _ Q
        have j3 : tx_is (M 2) e b wo_open := j3
        refine fw_iffd (cc := .eq) (pc := 37) (off := 7) (by decide +kernel) (by decide) ⟨by decide, by decide⟩ (by decide) ?_
        refine gm_sz (gm_p_const (pc := 40) (i := .iconst 2) (v := gm_vi 2) (by decide +kernel) (by decide +kernel)) ?_
        refine gm_sz (gm_p_goto (pc := 41) (off := 4) (by decide +kernel) (by decide)) ?_
        exact gm_r_int (pc := 45) (by decide +kernel) (Or.inl (by decide +kernel)) (h2 j3)
      · show gm_Wp X LX d _ _ 80 37 _ [gm_vi 0] n K R _ Q
        have j3 : ¬ tx_is (M 2) e b wo_open := j3
        refine fw_iftd (cc := .eq) (pc := 37) (off := 7) (by decide +kernel) (by decide) ⟨by decide, by decide⟩ (by decide) ?_
        refine gm_sz (gm_p_const (pc := 44) (i := .iconst (-1)) (v := gm_vi (-1)) (by decide +kernel) (by decide +kernel)) ?_
        exact gm_r_int (pc := 45) (by decide +kernel) (Or.inl (by decide +kernel)) (h0 (fun hh => hh.elim j1 j2) j3)

theorem kx_c79 (hE : tx_E n K R M e) : cL2 X LX n K R M e := by
  obtain ⟨-, he0, he4⟩ := tEe hE
  intro d bc bs b us lc D C Lc ls Q hd hb hu hlc hls hok hdl h1 h0
  have hl0 := hok.2.1.1.2.1
  have hu0 := hok.2.1.1.1
  have nb9 := tx_nb (f := M 2) hb.2
  refine gm_sz (gm_p_load (pc := 0) (i := .aload_n 0) (sr := 2) (j := 0) (by decide +kernel) rfl rfl rfl) ?_
  refine gm_c_virt (k := 215) (ci := 9) (mj := 80) (ix := 43) (pc := 1) (as := []) (st := []) (d' := d - 1) (bc' := 0) (bs' := 0) (by decide +kernel) (by decide +kernel) (by decide +kernel) (by decide +kernel) (tE215c hE).1 (tE215c hE).2 (by decide) (by decide +kernel) (show 0 = gm_na 80 by decide +kernel) fw_c0 (show 1 ≤ gm_ml 80 by decide +kernel) (Nat.le_of_ble_eq_true rfl) (by omega) (Nat.zero_le _) (Nat.zero_le _) ?_
  refine kx_c80 (by omega) hE hb (fun j1 c2 j3 j4 jk => ?_) (fun j1 => ?_) (fun j1 j5 => ?_)
  · show gm_Wp X LX d _ _ 79 4 _ [gm_vi c2] n K R _ Q
    have j1 : tx_is (M 2) e b wo_fast ∨ tx_is (M 2) e b wo_slow := j1
    have j3 : 0 ≤ c2 := j3
    have j4 : c2 ≤ 1 := j4
    have kb9 := nb9.2.2 (by rcases j1 with h | h <;> exact g_isb h)
    have nf9 : s_line (M 2) e b = (c2, tx_v (M 2) e 3 (tx_n (M 2) e b), s_if (M 2) e (tx_n (M 2) e (tx_n (M 2) e b))) := by
      rcases jk with ⟨h, hk⟩ | ⟨h, hk⟩
      · rw [hk]; exact s_n2 h
      · rw [hk]; exact s_n3 h
    have nb8 := tx_nb (f := M 2) (e := e) (b := tx_n (M 2) e b) nb9.2.1
    have nb7 := tx_nb (f := M 2) (e := e) (b := tx_n (M 2) e (tx_n (M 2) e b)) nb8.2.1
    refine gm_sz (gm_p_stor (pc := 4) (i := .istore_n 1) (sr := 0) (j := 1) (by decide +kernel) rfl (show 2 ≤ _ from Nat.le_of_ble_eq_true rfl) rfl) ?_
    refine gm_sz (gm_p_load (pc := 5) (i := .iload_n 1) (sr := 0) (j := 1) (by decide +kernel) rfl rfl rfl) ?_
    refine gm_sz (gm_p_const (pc := 6) (i := .iconst (-1)) (v := gm_vi (-1)) (by decide +kernel) (by decide +kernel)) ?_
    refine fw_ict (cc := .ne) (pc := 7) (off := 11) (by decide +kernel) (by decide) ⟨by omega, by omega⟩ ⟨by decide, by decide⟩ (show ¬ c2 = (-1) by omega) ?_
    refine gm_sz (gm_p_load (pc := 18) (i := .aload_n 0) (sr := 2) (j := 0) (by decide +kernel) rfl rfl rfl) ?_
    refine gm_sz (fw_gr (pc := 19) (ix := 47) (ci := 9) (j := 0) (r := 216) (by decide +kernel) (tE215c hE) (by decide +kernel) (by decide +kernel) (tEr hE).2.1) ?_
    refine gm_c_virt (k := 216) (ci := 8) (mj := 76) (ix := 57) (pc := 22) (as := []) (st := []) (d' := d - 1) (bc' := 0) (bs' := 0) (by decide +kernel) (by decide +kernel) (by decide +kernel) (by decide +kernel) (tE216c hE).1 (tE216c hE).2 (by decide) (by decide +kernel) (show 0 = gm_na 76 by decide +kernel) fw_c0 (show 1 ≤ gm_ml 76 by decide +kernel) (Nat.le_of_ble_eq_true rfl) (by omega) (Nat.zero_le _) (Nat.zero_le _) ?_
    refine tx_c76 (by omega) hE hb ?_
    show gm_Wp X LX d _ _ 79 25 _ [] n K R _ Q
    have g6 : 0 ≤ tx_n (M 2) e b ∧ tx_n (M 2) e b ≤ e := by have := tx_nb (f := M 2) (b := b) hb.2; omega
    refine gm_sz (gm_p_load (pc := 25) (i := .iload_n 1) (sr := 0) (j := 1) (by decide +kernel) rfl rfl rfl) ?_
    refine gm_sz (gm_p_const (pc := 26) (i := .iconst 2) (v := gm_vi 2) (by decide +kernel) (by decide +kernel)) ?_
    refine fw_ict (cc := .ne) (pc := 27) (off := 7) (by decide +kernel) (by decide) ⟨by omega, by omega⟩ ⟨by decide, by decide⟩ (show ¬ c2 = 2 by omega) ?_
    refine gm_sz (gm_p_load (pc := 34) (i := .aload_n 0) (sr := 2) (j := 0) (by decide +kernel) rfl rfl rfl) ?_
    refine gm_sz (fw_gr (pc := 35) (ix := 47) (ci := 9) (j := 0) (r := 216) (by decide +kernel) (tE215c hE) (by decide +kernel) (by decide +kernel) (tEr hE).2.1) ?_
    refine gm_sz (gm_p_const (pc := 38) (i := .iconst 0) (v := gm_vi 0) (by decide +kernel) (by decide +kernel)) ?_
    refine gm_sz (gm_p_const (pc := 39) (i := .bipush 20) (v := gm_vi 20) (by decide +kernel) (by decide +kernel)) ?_
    refine gm_c_virt (k := 216) (ci := 8) (mj := 94) (ix := 61) (pc := 41) (as := [gm_vi 0, gm_vi 20]) (st := []) (d' := d - 1) (bc' := 0) (bs' := 0) (by decide +kernel) (by decide +kernel) (by decide +kernel) (by decide +kernel) (tE216c hE).1 (tE216c hE).2 (by decide) (by decide +kernel) (show 2 = gm_na 94 by decide +kernel) (fw_c2 fw_si fw_si) (show 3 ≤ gm_ml 94 by decide +kernel) (Nat.le_of_ble_eq_true rfl) (by omega) (Nat.zero_le _) (Nat.zero_le _) ?_
    refine tx_c94 (by omega) hE ⟨by decide, by decide⟩ ⟨by decide, by decide⟩ g6 (fun j9 j10 j11 => ?_) (fun j7 => ?_)
    · show gm_Wp X LX d _ _ 79 44 _ [gm_vi (tx_v (M 2) e 3 (tx_n (M 2) e b))] n K R _ Q
      have j7 : tx_k (M 2) e (tx_n (M 2) e b) = 258 ∧ 0 ≤ tx_v (M 2) e 3 (tx_n (M 2) e b) ∧ tx_v (M 2) e 3 (tx_n (M 2) e b) ≤ 20 := ⟨j9, j10, j11⟩
      have g8 : 0 ≤ tx_n (M 2) e (tx_n (M 2) e b) ∧ tx_n (M 2) e (tx_n (M 2) e b) ≤ e := by have := tx_nb (f := M 2) (b := tx_n (M 2) e b) g6.2; omega
      have j7v := tx_vb (f := M 2) (e := e) (m := 3) (b := tx_n (M 2) e b) (by decide)
      refine gm_sz (gm_p_stor (pc := 44) (i := .istore_n 2) (sr := 0) (j := 2) (by decide +kernel) rfl (show 3 ≤ _ from Nat.le_of_ble_eq_true rfl) rfl) ?_
      refine gm_sz (gm_p_load (pc := 45) (i := .iload_n 2) (sr := 0) (j := 2) (by decide +kernel) rfl rfl rfl) ?_
      refine gm_sz (gm_p_const (pc := 46) (i := .iconst (-1)) (v := gm_vi (-1)) (by decide +kernel) (by decide +kernel)) ?_
      refine fw_ict (cc := .ne) (pc := 47) (off := 5) (by decide +kernel) (by decide) ⟨by omega, by omega⟩ ⟨by decide, by decide⟩ (show ¬ (tx_v (M 2) e 3 (tx_n (M 2) e b)) = (-1) by omega) ?_
      refine gm_sz (gm_p_load (pc := 52) (i := .aload_n 0) (sr := 2) (j := 0) (by decide +kernel) rfl rfl rfl) ?_
      refine gm_sz (fw_gi (pc := 53) (ix := 24) (ci := 9) (j := 4) (x := us) (by decide +kernel) (tE215c hE) (by decide +kernel) (by decide +kernel) rfl) ?_
      refine gm_sz (gm_p_stor (pc := 56) (i := .istore_n 3) (sr := 0) (j := 3) (by decide +kernel) rfl (show 4 ≤ _ from Nat.le_of_ble_eq_true rfl) rfl) ?_
      refine gm_sz (gm_p_load (pc := 57) (i := .aload_n 0) (sr := 2) (j := 0) (by decide +kernel) rfl rfl rfl) ?_
      refine gm_sz (fw_gr (pc := 58) (ix := 47) (ci := 9) (j := 0) (r := 216) (by decide +kernel) (tE215c hE) (by decide +kernel) (by decide +kernel) (tEr hE).2.1) ?_
      refine gm_sz (gm_p_ldcs (pc := 61) (i := .ldc 65) (ix := 65) (id := 3) (by decide +kernel) (Or.inl rfl) (by decide +kernel)) ?_
      refine gm_c_virt (k := 216) (ci := 8) (mj := 95) (ix := 67) (pc := 63) (as := [gm_vo 3]) (st := []) (d' := d - 1) (bc' := 0) (bs' := 0) (by decide +kernel) (by decide +kernel) (by decide +kernel) (by decide +kernel) (tE216c hE).1 (tE216c hE).2 (by decide) (by decide +kernel) (show 1 = gm_na 95 by decide +kernel) (fw_c1 fw_so) (show 2 ≤ gm_ml 95 by decide +kernel) (Nat.le_of_ble_eq_true rfl) (by omega) (Nat.zero_le _) (Nat.zero_le _) ?_
      refine tx_c95 (by omega) hE (by decide) (show tx_o 3 = wo_if by decide +kernel) g8 (fun j12 => ?_) (fun j12 => ?_)
      · show gm_Wp X LX d _ _ 79 66 _ [gm_vi 1] n K R _ Q
        have j12 : tx_is (M 2) e (tx_n (M 2) e (tx_n (M 2) e b)) wo_if := j12
        have g13 : 0 ≤ tx_n (M 2) e (tx_n (M 2) e (tx_n (M 2) e b)) ∧ tx_n (M 2) e (tx_n (M 2) e (tx_n (M 2) e b)) ≤ e := by have := tx_nb (f := M 2) (b := tx_n (M 2) e (tx_n (M 2) e b)) g8.2; omega
        refine fw_iffd (cc := .eq) (pc := 66) (off := 13) (by decide +kernel) (by decide) ⟨by decide, by decide⟩ (by decide) ?_
        refine gm_sz (gm_p_load (pc := 69) (i := .aload_n 0) (sr := 2) (j := 0) (by decide +kernel) rfl rfl rfl) ?_
        refine gm_sz (gm_p_const (pc := 70) (i := .iconst 0) (v := gm_vi 0) (by decide +kernel) (by decide +kernel)) ?_
        refine gm_c_virt (k := 215) (ci := 9) (mj := 96) (ix := 71) (pc := 71) (as := [gm_vi 0]) (st := []) (d' := d - 1) (bc' := 0) (bs' := 0) (by decide +kernel) (by decide +kernel) (by decide +kernel) (by decide +kernel) (tE215c hE).1 (tE215c hE).2 (by decide) (by decide +kernel) (show 1 = gm_na 96 by decide +kernel) (fw_c1 fw_si) (show 2 ≤ gm_ml 96 by decide +kernel) (Nat.le_of_ble_eq_true rfl) (by omega) (Nat.zero_le _) (Nat.zero_le _) ?_
        refine kx_cd hE _ _ _ _ _ _ _ _ (by omega) g13 (by have := tx_nw g8.2 j12; have : tx_n (M 2) e (tx_n (M 2) e b) + 2 ≤ tx_n (M 2) e (tx_n (M 2) e (tx_n (M 2) e b)) := this; omega) hok (fun u14 C15 k16 j17 => ?_) (fun u14 C15 k16 j17 => ?_)
        · show gm_Wp X LX d _ _ 79 74 _ [gm_vi 1] n K R _ Q
          have j17 : (g_cd (M 2) e 6 (tx_n (M 2) e (tx_n (M 2) e (tx_n (M 2) e b)))).1 = true := j17
          have g18 : 0 ≤ (g_cd (M 2) e 6 (tx_n (M 2) e (tx_n (M 2) e (tx_n (M 2) e b)))).2 ∧ (g_cd (M 2) e 6 (tx_n (M 2) e (tx_n (M 2) e (tx_n (M 2) e b)))).2 ≤ e := by have := g_cd_in (f := M 2) 6 (tx_n (M 2) e (tx_n (M 2) e (tx_n (M 2) e b))) g13.1 g13.2; have := g13.1; omega
          refine fw_iftd (cc := .ne) (pc := 74) (off := 5) (by decide +kernel) (by decide) ⟨by decide, by decide⟩ (by decide) ?_
          refine gm_sz (gm_p_load (pc := 79) (i := .aload_n 0) (sr := 2) (j := 0) (by decide +kernel) rfl rfl rfl) ?_
          refine gm_sz (fw_gr (pc := 80) (ix := 14) (ci := 9) (j := 2) (r := 217) (by decide +kernel) (tE215c hE) (by decide +kernel) (by decide +kernel) (tEr hE).2.2.1) ?_
          refine gm_c_virt (k := 217) (ci := 2) (mj := 102) (ix := 75) (pc := 83) (as := []) (st := []) (d' := d - 1) (bc' := 0) (bs' := 0) (by decide +kernel) (by decide +kernel) (by decide +kernel) (by decide +kernel) (tE217c hE).1 (tE217c hE).2 (by decide) (by decide +kernel) (show 0 = gm_na 102 by decide +kernel) fw_c0 (show 1 ≤ gm_ml 102 by decide +kernel) (Nat.le_of_ble_eq_true rfl) (by omega) (Nat.zero_le _) (Nat.zero_le _) ?_
          refine tx_c102 hE ⟨by omega, by omega⟩ ?_
          show gm_Wp X LX d _ _ 79 86 _ [gm_vi (lc + 1 - 1)] n K R _ Q
          refine gm_sz (gm_p_stor (pc := 86) (i := .istore 4) (sr := 0) (j := 4) (by decide +kernel) rfl (show 5 ≤ _ from Nat.le_of_ble_eq_true rfl) rfl) ?_
          refine gm_sz (gm_p_load (pc := 88) (i := .aload_n 0) (sr := 2) (j := 0) (by decide +kernel) rfl rfl rfl) ?_
          refine gm_sz (fw_gr (pc := 89) (ix := 14) (ci := 9) (j := 2) (r := 217) (by decide +kernel) (tE215c hE) (by decide +kernel) (by decide +kernel) (tEr hE).2.2.1) ?_
          refine gm_sz (gm_p_load (pc := 92) (i := .iload 4) (sr := 0) (j := 4) (by decide +kernel) rfl rfl rfl) ?_
          refine gm_sz (gm_p_const (pc := 94) (i := .iconst 0) (v := gm_vi 0) (by decide +kernel) (by decide +kernel)) ?_
          refine gm_sz (gm_p_load (pc := 95) (i := .iload_n 1) (sr := 0) (j := 1) (by decide +kernel) rfl rfl rfl) ?_
          refine gm_c_virt (k := 217) (ci := 2) (mj := 45) (ix := 78) (pc := 96) (as := [gm_vi (lc + 1 - 1), gm_vi 0, gm_vi c2]) (st := []) (d' := d - 1) (bc' := 0) (bs' := 0) (by decide +kernel) (by decide +kernel) (by decide +kernel) (by decide +kernel) (tE217c hE).1 (tE217c hE).2 (by decide) (by decide +kernel) (show 3 = gm_na 45 by decide +kernel) (fw_c3 fw_si fw_si fw_si) (show 4 ≤ gm_ml 45 by decide +kernel) (Nat.le_of_ble_eq_true rfl) (by omega) (Nat.zero_le _) (Nat.zero_le _) ?_
          refine tx_c45 hE ⟨by omega, by omega⟩ ⟨by omega, by omega⟩ ⟨by omega, by omega⟩ ?_
          show gm_Wp X LX d _ _ 79 99 _ [] n K R _ Q
          refine gm_sz (gm_p_load (pc := 99) (i := .aload_n 0) (sr := 2) (j := 0) (by decide +kernel) rfl rfl rfl) ?_
          refine gm_sz (fw_gr (pc := 100) (ix := 14) (ci := 9) (j := 2) (r := 217) (by decide +kernel) (tE215c hE) (by decide +kernel) (by decide +kernel) (tEr hE).2.2.1) ?_
          refine gm_sz (gm_p_load (pc := 103) (i := .iload 4) (sr := 0) (j := 4) (by decide +kernel) rfl rfl rfl) ?_
          refine gm_sz (gm_p_const (pc := 105) (i := .iconst 1) (v := gm_vi 1) (by decide +kernel) (by decide +kernel)) ?_
          refine gm_sz (gm_p_load (pc := 106) (i := .iload_n 2) (sr := 0) (j := 2) (by decide +kernel) rfl rfl rfl) ?_
          refine gm_c_virt (k := 217) (ci := 2) (mj := 45) (ix := 78) (pc := 107) (as := [gm_vi (lc + 1 - 1), gm_vi 1, gm_vi (tx_v (M 2) e 3 (tx_n (M 2) e b))]) (st := []) (d' := d - 1) (bc' := 0) (bs' := 0) (by decide +kernel) (by decide +kernel) (by decide +kernel) (by decide +kernel) (tE217c hE).1 (tE217c hE).2 (by decide) (by decide +kernel) (show 3 = gm_na 45 by decide +kernel) (fw_c3 fw_si fw_si fw_si) (show 4 ≤ gm_ml 45 by decide +kernel) (Nat.le_of_ble_eq_true rfl) (by omega) (Nat.zero_le _) (Nat.zero_le _) ?_
          refine tx_c45 hE ⟨by omega, by omega⟩ ⟨by omega, by omega⟩ ⟨by omega, by omega⟩ ?_
          show gm_Wp X LX d _ _ 79 110 _ [] n K R _ Q
          refine gm_sz (gm_p_load (pc := 110) (i := .aload_n 0) (sr := 2) (j := 0) (by decide +kernel) rfl rfl rfl) ?_
          refine gm_sz (fw_gr (pc := 111) (ix := 14) (ci := 9) (j := 2) (r := 217) (by decide +kernel) (tE215c hE) (by decide +kernel) (by decide +kernel) (tEr hE).2.2.1) ?_
          refine gm_sz (gm_p_load (pc := 114) (i := .iload 4) (sr := 0) (j := 4) (by decide +kernel) rfl rfl rfl) ?_
          refine gm_sz (gm_p_const (pc := 116) (i := .iconst 2) (v := gm_vi 2) (by decide +kernel) (by decide +kernel)) ?_
          refine gm_sz (gm_p_load (pc := 117) (i := .iload_n 3) (sr := 0) (j := 3) (by decide +kernel) rfl rfl rfl) ?_
          refine gm_c_virt (k := 217) (ci := 2) (mj := 45) (ix := 78) (pc := 118) (as := [gm_vi (lc + 1 - 1), gm_vi 2, gm_vi us]) (st := []) (d' := d - 1) (bc' := 0) (bs' := 0) (by decide +kernel) (by decide +kernel) (by decide +kernel) (by decide +kernel) (tE217c hE).1 (tE217c hE).2 (by decide) (by decide +kernel) (show 3 = gm_na 45 by decide +kernel) (fw_c3 fw_si fw_si fw_si) (show 4 ≤ gm_ml 45 by decide +kernel) (Nat.le_of_ble_eq_true rfl) (by omega) (Nat.zero_le _) (Nat.zero_le _) ?_
          refine tx_c45 hE ⟨by omega, by omega⟩ ⟨by omega, by omega⟩ ⟨by omega, by omega⟩ ?_
          show gm_Wp X LX d _ _ 79 121 _ [] n K R _ Q
          refine gm_sz (gm_p_load (pc := 121) (i := .aload_n 0) (sr := 2) (j := 0) (by decide +kernel) rfl rfl rfl) ?_
          refine gm_sz (fw_gr (pc := 122) (ix := 14) (ci := 9) (j := 2) (r := 217) (by decide +kernel) (tE215c hE) (by decide +kernel) (by decide +kernel) (tEr hE).2.2.1) ?_
          refine gm_sz (gm_p_load (pc := 125) (i := .iload 4) (sr := 0) (j := 4) (by decide +kernel) rfl rfl rfl) ?_
          refine gm_sz (gm_p_const (pc := 127) (i := .iconst 3) (v := gm_vi 3) (by decide +kernel) (by decide +kernel)) ?_
          refine gm_sz (gm_p_load (pc := 128) (i := .aload_n 0) (sr := 2) (j := 0) (by decide +kernel) rfl rfl rfl) ?_
          refine gm_sz (fw_gi (pc := 129) (ix := 24) (ci := 9) (j := 4) (x := u14) (by decide +kernel) (tE215c hE) (by decide +kernel) (by decide +kernel) rfl) ?_
          refine gm_c_virt (k := 217) (ci := 2) (mj := 45) (ix := 78) (pc := 132) (as := [gm_vi (lc + 1 - 1), gm_vi 3, gm_vi u14]) (st := []) (d' := d - 1) (bc' := 0) (bs' := 0) (by decide +kernel) (by decide +kernel) (by decide +kernel) (by decide +kernel) (tE217c hE).1 (tE217c hE).2 (by decide) (by decide +kernel) (show 3 = gm_na 45 by decide +kernel) (fw_c3 fw_si fw_si fw_si) (show 4 ≤ gm_ml 45 by decide +kernel) (Nat.le_of_ble_eq_true rfl) (by omega) (Nat.zero_le _) (Nat.zero_le _) ?_
          refine tx_c45 hE ⟨by omega, by omega⟩ ⟨by omega, by omega⟩ ⟨by omega, by omega⟩ ?_
          show gm_Wp X LX d _ _ 79 135 _ [] n K R _ Q
          refine gm_sz (gm_p_const (pc := 135) (i := .iconst 1) (v := gm_vi 1) (by decide +kernel) (by decide +kernel)) ?_
          have nfi := nf9
          rw [s_f1 j12] at nfi
          rw [nfi, g_n2 j1 j7, g_f1 j12] at h1
          have k9 := k16
          have ce := ctl_E hok k9
          refine gm_r_int (pc := 136) (by decide +kernel) (Or.inr ⟨(by decide +kernel), Or.inr rfl⟩) (h1 _ (dln D (lc + 1 - 1) c2 (tx_v (M 2) e 3 (tx_n (M 2) e b)) us _) _ _ ⟨k9.1, ⟨⟨k9.2.1.1.1, by omega⟩, fun j g1 g2 => ?_, k9.2.1.2.2⟩, k9.2.2⟩ ?_ ?_ j17)
          · have q0 := k9.2.1.2.1 j g1 g2
            have q1 := k9.2.1.1.1
            show 0 ≤ (if _ then _ else if _ then _ else if _ then _ else if _ then _ else D j) ∧ (if _ then _ else if _ then _ else if _ then _ else if _ then _ else D j) ≤ 400
            repeat' split
            all_goals omega
          · rw [show lc + 1 - 1 = lc by omega]
            exact cdl_add hdl hls ⟨hu0.1, by have := ce.1; omega⟩ (ctl_C hok k9) ⟨by omega, by omega⟩ ⟨by omega, by omega⟩ (fun hn => by cases hn) (fun t9 ht => by cases ht; exact ce)
          · have o9 := (s_cd_ok (f := M 2) 6 _ (by omega) (by omega) j17).1
            have ce1 : _ = us + ((scds (s_cd (M 2) e 6 (tx_n (M 2) e (tx_n (M 2) e (tx_n (M 2) e b))))).length : Int) := ce.1
            have nw := tx_nw (by omega) j12
            have nw : tx_n (M 2) e (tx_n (M 2) e b) + 2 ≤ tx_n (M 2) e (tx_n (M 2) e (tx_n (M 2) e b)) := nw
            omega
        · show gm_Wp X LX d _ _ 79 74 _ [gm_vi 0] n K R _ Q
          have j17 : ¬ (g_cd (M 2) e 6 (tx_n (M 2) e (tx_n (M 2) e (tx_n (M 2) e b)))).1 = true := j17
          have g18 : 0 ≤ (g_cd (M 2) e 6 (tx_n (M 2) e (tx_n (M 2) e (tx_n (M 2) e b)))).2 ∧ (g_cd (M 2) e 6 (tx_n (M 2) e (tx_n (M 2) e (tx_n (M 2) e b)))).2 ≤ e := by have := g_cd_in (f := M 2) 6 (tx_n (M 2) e (tx_n (M 2) e (tx_n (M 2) e b))) g13.1 g13.2; have := g13.1; omega
          refine fw_iffd (cc := .ne) (pc := 74) (off := 5) (by decide +kernel) (by decide) ⟨by decide, by decide⟩ (by decide) ?_
          refine gm_sz (gm_p_const (pc := 77) (i := .iconst 0) (v := gm_vi 0) (by decide +kernel) (by decide +kernel)) ?_
          rw [g_n2 j1 j7, g_f1 j12] at h0
          exact gm_r_int (pc := 78) (by decide +kernel) (Or.inr ⟨(by decide +kernel), Or.inl rfl⟩) (h0 _ _ _ k16 j17)
      · show gm_Wp X LX d _ _ 79 66 _ [gm_vi 0] n K R _ Q
        have j12 : ¬ tx_is (M 2) e (tx_n (M 2) e (tx_n (M 2) e b)) wo_if := j12
        refine fw_iftd (cc := .eq) (pc := 66) (off := 13) (by decide +kernel) (by decide) ⟨by decide, by decide⟩ (by decide) ?_
        refine gm_sz (gm_p_load (pc := 79) (i := .aload_n 0) (sr := 2) (j := 0) (by decide +kernel) rfl rfl rfl) ?_
        refine gm_sz (fw_gr (pc := 80) (ix := 14) (ci := 9) (j := 2) (r := 217) (by decide +kernel) (tE215c hE) (by decide +kernel) (by decide +kernel) (tEr hE).2.2.1) ?_
        refine gm_c_virt (k := 217) (ci := 2) (mj := 102) (ix := 75) (pc := 83) (as := []) (st := []) (d' := d - 1) (bc' := 0) (bs' := 0) (by decide +kernel) (by decide +kernel) (by decide +kernel) (by decide +kernel) (tE217c hE).1 (tE217c hE).2 (by decide) (by decide +kernel) (show 0 = gm_na 102 by decide +kernel) fw_c0 (show 1 ≤ gm_ml 102 by decide +kernel) (Nat.le_of_ble_eq_true rfl) (by omega) (Nat.zero_le _) (Nat.zero_le _) ?_
        refine tx_c102 hE ⟨by omega, by omega⟩ ?_
        show gm_Wp X LX d _ _ 79 86 _ [gm_vi (lc + 1 - 1)] n K R _ Q
        refine gm_sz (gm_p_stor (pc := 86) (i := .istore 4) (sr := 0) (j := 4) (by decide +kernel) rfl (show 5 ≤ _ from Nat.le_of_ble_eq_true rfl) rfl) ?_
        refine gm_sz (gm_p_load (pc := 88) (i := .aload_n 0) (sr := 2) (j := 0) (by decide +kernel) rfl rfl rfl) ?_
        refine gm_sz (fw_gr (pc := 89) (ix := 14) (ci := 9) (j := 2) (r := 217) (by decide +kernel) (tE215c hE) (by decide +kernel) (by decide +kernel) (tEr hE).2.2.1) ?_
        refine gm_sz (gm_p_load (pc := 92) (i := .iload 4) (sr := 0) (j := 4) (by decide +kernel) rfl rfl rfl) ?_
        refine gm_sz (gm_p_const (pc := 94) (i := .iconst 0) (v := gm_vi 0) (by decide +kernel) (by decide +kernel)) ?_
        refine gm_sz (gm_p_load (pc := 95) (i := .iload_n 1) (sr := 0) (j := 1) (by decide +kernel) rfl rfl rfl) ?_
        refine gm_c_virt (k := 217) (ci := 2) (mj := 45) (ix := 78) (pc := 96) (as := [gm_vi (lc + 1 - 1), gm_vi 0, gm_vi c2]) (st := []) (d' := d - 1) (bc' := 0) (bs' := 0) (by decide +kernel) (by decide +kernel) (by decide +kernel) (by decide +kernel) (tE217c hE).1 (tE217c hE).2 (by decide) (by decide +kernel) (show 3 = gm_na 45 by decide +kernel) (fw_c3 fw_si fw_si fw_si) (show 4 ≤ gm_ml 45 by decide +kernel) (Nat.le_of_ble_eq_true rfl) (by omega) (Nat.zero_le _) (Nat.zero_le _) ?_
        refine tx_c45 hE ⟨by omega, by omega⟩ ⟨by omega, by omega⟩ ⟨by omega, by omega⟩ ?_
        show gm_Wp X LX d _ _ 79 99 _ [] n K R _ Q
        refine gm_sz (gm_p_load (pc := 99) (i := .aload_n 0) (sr := 2) (j := 0) (by decide +kernel) rfl rfl rfl) ?_
        refine gm_sz (fw_gr (pc := 100) (ix := 14) (ci := 9) (j := 2) (r := 217) (by decide +kernel) (tE215c hE) (by decide +kernel) (by decide +kernel) (tEr hE).2.2.1) ?_
        refine gm_sz (gm_p_load (pc := 103) (i := .iload 4) (sr := 0) (j := 4) (by decide +kernel) rfl rfl rfl) ?_
        refine gm_sz (gm_p_const (pc := 105) (i := .iconst 1) (v := gm_vi 1) (by decide +kernel) (by decide +kernel)) ?_
        refine gm_sz (gm_p_load (pc := 106) (i := .iload_n 2) (sr := 0) (j := 2) (by decide +kernel) rfl rfl rfl) ?_
        refine gm_c_virt (k := 217) (ci := 2) (mj := 45) (ix := 78) (pc := 107) (as := [gm_vi (lc + 1 - 1), gm_vi 1, gm_vi (tx_v (M 2) e 3 (tx_n (M 2) e b))]) (st := []) (d' := d - 1) (bc' := 0) (bs' := 0) (by decide +kernel) (by decide +kernel) (by decide +kernel) (by decide +kernel) (tE217c hE).1 (tE217c hE).2 (by decide) (by decide +kernel) (show 3 = gm_na 45 by decide +kernel) (fw_c3 fw_si fw_si fw_si) (show 4 ≤ gm_ml 45 by decide +kernel) (Nat.le_of_ble_eq_true rfl) (by omega) (Nat.zero_le _) (Nat.zero_le _) ?_
        refine tx_c45 hE ⟨by omega, by omega⟩ ⟨by omega, by omega⟩ ⟨by omega, by omega⟩ ?_
        show gm_Wp X LX d _ _ 79 110 _ [] n K R _ Q
        refine gm_sz (gm_p_load (pc := 110) (i := .aload_n 0) (sr := 2) (j := 0) (by decide +kernel) rfl rfl rfl) ?_
        refine gm_sz (fw_gr (pc := 111) (ix := 14) (ci := 9) (j := 2) (r := 217) (by decide +kernel) (tE215c hE) (by decide +kernel) (by decide +kernel) (tEr hE).2.2.1) ?_
        refine gm_sz (gm_p_load (pc := 114) (i := .iload 4) (sr := 0) (j := 4) (by decide +kernel) rfl rfl rfl) ?_
        refine gm_sz (gm_p_const (pc := 116) (i := .iconst 2) (v := gm_vi 2) (by decide +kernel) (by decide +kernel)) ?_
        refine gm_sz (gm_p_load (pc := 117) (i := .iload_n 3) (sr := 0) (j := 3) (by decide +kernel) rfl rfl rfl) ?_
        refine gm_c_virt (k := 217) (ci := 2) (mj := 45) (ix := 78) (pc := 118) (as := [gm_vi (lc + 1 - 1), gm_vi 2, gm_vi us]) (st := []) (d' := d - 1) (bc' := 0) (bs' := 0) (by decide +kernel) (by decide +kernel) (by decide +kernel) (by decide +kernel) (tE217c hE).1 (tE217c hE).2 (by decide) (by decide +kernel) (show 3 = gm_na 45 by decide +kernel) (fw_c3 fw_si fw_si fw_si) (show 4 ≤ gm_ml 45 by decide +kernel) (Nat.le_of_ble_eq_true rfl) (by omega) (Nat.zero_le _) (Nat.zero_le _) ?_
        refine tx_c45 hE ⟨by omega, by omega⟩ ⟨by omega, by omega⟩ ⟨by omega, by omega⟩ ?_
        show gm_Wp X LX d _ _ 79 121 _ [] n K R _ Q
        refine gm_sz (gm_p_load (pc := 121) (i := .aload_n 0) (sr := 2) (j := 0) (by decide +kernel) rfl rfl rfl) ?_
        refine gm_sz (fw_gr (pc := 122) (ix := 14) (ci := 9) (j := 2) (r := 217) (by decide +kernel) (tE215c hE) (by decide +kernel) (by decide +kernel) (tEr hE).2.2.1) ?_
        refine gm_sz (gm_p_load (pc := 125) (i := .iload 4) (sr := 0) (j := 4) (by decide +kernel) rfl rfl rfl) ?_
        refine gm_sz (gm_p_const (pc := 127) (i := .iconst 3) (v := gm_vi 3) (by decide +kernel) (by decide +kernel)) ?_
        refine gm_sz (gm_p_load (pc := 128) (i := .aload_n 0) (sr := 2) (j := 0) (by decide +kernel) rfl rfl rfl) ?_
        refine gm_sz (fw_gi (pc := 129) (ix := 24) (ci := 9) (j := 4) (x := us) (by decide +kernel) (tE215c hE) (by decide +kernel) (by decide +kernel) rfl) ?_
        refine gm_c_virt (k := 217) (ci := 2) (mj := 45) (ix := 78) (pc := 132) (as := [gm_vi (lc + 1 - 1), gm_vi 3, gm_vi us]) (st := []) (d' := d - 1) (bc' := 0) (bs' := 0) (by decide +kernel) (by decide +kernel) (by decide +kernel) (by decide +kernel) (tE217c hE).1 (tE217c hE).2 (by decide) (by decide +kernel) (show 3 = gm_na 45 by decide +kernel) (fw_c3 fw_si fw_si fw_si) (show 4 ≤ gm_ml 45 by decide +kernel) (Nat.le_of_ble_eq_true rfl) (by omega) (Nat.zero_le _) (Nat.zero_le _) ?_
        refine tx_c45 hE ⟨by omega, by omega⟩ ⟨by omega, by omega⟩ ⟨by omega, by omega⟩ ?_
        show gm_Wp X LX d _ _ 79 135 _ [] n K R _ Q
        refine gm_sz (gm_p_const (pc := 135) (i := .iconst 1) (v := gm_vi 1) (by decide +kernel) (by decide +kernel)) ?_
        have nfi := nf9
        rw [s_f0 j12] at nfi
        rw [nfi, g_n2 j1 j7, g_f0 j12] at h1
        refine gm_r_int (pc := 136) (by decide +kernel) (Or.inr ⟨(by decide +kernel), Or.inr rfl⟩) (h1 _ (dln D (lc + 1 - 1) c2 (tx_v (M 2) e 3 (tx_n (M 2) e b)) us _) _ _ ⟨hok.1, ⟨⟨hok.2.1.1.1, by omega⟩, fun j g1 g2 => ?_, hok.2.1.2.2⟩, hok.2.2⟩ ?_ ?_ rfl)
        · have q0 := hok.2.1.2.1 j g1 g2
          have q1 := hok.2.1.1.1
          show 0 ≤ (if _ then _ else if _ then _ else if _ then _ else if _ then _ else D j) ∧ (if _ then _ else if _ then _ else if _ then _ else if _ then _ else D j) ≤ 400
          repeat' split
          all_goals omega
        · rw [show lc + 1 - 1 = lc by omega]
          exact cdl_add hdl hls ⟨hu0.1, Int.le_refl _⟩ (fun _ _ _ => rfl) ⟨by omega, by omega⟩ ⟨by omega, by omega⟩ (fun _ => rfl) (fun t9 ht => by cases ht)
        · show us ≤ tx_n (M 2) e (tx_n (M 2) e b)
          omega
    · show gm_Wp X LX d _ _ 79 44 _ [gm_vi (-1)] n K R _ Q
      have j7 : ¬ (tx_k (M 2) e (tx_n (M 2) e b) = 258 ∧ 0 ≤ tx_v (M 2) e 3 (tx_n (M 2) e b) ∧ tx_v (M 2) e 3 (tx_n (M 2) e b) ≤ 20) := j7
      refine gm_sz (gm_p_stor (pc := 44) (i := .istore_n 2) (sr := 0) (j := 2) (by decide +kernel) rfl (show 3 ≤ _ from Nat.le_of_ble_eq_true rfl) rfl) ?_
      refine gm_sz (gm_p_load (pc := 45) (i := .iload_n 2) (sr := 0) (j := 2) (by decide +kernel) rfl rfl rfl) ?_
      refine gm_sz (gm_p_const (pc := 46) (i := .iconst (-1)) (v := gm_vi (-1)) (by decide +kernel) (by decide +kernel)) ?_
      refine fw_icfd (cc := .ne) (pc := 47) (off := 5) (by decide +kernel) (by decide) ⟨by decide, by decide⟩ ⟨by decide, by decide⟩ (by decide) ?_
      refine gm_sz (gm_p_const (pc := 50) (i := .iconst 0) (v := gm_vi 0) (by decide +kernel) (by decide +kernel)) ?_
      rw [g_n3 j1 j7] at h0
      exact gm_r_int (pc := 51) (by decide +kernel) (Or.inr ⟨(by decide +kernel), Or.inl rfl⟩) (h0 _ _ _ hok.2.1 (fun h => by cases h))
  · show gm_Wp X LX d _ _ 79 4 _ [gm_vi 2] n K R _ Q
    have j1 : tx_is (M 2) e b wo_open := j1
    have kb9 := nb9.2.2 (g_isb j1)
    have nf9 := s_n1 (f := M 2) j1
    have nb8 := tx_nb (f := M 2) (e := e) (b := tx_n (M 2) e b) nb9.2.1
    refine gm_sz (gm_p_stor (pc := 4) (i := .istore_n 1) (sr := 0) (j := 1) (by decide +kernel) rfl (show 2 ≤ _ from Nat.le_of_ble_eq_true rfl) rfl) ?_
    refine gm_sz (gm_p_load (pc := 5) (i := .iload_n 1) (sr := 0) (j := 1) (by decide +kernel) rfl rfl rfl) ?_
    refine gm_sz (gm_p_const (pc := 6) (i := .iconst (-1)) (v := gm_vi (-1)) (by decide +kernel) (by decide +kernel)) ?_
    refine fw_ictd (cc := .ne) (pc := 7) (off := 11) (by decide +kernel) (by decide) ⟨by decide, by decide⟩ ⟨by decide, by decide⟩ (by decide) ?_
    refine gm_sz (gm_p_load (pc := 18) (i := .aload_n 0) (sr := 2) (j := 0) (by decide +kernel) rfl rfl rfl) ?_
    refine gm_sz (fw_gr (pc := 19) (ix := 47) (ci := 9) (j := 0) (r := 216) (by decide +kernel) (tE215c hE) (by decide +kernel) (by decide +kernel) (tEr hE).2.1) ?_
    refine gm_c_virt (k := 216) (ci := 8) (mj := 76) (ix := 57) (pc := 22) (as := []) (st := []) (d' := d - 1) (bc' := 0) (bs' := 0) (by decide +kernel) (by decide +kernel) (by decide +kernel) (by decide +kernel) (tE216c hE).1 (tE216c hE).2 (by decide) (by decide +kernel) (show 0 = gm_na 76 by decide +kernel) fw_c0 (show 1 ≤ gm_ml 76 by decide +kernel) (Nat.le_of_ble_eq_true rfl) (by omega) (Nat.zero_le _) (Nat.zero_le _) ?_
    refine tx_c76 (by omega) hE hb ?_
    show gm_Wp X LX d _ _ 79 25 _ [] n K R _ Q
    have g19 : 0 ≤ tx_n (M 2) e b ∧ tx_n (M 2) e b ≤ e := by have := tx_nb (f := M 2) (b := b) hb.2; omega
    refine gm_sz (gm_p_load (pc := 25) (i := .iload_n 1) (sr := 0) (j := 1) (by decide +kernel) rfl rfl rfl) ?_
    refine gm_sz (gm_p_const (pc := 26) (i := .iconst 2) (v := gm_vi 2) (by decide +kernel) (by decide +kernel)) ?_
    refine fw_icfd (cc := .ne) (pc := 27) (off := 7) (by decide +kernel) (by decide) ⟨by decide, by decide⟩ ⟨by decide, by decide⟩ (by decide) ?_
    refine gm_sz (gm_p_const (pc := 30) (i := .iconst 0) (v := gm_vi 0) (by decide +kernel) (by decide +kernel)) ?_
    refine gm_sz (gm_p_goto (pc := 31) (off := 13) (by decide +kernel) (by decide)) ?_
    refine gm_sz (gm_p_stor (pc := 44) (i := .istore_n 2) (sr := 0) (j := 2) (by decide +kernel) rfl (show 3 ≤ _ from Nat.le_of_ble_eq_true rfl) rfl) ?_
    refine gm_sz (gm_p_load (pc := 45) (i := .iload_n 2) (sr := 0) (j := 2) (by decide +kernel) rfl rfl rfl) ?_
    refine gm_sz (gm_p_const (pc := 46) (i := .iconst (-1)) (v := gm_vi (-1)) (by decide +kernel) (by decide +kernel)) ?_
    refine fw_ictd (cc := .ne) (pc := 47) (off := 5) (by decide +kernel) (by decide) ⟨by decide, by decide⟩ ⟨by decide, by decide⟩ (by decide) ?_
    refine gm_sz (gm_p_load (pc := 52) (i := .aload_n 0) (sr := 2) (j := 0) (by decide +kernel) rfl rfl rfl) ?_
    refine gm_sz (fw_gi (pc := 53) (ix := 24) (ci := 9) (j := 4) (x := us) (by decide +kernel) (tE215c hE) (by decide +kernel) (by decide +kernel) rfl) ?_
    refine gm_sz (gm_p_stor (pc := 56) (i := .istore_n 3) (sr := 0) (j := 3) (by decide +kernel) rfl (show 4 ≤ _ from Nat.le_of_ble_eq_true rfl) rfl) ?_
    refine gm_sz (gm_p_load (pc := 57) (i := .aload_n 0) (sr := 2) (j := 0) (by decide +kernel) rfl rfl rfl) ?_
    refine gm_sz (fw_gr (pc := 58) (ix := 47) (ci := 9) (j := 0) (r := 216) (by decide +kernel) (tE215c hE) (by decide +kernel) (by decide +kernel) (tEr hE).2.1) ?_
    refine gm_sz (gm_p_ldcs (pc := 61) (i := .ldc 65) (ix := 65) (id := 3) (by decide +kernel) (Or.inl rfl) (by decide +kernel)) ?_
    refine gm_c_virt (k := 216) (ci := 8) (mj := 95) (ix := 67) (pc := 63) (as := [gm_vo 3]) (st := []) (d' := d - 1) (bc' := 0) (bs' := 0) (by decide +kernel) (by decide +kernel) (by decide +kernel) (by decide +kernel) (tE216c hE).1 (tE216c hE).2 (by decide) (by decide +kernel) (show 1 = gm_na 95 by decide +kernel) (fw_c1 fw_so) (show 2 ≤ gm_ml 95 by decide +kernel) (Nat.le_of_ble_eq_true rfl) (by omega) (Nat.zero_le _) (Nat.zero_le _) ?_
    refine tx_c95 (by omega) hE (by decide) (show tx_o 3 = wo_if by decide +kernel) g19 (fun j20 => ?_) (fun j20 => ?_)
    · show gm_Wp X LX d _ _ 79 66 _ [gm_vi 1] n K R _ Q
      have j20 : tx_is (M 2) e (tx_n (M 2) e b) wo_if := j20
      have g21 : 0 ≤ tx_n (M 2) e (tx_n (M 2) e b) ∧ tx_n (M 2) e (tx_n (M 2) e b) ≤ e := by have := tx_nb (f := M 2) (b := tx_n (M 2) e b) g19.2; omega
      refine fw_iffd (cc := .eq) (pc := 66) (off := 13) (by decide +kernel) (by decide) ⟨by decide, by decide⟩ (by decide) ?_
      refine gm_sz (gm_p_load (pc := 69) (i := .aload_n 0) (sr := 2) (j := 0) (by decide +kernel) rfl rfl rfl) ?_
      refine gm_sz (gm_p_const (pc := 70) (i := .iconst 0) (v := gm_vi 0) (by decide +kernel) (by decide +kernel)) ?_
      refine gm_c_virt (k := 215) (ci := 9) (mj := 96) (ix := 71) (pc := 71) (as := [gm_vi 0]) (st := []) (d' := d - 1) (bc' := 0) (bs' := 0) (by decide +kernel) (by decide +kernel) (by decide +kernel) (by decide +kernel) (tE215c hE).1 (tE215c hE).2 (by decide) (by decide +kernel) (show 1 = gm_na 96 by decide +kernel) (fw_c1 fw_si) (show 2 ≤ gm_ml 96 by decide +kernel) (Nat.le_of_ble_eq_true rfl) (by omega) (Nat.zero_le _) (Nat.zero_le _) ?_
      refine kx_cd hE _ _ _ _ _ _ _ _ (by omega) g21 (by have := tx_nw g19.2 j20; have : tx_n (M 2) e b + 2 ≤ tx_n (M 2) e (tx_n (M 2) e b) := this; omega) hok (fun u22 C23 k24 j25 => ?_) (fun u22 C23 k24 j25 => ?_)
      · show gm_Wp X LX d _ _ 79 74 _ [gm_vi 1] n K R _ Q
        have j25 : (g_cd (M 2) e 6 (tx_n (M 2) e (tx_n (M 2) e b))).1 = true := j25
        have g26 : 0 ≤ (g_cd (M 2) e 6 (tx_n (M 2) e (tx_n (M 2) e b))).2 ∧ (g_cd (M 2) e 6 (tx_n (M 2) e (tx_n (M 2) e b))).2 ≤ e := by have := g_cd_in (f := M 2) 6 (tx_n (M 2) e (tx_n (M 2) e b)) g21.1 g21.2; have := g21.1; omega
        refine fw_iftd (cc := .ne) (pc := 74) (off := 5) (by decide +kernel) (by decide) ⟨by decide, by decide⟩ (by decide) ?_
        refine gm_sz (gm_p_load (pc := 79) (i := .aload_n 0) (sr := 2) (j := 0) (by decide +kernel) rfl rfl rfl) ?_
        refine gm_sz (fw_gr (pc := 80) (ix := 14) (ci := 9) (j := 2) (r := 217) (by decide +kernel) (tE215c hE) (by decide +kernel) (by decide +kernel) (tEr hE).2.2.1) ?_
        refine gm_c_virt (k := 217) (ci := 2) (mj := 102) (ix := 75) (pc := 83) (as := []) (st := []) (d' := d - 1) (bc' := 0) (bs' := 0) (by decide +kernel) (by decide +kernel) (by decide +kernel) (by decide +kernel) (tE217c hE).1 (tE217c hE).2 (by decide) (by decide +kernel) (show 0 = gm_na 102 by decide +kernel) fw_c0 (show 1 ≤ gm_ml 102 by decide +kernel) (Nat.le_of_ble_eq_true rfl) (by omega) (Nat.zero_le _) (Nat.zero_le _) ?_
        refine tx_c102 hE ⟨by omega, by omega⟩ ?_
        show gm_Wp X LX d _ _ 79 86 _ [gm_vi (lc + 1 - 1)] n K R _ Q
        refine gm_sz (gm_p_stor (pc := 86) (i := .istore 4) (sr := 0) (j := 4) (by decide +kernel) rfl (show 5 ≤ _ from Nat.le_of_ble_eq_true rfl) rfl) ?_
        refine gm_sz (gm_p_load (pc := 88) (i := .aload_n 0) (sr := 2) (j := 0) (by decide +kernel) rfl rfl rfl) ?_
        refine gm_sz (fw_gr (pc := 89) (ix := 14) (ci := 9) (j := 2) (r := 217) (by decide +kernel) (tE215c hE) (by decide +kernel) (by decide +kernel) (tEr hE).2.2.1) ?_
        refine gm_sz (gm_p_load (pc := 92) (i := .iload 4) (sr := 0) (j := 4) (by decide +kernel) rfl rfl rfl) ?_
        refine gm_sz (gm_p_const (pc := 94) (i := .iconst 0) (v := gm_vi 0) (by decide +kernel) (by decide +kernel)) ?_
        refine gm_sz (gm_p_load (pc := 95) (i := .iload_n 1) (sr := 0) (j := 1) (by decide +kernel) rfl rfl rfl) ?_
        refine gm_c_virt (k := 217) (ci := 2) (mj := 45) (ix := 78) (pc := 96) (as := [gm_vi (lc + 1 - 1), gm_vi 0, gm_vi 2]) (st := []) (d' := d - 1) (bc' := 0) (bs' := 0) (by decide +kernel) (by decide +kernel) (by decide +kernel) (by decide +kernel) (tE217c hE).1 (tE217c hE).2 (by decide) (by decide +kernel) (show 3 = gm_na 45 by decide +kernel) (fw_c3 fw_si fw_si fw_si) (show 4 ≤ gm_ml 45 by decide +kernel) (Nat.le_of_ble_eq_true rfl) (by omega) (Nat.zero_le _) (Nat.zero_le _) ?_
        refine tx_c45 hE ⟨by omega, by omega⟩ ⟨by omega, by omega⟩ ⟨by omega, by omega⟩ ?_
        show gm_Wp X LX d _ _ 79 99 _ [] n K R _ Q
        refine gm_sz (gm_p_load (pc := 99) (i := .aload_n 0) (sr := 2) (j := 0) (by decide +kernel) rfl rfl rfl) ?_
        refine gm_sz (fw_gr (pc := 100) (ix := 14) (ci := 9) (j := 2) (r := 217) (by decide +kernel) (tE215c hE) (by decide +kernel) (by decide +kernel) (tEr hE).2.2.1) ?_
        refine gm_sz (gm_p_load (pc := 103) (i := .iload 4) (sr := 0) (j := 4) (by decide +kernel) rfl rfl rfl) ?_
        refine gm_sz (gm_p_const (pc := 105) (i := .iconst 1) (v := gm_vi 1) (by decide +kernel) (by decide +kernel)) ?_
        refine gm_sz (gm_p_load (pc := 106) (i := .iload_n 2) (sr := 0) (j := 2) (by decide +kernel) rfl rfl rfl) ?_
        refine gm_c_virt (k := 217) (ci := 2) (mj := 45) (ix := 78) (pc := 107) (as := [gm_vi (lc + 1 - 1), gm_vi 1, gm_vi 0]) (st := []) (d' := d - 1) (bc' := 0) (bs' := 0) (by decide +kernel) (by decide +kernel) (by decide +kernel) (by decide +kernel) (tE217c hE).1 (tE217c hE).2 (by decide) (by decide +kernel) (show 3 = gm_na 45 by decide +kernel) (fw_c3 fw_si fw_si fw_si) (show 4 ≤ gm_ml 45 by decide +kernel) (Nat.le_of_ble_eq_true rfl) (by omega) (Nat.zero_le _) (Nat.zero_le _) ?_
        refine tx_c45 hE ⟨by omega, by omega⟩ ⟨by omega, by omega⟩ ⟨by omega, by omega⟩ ?_
        show gm_Wp X LX d _ _ 79 110 _ [] n K R _ Q
        refine gm_sz (gm_p_load (pc := 110) (i := .aload_n 0) (sr := 2) (j := 0) (by decide +kernel) rfl rfl rfl) ?_
        refine gm_sz (fw_gr (pc := 111) (ix := 14) (ci := 9) (j := 2) (r := 217) (by decide +kernel) (tE215c hE) (by decide +kernel) (by decide +kernel) (tEr hE).2.2.1) ?_
        refine gm_sz (gm_p_load (pc := 114) (i := .iload 4) (sr := 0) (j := 4) (by decide +kernel) rfl rfl rfl) ?_
        refine gm_sz (gm_p_const (pc := 116) (i := .iconst 2) (v := gm_vi 2) (by decide +kernel) (by decide +kernel)) ?_
        refine gm_sz (gm_p_load (pc := 117) (i := .iload_n 3) (sr := 0) (j := 3) (by decide +kernel) rfl rfl rfl) ?_
        refine gm_c_virt (k := 217) (ci := 2) (mj := 45) (ix := 78) (pc := 118) (as := [gm_vi (lc + 1 - 1), gm_vi 2, gm_vi us]) (st := []) (d' := d - 1) (bc' := 0) (bs' := 0) (by decide +kernel) (by decide +kernel) (by decide +kernel) (by decide +kernel) (tE217c hE).1 (tE217c hE).2 (by decide) (by decide +kernel) (show 3 = gm_na 45 by decide +kernel) (fw_c3 fw_si fw_si fw_si) (show 4 ≤ gm_ml 45 by decide +kernel) (Nat.le_of_ble_eq_true rfl) (by omega) (Nat.zero_le _) (Nat.zero_le _) ?_
        refine tx_c45 hE ⟨by omega, by omega⟩ ⟨by omega, by omega⟩ ⟨by omega, by omega⟩ ?_
        show gm_Wp X LX d _ _ 79 121 _ [] n K R _ Q
        refine gm_sz (gm_p_load (pc := 121) (i := .aload_n 0) (sr := 2) (j := 0) (by decide +kernel) rfl rfl rfl) ?_
        refine gm_sz (fw_gr (pc := 122) (ix := 14) (ci := 9) (j := 2) (r := 217) (by decide +kernel) (tE215c hE) (by decide +kernel) (by decide +kernel) (tEr hE).2.2.1) ?_
        refine gm_sz (gm_p_load (pc := 125) (i := .iload 4) (sr := 0) (j := 4) (by decide +kernel) rfl rfl rfl) ?_
        refine gm_sz (gm_p_const (pc := 127) (i := .iconst 3) (v := gm_vi 3) (by decide +kernel) (by decide +kernel)) ?_
        refine gm_sz (gm_p_load (pc := 128) (i := .aload_n 0) (sr := 2) (j := 0) (by decide +kernel) rfl rfl rfl) ?_
        refine gm_sz (fw_gi (pc := 129) (ix := 24) (ci := 9) (j := 4) (x := u22) (by decide +kernel) (tE215c hE) (by decide +kernel) (by decide +kernel) rfl) ?_
        refine gm_c_virt (k := 217) (ci := 2) (mj := 45) (ix := 78) (pc := 132) (as := [gm_vi (lc + 1 - 1), gm_vi 3, gm_vi u22]) (st := []) (d' := d - 1) (bc' := 0) (bs' := 0) (by decide +kernel) (by decide +kernel) (by decide +kernel) (by decide +kernel) (tE217c hE).1 (tE217c hE).2 (by decide) (by decide +kernel) (show 3 = gm_na 45 by decide +kernel) (fw_c3 fw_si fw_si fw_si) (show 4 ≤ gm_ml 45 by decide +kernel) (Nat.le_of_ble_eq_true rfl) (by omega) (Nat.zero_le _) (Nat.zero_le _) ?_
        refine tx_c45 hE ⟨by omega, by omega⟩ ⟨by omega, by omega⟩ ⟨by omega, by omega⟩ ?_
        show gm_Wp X LX d _ _ 79 135 _ [] n K R _ Q
        refine gm_sz (gm_p_const (pc := 135) (i := .iconst 1) (v := gm_vi 1) (by decide +kernel) (by decide +kernel)) ?_
        have nfi := nf9
        rw [s_f1 j20] at nfi
        rw [nfi, g_n1 j1, g_f1 j20] at h1
        have k9 := k24
        have ce := ctl_E hok k9
        refine gm_r_int (pc := 136) (by decide +kernel) (Or.inr ⟨(by decide +kernel), Or.inr rfl⟩) (h1 _ (dln D (lc + 1 - 1) 2 (0) us _) _ _ ⟨k9.1, ⟨⟨k9.2.1.1.1, by omega⟩, fun j g1 g2 => ?_, k9.2.1.2.2⟩, k9.2.2⟩ ?_ ?_ j25)
        · have q0 := k9.2.1.2.1 j g1 g2
          have q1 := k9.2.1.1.1
          show 0 ≤ (if _ then _ else if _ then _ else if _ then _ else if _ then _ else D j) ∧ (if _ then _ else if _ then _ else if _ then _ else if _ then _ else D j) ≤ 400
          repeat' split
          all_goals omega
        · rw [show lc + 1 - 1 = lc by omega]
          exact cdl_add hdl hls ⟨hu0.1, by have := ce.1; omega⟩ (ctl_C hok k9) ⟨by omega, by omega⟩ ⟨by omega, by omega⟩ (fun hn => by cases hn) (fun t9 ht => by cases ht; exact ce)
        · have o9 := (s_cd_ok (f := M 2) 6 _ (by omega) (by omega) j25).1
          have ce1 : _ = us + ((scds (s_cd (M 2) e 6 (tx_n (M 2) e (tx_n (M 2) e b)))).length : Int) := ce.1
          have nw := tx_nw (by omega) j20
          have nw : tx_n (M 2) e b + 2 ≤ tx_n (M 2) e (tx_n (M 2) e b) := nw
          omega
      · show gm_Wp X LX d _ _ 79 74 _ [gm_vi 0] n K R _ Q
        have j25 : ¬ (g_cd (M 2) e 6 (tx_n (M 2) e (tx_n (M 2) e b))).1 = true := j25
        have g26 : 0 ≤ (g_cd (M 2) e 6 (tx_n (M 2) e (tx_n (M 2) e b))).2 ∧ (g_cd (M 2) e 6 (tx_n (M 2) e (tx_n (M 2) e b))).2 ≤ e := by have := g_cd_in (f := M 2) 6 (tx_n (M 2) e (tx_n (M 2) e b)) g21.1 g21.2; have := g21.1; omega
        refine fw_iffd (cc := .ne) (pc := 74) (off := 5) (by decide +kernel) (by decide) ⟨by decide, by decide⟩ (by decide) ?_
        refine gm_sz (gm_p_const (pc := 77) (i := .iconst 0) (v := gm_vi 0) (by decide +kernel) (by decide +kernel)) ?_
        rw [g_n1 j1, g_f1 j20] at h0
        exact gm_r_int (pc := 78) (by decide +kernel) (Or.inr ⟨(by decide +kernel), Or.inl rfl⟩) (h0 _ _ _ k24 j25)
    · show gm_Wp X LX d _ _ 79 66 _ [gm_vi 0] n K R _ Q
      have j20 : ¬ tx_is (M 2) e (tx_n (M 2) e b) wo_if := j20
      refine fw_iftd (cc := .eq) (pc := 66) (off := 13) (by decide +kernel) (by decide) ⟨by decide, by decide⟩ (by decide) ?_
      refine gm_sz (gm_p_load (pc := 79) (i := .aload_n 0) (sr := 2) (j := 0) (by decide +kernel) rfl rfl rfl) ?_
      refine gm_sz (fw_gr (pc := 80) (ix := 14) (ci := 9) (j := 2) (r := 217) (by decide +kernel) (tE215c hE) (by decide +kernel) (by decide +kernel) (tEr hE).2.2.1) ?_
      refine gm_c_virt (k := 217) (ci := 2) (mj := 102) (ix := 75) (pc := 83) (as := []) (st := []) (d' := d - 1) (bc' := 0) (bs' := 0) (by decide +kernel) (by decide +kernel) (by decide +kernel) (by decide +kernel) (tE217c hE).1 (tE217c hE).2 (by decide) (by decide +kernel) (show 0 = gm_na 102 by decide +kernel) fw_c0 (show 1 ≤ gm_ml 102 by decide +kernel) (Nat.le_of_ble_eq_true rfl) (by omega) (Nat.zero_le _) (Nat.zero_le _) ?_
      refine tx_c102 hE ⟨by omega, by omega⟩ ?_
      show gm_Wp X LX d _ _ 79 86 _ [gm_vi (lc + 1 - 1)] n K R _ Q
      refine gm_sz (gm_p_stor (pc := 86) (i := .istore 4) (sr := 0) (j := 4) (by decide +kernel) rfl (show 5 ≤ _ from Nat.le_of_ble_eq_true rfl) rfl) ?_
      refine gm_sz (gm_p_load (pc := 88) (i := .aload_n 0) (sr := 2) (j := 0) (by decide +kernel) rfl rfl rfl) ?_
      refine gm_sz (fw_gr (pc := 89) (ix := 14) (ci := 9) (j := 2) (r := 217) (by decide +kernel) (tE215c hE) (by decide +kernel) (by decide +kernel) (tEr hE).2.2.1) ?_
      refine gm_sz (gm_p_load (pc := 92) (i := .iload 4) (sr := 0) (j := 4) (by decide +kernel) rfl rfl rfl) ?_
      refine gm_sz (gm_p_const (pc := 94) (i := .iconst 0) (v := gm_vi 0) (by decide +kernel) (by decide +kernel)) ?_
      refine gm_sz (gm_p_load (pc := 95) (i := .iload_n 1) (sr := 0) (j := 1) (by decide +kernel) rfl rfl rfl) ?_
      refine gm_c_virt (k := 217) (ci := 2) (mj := 45) (ix := 78) (pc := 96) (as := [gm_vi (lc + 1 - 1), gm_vi 0, gm_vi 2]) (st := []) (d' := d - 1) (bc' := 0) (bs' := 0) (by decide +kernel) (by decide +kernel) (by decide +kernel) (by decide +kernel) (tE217c hE).1 (tE217c hE).2 (by decide) (by decide +kernel) (show 3 = gm_na 45 by decide +kernel) (fw_c3 fw_si fw_si fw_si) (show 4 ≤ gm_ml 45 by decide +kernel) (Nat.le_of_ble_eq_true rfl) (by omega) (Nat.zero_le _) (Nat.zero_le _) ?_
      refine tx_c45 hE ⟨by omega, by omega⟩ ⟨by omega, by omega⟩ ⟨by omega, by omega⟩ ?_
      show gm_Wp X LX d _ _ 79 99 _ [] n K R _ Q
      refine gm_sz (gm_p_load (pc := 99) (i := .aload_n 0) (sr := 2) (j := 0) (by decide +kernel) rfl rfl rfl) ?_
      refine gm_sz (fw_gr (pc := 100) (ix := 14) (ci := 9) (j := 2) (r := 217) (by decide +kernel) (tE215c hE) (by decide +kernel) (by decide +kernel) (tEr hE).2.2.1) ?_
      refine gm_sz (gm_p_load (pc := 103) (i := .iload 4) (sr := 0) (j := 4) (by decide +kernel) rfl rfl rfl) ?_
      refine gm_sz (gm_p_const (pc := 105) (i := .iconst 1) (v := gm_vi 1) (by decide +kernel) (by decide +kernel)) ?_
      refine gm_sz (gm_p_load (pc := 106) (i := .iload_n 2) (sr := 0) (j := 2) (by decide +kernel) rfl rfl rfl) ?_
      refine gm_c_virt (k := 217) (ci := 2) (mj := 45) (ix := 78) (pc := 107) (as := [gm_vi (lc + 1 - 1), gm_vi 1, gm_vi 0]) (st := []) (d' := d - 1) (bc' := 0) (bs' := 0) (by decide +kernel) (by decide +kernel) (by decide +kernel) (by decide +kernel) (tE217c hE).1 (tE217c hE).2 (by decide) (by decide +kernel) (show 3 = gm_na 45 by decide +kernel) (fw_c3 fw_si fw_si fw_si) (show 4 ≤ gm_ml 45 by decide +kernel) (Nat.le_of_ble_eq_true rfl) (by omega) (Nat.zero_le _) (Nat.zero_le _) ?_
      refine tx_c45 hE ⟨by omega, by omega⟩ ⟨by omega, by omega⟩ ⟨by omega, by omega⟩ ?_
      show gm_Wp X LX d _ _ 79 110 _ [] n K R _ Q
      refine gm_sz (gm_p_load (pc := 110) (i := .aload_n 0) (sr := 2) (j := 0) (by decide +kernel) rfl rfl rfl) ?_
      refine gm_sz (fw_gr (pc := 111) (ix := 14) (ci := 9) (j := 2) (r := 217) (by decide +kernel) (tE215c hE) (by decide +kernel) (by decide +kernel) (tEr hE).2.2.1) ?_
      refine gm_sz (gm_p_load (pc := 114) (i := .iload 4) (sr := 0) (j := 4) (by decide +kernel) rfl rfl rfl) ?_
      refine gm_sz (gm_p_const (pc := 116) (i := .iconst 2) (v := gm_vi 2) (by decide +kernel) (by decide +kernel)) ?_
      refine gm_sz (gm_p_load (pc := 117) (i := .iload_n 3) (sr := 0) (j := 3) (by decide +kernel) rfl rfl rfl) ?_
      refine gm_c_virt (k := 217) (ci := 2) (mj := 45) (ix := 78) (pc := 118) (as := [gm_vi (lc + 1 - 1), gm_vi 2, gm_vi us]) (st := []) (d' := d - 1) (bc' := 0) (bs' := 0) (by decide +kernel) (by decide +kernel) (by decide +kernel) (by decide +kernel) (tE217c hE).1 (tE217c hE).2 (by decide) (by decide +kernel) (show 3 = gm_na 45 by decide +kernel) (fw_c3 fw_si fw_si fw_si) (show 4 ≤ gm_ml 45 by decide +kernel) (Nat.le_of_ble_eq_true rfl) (by omega) (Nat.zero_le _) (Nat.zero_le _) ?_
      refine tx_c45 hE ⟨by omega, by omega⟩ ⟨by omega, by omega⟩ ⟨by omega, by omega⟩ ?_
      show gm_Wp X LX d _ _ 79 121 _ [] n K R _ Q
      refine gm_sz (gm_p_load (pc := 121) (i := .aload_n 0) (sr := 2) (j := 0) (by decide +kernel) rfl rfl rfl) ?_
      refine gm_sz (fw_gr (pc := 122) (ix := 14) (ci := 9) (j := 2) (r := 217) (by decide +kernel) (tE215c hE) (by decide +kernel) (by decide +kernel) (tEr hE).2.2.1) ?_
      refine gm_sz (gm_p_load (pc := 125) (i := .iload 4) (sr := 0) (j := 4) (by decide +kernel) rfl rfl rfl) ?_
      refine gm_sz (gm_p_const (pc := 127) (i := .iconst 3) (v := gm_vi 3) (by decide +kernel) (by decide +kernel)) ?_
      refine gm_sz (gm_p_load (pc := 128) (i := .aload_n 0) (sr := 2) (j := 0) (by decide +kernel) rfl rfl rfl) ?_
      refine gm_sz (fw_gi (pc := 129) (ix := 24) (ci := 9) (j := 4) (x := us) (by decide +kernel) (tE215c hE) (by decide +kernel) (by decide +kernel) rfl) ?_
      refine gm_c_virt (k := 217) (ci := 2) (mj := 45) (ix := 78) (pc := 132) (as := [gm_vi (lc + 1 - 1), gm_vi 3, gm_vi us]) (st := []) (d' := d - 1) (bc' := 0) (bs' := 0) (by decide +kernel) (by decide +kernel) (by decide +kernel) (by decide +kernel) (tE217c hE).1 (tE217c hE).2 (by decide) (by decide +kernel) (show 3 = gm_na 45 by decide +kernel) (fw_c3 fw_si fw_si fw_si) (show 4 ≤ gm_ml 45 by decide +kernel) (Nat.le_of_ble_eq_true rfl) (by omega) (Nat.zero_le _) (Nat.zero_le _) ?_
      refine tx_c45 hE ⟨by omega, by omega⟩ ⟨by omega, by omega⟩ ⟨by omega, by omega⟩ ?_
      show gm_Wp X LX d _ _ 79 135 _ [] n K R _ Q
      refine gm_sz (gm_p_const (pc := 135) (i := .iconst 1) (v := gm_vi 1) (by decide +kernel) (by decide +kernel)) ?_
      have nfi := nf9
      rw [s_f0 j20] at nfi
      rw [nfi, g_n1 j1, g_f0 j20] at h1
      refine gm_r_int (pc := 136) (by decide +kernel) (Or.inr ⟨(by decide +kernel), Or.inr rfl⟩) (h1 _ (dln D (lc + 1 - 1) 2 (0) us _) _ _ ⟨hok.1, ⟨⟨hok.2.1.1.1, by omega⟩, fun j g1 g2 => ?_, hok.2.1.2.2⟩, hok.2.2⟩ ?_ ?_ rfl)
      · have q0 := hok.2.1.2.1 j g1 g2
        have q1 := hok.2.1.1.1
        show 0 ≤ (if _ then _ else if _ then _ else if _ then _ else if _ then _ else D j) ∧ (if _ then _ else if _ then _ else if _ then _ else if _ then _ else D j) ≤ 400
        repeat' split
        all_goals omega
      · rw [show lc + 1 - 1 = lc by omega]
        exact cdl_add hdl hls ⟨hu0.1, Int.le_refl _⟩ (fun _ _ _ => rfl) ⟨by omega, by omega⟩ ⟨by omega, by omega⟩ (fun _ => rfl) (fun t9 ht => by cases ht)
      · show us ≤ tx_n (M 2) e b
        omega
  · show gm_Wp X LX d _ _ 79 4 _ [gm_vi (-1)] n K R _ Q
    have j1 : ¬ (tx_is (M 2) e b wo_fast ∨ tx_is (M 2) e b wo_slow) := j1
    have j5 : ¬ tx_is (M 2) e b wo_open := j5
    refine gm_sz (gm_p_stor (pc := 4) (i := .istore_n 1) (sr := 0) (j := 1) (by decide +kernel) rfl (show 2 ≤ _ from Nat.le_of_ble_eq_true rfl) rfl) ?_
    refine gm_sz (gm_p_load (pc := 5) (i := .iload_n 1) (sr := 0) (j := 1) (by decide +kernel) rfl rfl rfl) ?_
    refine gm_sz (gm_p_const (pc := 6) (i := .iconst (-1)) (v := gm_vi (-1)) (by decide +kernel) (by decide +kernel)) ?_
    refine fw_icfd (cc := .ne) (pc := 7) (off := 11) (by decide +kernel) (by decide) ⟨by decide, by decide⟩ ⟨by decide, by decide⟩ (by decide) ?_
    refine gm_sz (gm_p_load (pc := 10) (i := .aload_n 0) (sr := 2) (j := 0) (by decide +kernel) rfl rfl rfl) ?_
    refine gm_sz (fw_gr (pc := 11) (ix := 47) (ci := 9) (j := 0) (r := 216) (by decide +kernel) (tE215c hE) (by decide +kernel) (by decide +kernel) (tEr hE).2.1) ?_
    refine gm_c_virt (k := 216) (ci := 8) (mj := 93) (ix := 51) (pc := 14) (as := []) (st := []) (d' := d - 1) (bc' := 0) (bs' := 0) (by decide +kernel) (by decide +kernel) (by decide +kernel) (by decide +kernel) (tE216c hE).1 (tE216c hE).2 (by decide) (by decide +kernel) (show 0 = gm_na 93 by decide +kernel) fw_c0 (show 1 ≤ gm_ml 93 by decide +kernel) (Nat.le_of_ble_eq_true rfl) (by omega) (Nat.zero_le _) (Nat.zero_le _) ?_
    refine tx_c93 hE hb ?_
    show gm_Wp X LX d _ _ 79 17 _ [gm_vi 0] n K R _ Q
    rw [g_n0 j1 j5] at h0
    exact gm_r_int (pc := 17) (by decide +kernel) (Or.inr ⟨(by decide +kernel), Or.inl rfl⟩) (h0 _ _ _ hok.2.1 (fun h => by cases h))

theorem kx_l72 (hd : 24 ≤ d) (hE : tx_E n K R M e) (z : Int) : ∀ (t : Nat) (i b us : Int) (D C : Int → Int) (Lc : List Int) (ls : List lln), i + t = 12 → 0 ≤ i → 0 ≤ b ∧ b ≤ e → us ≤ b → i = (ls.length : Int) → ctl Lc us i D C → cdl ls us D C → (∀ us2 D2 C2 b2 Lc2, ctl Lc2 us2 (g_txt (M 2) e t b).2 D2 C2 → cdl (ls ++ s_txt (M 2) e t b) us2 D2 C2 → (g_txt (M 2) e t b).1 = true → Q (.inl (some (gm_vi (-1)))) n K R (ct M e b2 (-1) us2 (g_txt (M 2) e t b).2 D2 C2)) → (∀ us2 lc2 D2 C2 b2, ¬ (g_txt (M 2) e t b).1 = true → Q (.inl (some (gm_vi (g_txt (M 2) e t b).2))) n K R (ct M e b2 (g_txt (M 2) e t b).2 us2 lc2 D2 C2)) → gm_Wp X LX d bc bs 72 29 [some (gm_vr 215), some (gm_vi z), some (gm_vi i)] [] n K R (ct M e b (-1) us i D C) Q := by
  obtain ⟨-, he0, he4⟩ := tEe hE
  intro t
  induction t with
  | zero =>
    intro i b us D C Lc ls hit hi0 hb hu hls hok hdl h1 h0
    refine gm_sz (gm_p_load (pc := 29) (i := .iload_n 2) (sr := 0) (j := 2) (by decide +kernel) rfl rfl rfl) ?_
    refine gm_sz (gm_p_load (pc := 30) (i := .aload_n 0) (sr := 2) (j := 0) (by decide +kernel) rfl rfl rfl) ?_
    refine gm_sz (fw_gi (pc := 31) (ix := 20) (ci := 9) (j := 1) (x := 12) (by decide +kernel) (tE215c hE) (by decide +kernel) (by decide +kernel) (tEm hE).2.2.2) ?_
    refine fw_ict (cc := .ge) (pc := 34) (off := 49) (by decide +kernel) (by decide) ⟨by omega, by omega⟩ ⟨by decide, by decide⟩ (show 12 ≤ i by omega) ?_
    refine gm_sz (gm_p_load (pc := 83) (i := .aload_n 0) (sr := 2) (j := 0) (by decide +kernel) rfl rfl rfl) ?_
    refine gm_sz (fw_gr (pc := 84) (ix := 14) (ci := 9) (j := 0) (r := 216) (by decide +kernel) (tE215c hE) (by decide +kernel) (by decide +kernel) (tEr hE).2.1) ?_
    refine gm_c_virt (k := 216) (ci := 8) (mj := 93) (ix := 46) (pc := 87) (as := []) (st := []) (d' := d - 1) (bc' := 0) (bs' := 0) (by decide +kernel) (by decide +kernel) (by decide +kernel) (by decide +kernel) (tE216c hE).1 (tE216c hE).2 (by decide) (by decide +kernel) (show 0 = gm_na 93 by decide +kernel) fw_c0 (show 1 ≤ gm_ml 93 by decide +kernel) (Nat.le_of_ble_eq_true rfl) (by omega) (Nat.zero_le _) (Nat.zero_le _) ?_
    refine tx_c93 hE hb ?_
    show gm_Wp X LX d _ _ 72 90 _ [gm_vi 0] n K R _ Q
    refine gm_sz (gm_p_pop (pc := 90) (by decide +kernel) fw_si) ?_
    refine gm_sz (gm_p_load (pc := 91) (i := .aload_n 0) (sr := 2) (j := 0) (by decide +kernel) rfl rfl rfl) ?_
    refine gm_sz (fw_gr (pc := 92) (ix := 14) (ci := 9) (j := 0) (r := 216) (by decide +kernel) (tE215c hE) (by decide +kernel) (by decide +kernel) (tEr hE).2.1) ?_
    refine gm_c_virt (k := 216) (ci := 8) (mj := 121) (ix := 42) (pc := 95) (as := []) (st := []) (d' := d - 1) (bc' := 0) (bs' := 0) (by decide +kernel) (by decide +kernel) (by decide +kernel) (by decide +kernel) (tE216c hE).1 (tE216c hE).2 (by decide) (by decide +kernel) (show 0 = gm_na 121 by decide +kernel) fw_c0 (show 1 ≤ gm_ml 121 by decide +kernel) (Nat.le_of_ble_eq_true rfl) (by omega) (Nat.zero_le _) (Nat.zero_le _) ?_
    refine tx_c121 hE ?_
    show gm_Wp X LX d _ _ 72 98 _ [gm_vi b] n K R _ Q
    exact gm_r_int (pc := 98) (by decide +kernel) (Or.inl (by decide +kernel)) (h0 _ _ _ _ _ (fun h => by cases h))
  | succ t ih =>
    intro i b us D C Lc ls hit hi0 hb hu hls hok hdl h1 h0
    have hkk := tx_kc (f := M 2) (e := e) (b := (g_line (M 2) e b).2) (fun h => tEb hE (by have := (g_line_in (f := M 2) hb.1 hb.2).1; omega) (by omega))
    refine gm_sz (gm_p_load (pc := 29) (i := .iload_n 2) (sr := 0) (j := 2) (by decide +kernel) rfl rfl rfl) ?_
    refine gm_sz (gm_p_load (pc := 30) (i := .aload_n 0) (sr := 2) (j := 0) (by decide +kernel) rfl rfl rfl) ?_
    refine gm_sz (fw_gi (pc := 31) (ix := 20) (ci := 9) (j := 1) (x := 12) (by decide +kernel) (tE215c hE) (by decide +kernel) (by decide +kernel) (tEm hE).2.2.2) ?_
    refine fw_icf (cc := .ge) (pc := 34) (off := 49) (by decide +kernel) (by decide) ⟨by omega, by omega⟩ ⟨by decide, by decide⟩ (show ¬ 12 ≤ i by omega) ?_
    refine gm_sz (gm_p_load (pc := 37) (i := .aload_n 0) (sr := 2) (j := 0) (by decide +kernel) rfl rfl rfl) ?_
    refine gm_c_up (k := 215) (ci := 9) (mj := 79) (ix := 34) (pc := 38) (as := []) (st := []) (d' := d - 1) (bc' := 0) (bs' := 0) (by decide +kernel) (by decide +kernel) (by decide +kernel) (tE215c hE).1 (tE215c hE).2 (show 0 = gm_na 79 by decide +kernel) fw_c0 (show 1 ≤ gm_ml 79 by decide +kernel) (Nat.le_of_ble_eq_true rfl) (by omega) (Nat.zero_le _) (Nat.zero_le _) ?_
    refine kx_c79 hE _ _ _ _ _ _ _ _ _ _ _ (by omega) hb hu (by omega) hls hok hdl (fun u1 D2 C3 Lc3 k4 kd ku j5 => ?_) (fun u1 D2 C3 k4 j5 => ?_)
    · show gm_Wp X LX d _ _ 72 41 _ [gm_vi 1] n K R _ Q
      have j5 : (g_line (M 2) e b).1 = true := j5
      have g6 : 0 ≤ (g_line (M 2) e b).2 ∧ (g_line (M 2) e b).2 ≤ e := by have := g_line_in (f := M 2) hb.1 hb.2; have := hb.1; omega
      refine fw_iffd (cc := .eq) (pc := 41) (off := 28) (by decide +kernel) (by decide) ⟨by decide, by decide⟩ (by decide) ?_
      refine gm_sz (gm_p_load (pc := 44) (i := .aload_n 0) (sr := 2) (j := 0) (by decide +kernel) rfl rfl rfl) ?_
      refine gm_sz (fw_gr (pc := 45) (ix := 14) (ci := 9) (j := 0) (r := 216) (by decide +kernel) (tE215c hE) (by decide +kernel) (by decide +kernel) (tEr hE).2.1) ?_
      refine gm_sz (fw_gi (pc := 48) (ix := 31) (ci := 8) (j := 6) (x := tx_k (M 2) e ((g_line (M 2) e b).2)) (by decide +kernel) (tE216c hE) (by decide +kernel) (by decide +kernel) rfl) ?_
      refine gm_sz (gm_p_const (pc := 51) (i := .sipush 256) (v := gm_vi 256) (by decide +kernel) (by decide +kernel)) ?_
      refine fw_ic (cc := .eq) (pc := 54) (off := 15) (by decide +kernel) (by decide) ⟨by omega, by omega⟩ ⟨by decide, by decide⟩ (fun j7 => ?_) (fun j7 => ?_)
      · have j7 : (tx_k (M 2) e ((g_line (M 2) e b).2)) = 256 := j7
        refine gm_sz (gm_p_load (pc := 69) (i := .aload_n 0) (sr := 2) (j := 0) (by decide +kernel) rfl rfl rfl) ?_
        refine gm_sz (fw_gr (pc := 70) (ix := 14) (ci := 9) (j := 0) (r := 216) (by decide +kernel) (tE215c hE) (by decide +kernel) (by decide +kernel) (tEr hE).2.1) ?_
        refine gm_c_virt (k := 216) (ci := 8) (mj := 121) (ix := 42) (pc := 73) (as := []) (st := []) (d' := d - 1) (bc' := 0) (bs' := 0) (by decide +kernel) (by decide +kernel) (by decide +kernel) (by decide +kernel) (tE216c hE).1 (tE216c hE).2 (by decide) (by decide +kernel) (show 0 = gm_na 121 by decide +kernel) fw_c0 (show 1 ≤ gm_ml 121 by decide +kernel) (Nat.le_of_ble_eq_true rfl) (by omega) (Nat.zero_le _) (Nat.zero_le _) ?_
        refine tx_c121 hE ?_
        show gm_Wp X LX d _ _ 72 76 _ [gm_vi (-1)] n K R _ Q
        rw [g_t1 j5 j7, s_t1 j7, show ((true, 12 - (t : Int)) : Bool × Int).2 = i + 1 by show 12 - (t : Int) = i + 1; omega] at h1
        exact gm_r_int (pc := 76) (by decide +kernel) (Or.inl (by decide +kernel)) (h1 _ _ _ _ _ k4 kd rfl)
      · have j7 : ¬ (tx_k (M 2) e ((g_line (M 2) e b).2)) = 256 := j7
        refine gm_sz (gm_p_load (pc := 57) (i := .aload_n 0) (sr := 2) (j := 0) (by decide +kernel) rfl rfl rfl) ?_
        refine gm_sz (fw_gr (pc := 58) (ix := 14) (ci := 9) (j := 0) (r := 216) (by decide +kernel) (tE215c hE) (by decide +kernel) (by decide +kernel) (tEr hE).2.1) ?_
        refine gm_sz (gm_p_const (pc := 61) (i := .bipush 59) (v := gm_vi 59) (by decide +kernel) (by decide +kernel)) ?_
        refine gm_c_virt (k := 216) (ci := 8) (mj := 98) (ix := 38) (pc := 63) (as := [gm_vi 59]) (st := []) (d' := d - 1) (bc' := 0) (bs' := 0) (by decide +kernel) (by decide +kernel) (by decide +kernel) (by decide +kernel) (tE216c hE).1 (tE216c hE).2 (by decide) (by decide +kernel) (show 1 = gm_na 98 by decide +kernel) (fw_c1 fw_si) (show 2 ≤ gm_ml 98 by decide +kernel) (Nat.le_of_ble_eq_true rfl) (by omega) (Nat.zero_le _) (Nat.zero_le _) ?_
        refine tx_c98 (by omega) hE ⟨by decide, by decide⟩ g6 (fun j8 => ?_) (fun j8 => ?_)
        · show gm_Wp X LX d _ _ 72 66 _ [gm_vi 1] n K R _ Q
          have j8 : tx_k (M 2) e ((g_line (M 2) e b).2) = 59 := j8
          have g9 : 0 ≤ tx_n (M 2) e ((g_line (M 2) e b).2) ∧ tx_n (M 2) e ((g_line (M 2) e b).2) ≤ e := by have := tx_nb (f := M 2) (b := (g_line (M 2) e b).2) g6.2; omega
          refine fw_iftd (cc := .ne) (pc := 66) (off := 11) (by decide +kernel) (by decide) ⟨by decide, by decide⟩ (by decide) ?_
          refine gm_sz (gm_p_iinc (pc := 77) (j := 2) (z := 1) (by decide +kernel) rfl) ?_
          refine gm_sz (gm_p_goto (pc := 80) (off := (-51)) (by decide +kernel) (by decide)) ?_
          rw [g_t3 j5 j7 j8] at h1 h0
          rw [s_t3 j7 j8, List.append_cons] at h1
          have nb := tx_nb (f := M 2) (e := e) (b := (g_line (M 2) e b).2) g6.2
          exact gm_Wp_wk (d' := d) (bc' := bc) (bs' := bs) (Nat.le_refl _) (by omega) (by omega) (ih (i + 1) _ _ _ _ _ _ (by omega) (by omega) g9 (by omega) (by rw [List.length_append]; show i + 1 = ((ls.length + 1 : Nat) : Int); omega) k4 kd h1 h0)
        · show gm_Wp X LX d _ _ 72 66 _ [gm_vi 0] n K R _ Q
          have j8 : ¬ tx_k (M 2) e ((g_line (M 2) e b).2) = 59 := j8
          refine fw_iffd (cc := .ne) (pc := 66) (off := 11) (by decide +kernel) (by decide) ⟨by decide, by decide⟩ (by decide) ?_
          refine gm_sz (gm_p_load (pc := 69) (i := .aload_n 0) (sr := 2) (j := 0) (by decide +kernel) rfl rfl rfl) ?_
          refine gm_sz (fw_gr (pc := 70) (ix := 14) (ci := 9) (j := 0) (r := 216) (by decide +kernel) (tE215c hE) (by decide +kernel) (by decide +kernel) (tEr hE).2.1) ?_
          refine gm_c_virt (k := 216) (ci := 8) (mj := 121) (ix := 42) (pc := 73) (as := []) (st := []) (d' := d - 1) (bc' := 0) (bs' := 0) (by decide +kernel) (by decide +kernel) (by decide +kernel) (by decide +kernel) (tE216c hE).1 (tE216c hE).2 (by decide) (by decide +kernel) (show 0 = gm_na 121 by decide +kernel) fw_c0 (show 1 ≤ gm_ml 121 by decide +kernel) (Nat.le_of_ble_eq_true rfl) (by omega) (Nat.zero_le _) (Nat.zero_le _) ?_
          refine tx_c121 hE ?_
          show gm_Wp X LX d _ _ 72 76 _ [gm_vi ((g_line (M 2) e b).2)] n K R _ Q
          rw [g_t2 j5 j7 j8] at h0
          exact gm_r_int (pc := 76) (by decide +kernel) (Or.inl (by decide +kernel)) (h0 _ _ _ _ _ (fun h => by cases h))
    · show gm_Wp X LX d _ _ 72 41 _ [gm_vi 0] n K R _ Q
      have j5 : ¬ (g_line (M 2) e b).1 = true := j5
      have g6 : 0 ≤ (g_line (M 2) e b).2 ∧ (g_line (M 2) e b).2 ≤ e := by have := g_line_in (f := M 2) hb.1 hb.2; have := hb.1; omega
      refine fw_iftd (cc := .eq) (pc := 41) (off := 28) (by decide +kernel) (by decide) ⟨by decide, by decide⟩ (by decide) ?_
      refine gm_sz (gm_p_load (pc := 69) (i := .aload_n 0) (sr := 2) (j := 0) (by decide +kernel) rfl rfl rfl) ?_
      refine gm_sz (fw_gr (pc := 70) (ix := 14) (ci := 9) (j := 0) (r := 216) (by decide +kernel) (tE215c hE) (by decide +kernel) (by decide +kernel) (tEr hE).2.1) ?_
      refine gm_c_virt (k := 216) (ci := 8) (mj := 121) (ix := 42) (pc := 73) (as := []) (st := []) (d' := d - 1) (bc' := 0) (bs' := 0) (by decide +kernel) (by decide +kernel) (by decide +kernel) (by decide +kernel) (tE216c hE).1 (tE216c hE).2 (by decide) (by decide +kernel) (show 0 = gm_na 121 by decide +kernel) fw_c0 (show 1 ≤ gm_ml 121 by decide +kernel) (Nat.le_of_ble_eq_true rfl) (by omega) (Nat.zero_le _) (Nat.zero_le _) ?_
      refine tx_c121 hE ?_
      show gm_Wp X LX d _ _ 72 76 _ [gm_vi ((g_line (M 2) e b).2)] n K R _ Q
      rw [g_t0 j5] at h0
      exact gm_r_int (pc := 76) (by decide +kernel) (Or.inl (by decide +kernel)) (h0 _ _ _ _ _ (fun h => by cases h))

end KX
end
/-! 7a32.k1ccy -/
section
/-! THE CLASS'S readText OF A LAW, with what it lays down (laid by wip/core/k1c.py out of p5's texts). -/
section KY
variable {X : Int → Int} {LX d bc bs n : Nat} {K : gm_K} {R : gm_R} {M : gm_M} {Q : gm_Q} {e e0 b w us lc x p k v : Int} {D C : Int → Int}
/-- the law stands read: lines in 218, codes in 219 -/
noncomputable def ctw (ls : List lln) (M2 : gm_M) : Prop := ∃ (Lc : List Int), ctl Lc (M2 215 4) (M2 217 3) (M2 218) (M2 219) ∧ cdl ls (M2 215 4) (M2 218) (M2 219)
theorem ctw_ct {ls : List lln} {Lc : List Int} {M1 : gm_M} {D2 C2 : Int → Int} (h : ctl Lc us lc D2 C2) (h2 : cdl ls us D2 C2) : ctw ls (ct M1 e b w us lc D2 C2) := ⟨Lc, h, h2⟩
end KY
end
