/-! 79g.cx -/
section
/-! THE CLASS'S READER OF A LAW: LINES, the text (laid by wip/pp/p5c.py). -/
section CX
variable {X : Int → Int} {LX d bc bs n : Nat} {K : gm_K} {R : gm_R} {M : gm_M} {Q : gm_Q} {e b w us lc x i c : Int} {D C : Int → Int}
theorem tx_c102 (hE : tx_E n K R M e) (hl : 0 ≤ lc ∧ lc < 12) (hq : Q (.inl (some (gm_vi (lc + 1 - 1)))) n K R (ct M e b w us (lc + 1) D C)) : gm_Wp X LX d bc bs 102 0 (gm_ent 102 [gm_vr 217]) [] n K R (ct M e b w us lc D C) Q := by
  refine gm_sz (gm_p_load (pc := 0) (i := .aload_n 0) (sr := 2) (j := 0) (by decide +kernel) rfl rfl rfl) ?_
  refine gm_sz (fw_gi (pc := 1) (ix := 9) (ci := 2) (j := 3) (x := lc) (by decide +kernel) (tE217c hE) (by decide +kernel) (by decide +kernel) rfl) ?_
  refine gm_sz (gm_p_load (pc := 4) (i := .aload_n 0) (sr := 2) (j := 0) (by decide +kernel) rfl rfl rfl) ?_
  refine gm_sz (fw_gi (pc := 5) (ix := 15) (ci := 2) (j := 0) (x := 12) (by decide +kernel) (tE217c hE) (by decide +kernel) (by decide +kernel) (tEm hE).2.1) ?_
  refine fw_ict (cc := .lt) (pc := 8) (off := 5) (by decide +kernel) (by decide) ⟨by omega, by omega⟩ ⟨by decide, by decide⟩ (show lc < 12 by omega) ?_
  refine gm_sz (gm_p_load (pc := 13) (i := .aload_n 0) (sr := 2) (j := 0) (by decide +kernel) rfl rfl rfl) ?_
  refine gm_sz (gm_p_dup (pc := 14) (by decide +kernel) fw_sr) ?_
  refine gm_sz (fw_gi (pc := 15) (ix := 9) (ci := 2) (j := 3) (x := lc) (by decide +kernel) (tE217c hE) (by decide +kernel) (by decide +kernel) rfl) ?_
  refine gm_sz (gm_p_const (pc := 18) (i := .iconst 1) (v := gm_vi 1) (by decide +kernel) (by decide +kernel)) ?_
  refine gm_sz (gm_p_bin (pc := 19) (i := .iadd) (f := fun x y => x + y) (by decide +kernel) rfl) ?_
  refine gm_sz (fw_pi (pc := 20) (ix := 9) (ci := 2) (j := 3) (M' := ct M e b w us (lc + 1) D C) (by decide +kernel) (tE217c hE) (by decide +kernel) (by decide +kernel) (by decide +kernel) ct_lc) ?_
  refine gm_sz (gm_p_load (pc := 23) (i := .aload_n 0) (sr := 2) (j := 0) (by decide +kernel) rfl rfl rfl) ?_
  refine gm_sz (fw_gi (pc := 24) (ix := 9) (ci := 2) (j := 3) (x := lc + 1) (by decide +kernel) (tE217c hE) (by decide +kernel) (by decide +kernel) rfl) ?_
  refine gm_sz (gm_p_const (pc := 27) (i := .iconst 1) (v := gm_vi 1) (by decide +kernel) (by decide +kernel)) ?_
  refine gm_sz (gm_p_bin (pc := 28) (i := .isub) (f := fun x y => x - y) (by decide +kernel) rfl) ?_
  exact gm_r_int (pc := 29) (by decide +kernel) (Or.inl (by decide +kernel)) hq
theorem tx_c45 (hE : tx_E n K R M e) (hl : 0 ≤ lc ∧ lc ≤ 12) (hi : 0 ≤ i ∧ i < lc) (hc : 0 ≤ c ∧ c < 4) (hq : Q (.inl none) n K R (ct M e b w us lc (fun t => if t = i * 4 + c then x else D t) C)) : gm_Wp X LX d bc bs 45 0 (gm_ent 45 [gm_vr 217, gm_vi i, gm_vi c, gm_vi x]) [] n K R (ct M e b w us lc D C) Q := by
  refine gm_sz (gm_p_load (pc := 0) (i := .iload_n 1) (sr := 0) (j := 1) (by decide +kernel) rfl rfl rfl) ?_
  refine fw_iff (cc := .lt) (pc := 1) (off := 37) (by decide +kernel) (by decide) ⟨by omega, by omega⟩ (show ¬ i < 0 by omega) ?_
  refine gm_sz (gm_p_load (pc := 4) (i := .iload_n 1) (sr := 0) (j := 1) (by decide +kernel) rfl rfl rfl) ?_
  refine gm_sz (gm_p_load (pc := 5) (i := .aload_n 0) (sr := 2) (j := 0) (by decide +kernel) rfl rfl rfl) ?_
  refine gm_sz (fw_gi (pc := 6) (ix := 9) (ci := 2) (j := 3) (x := lc) (by decide +kernel) (tE217c hE) (by decide +kernel) (by decide +kernel) rfl) ?_
  refine fw_icf (cc := .ge) (pc := 9) (off := 29) (by decide +kernel) (by decide) ⟨by omega, by omega⟩ ⟨by omega, by omega⟩ (show ¬ lc ≤ i by omega) ?_
  refine gm_sz (gm_p_load (pc := 12) (i := .iload_n 2) (sr := 0) (j := 2) (by decide +kernel) rfl rfl rfl) ?_
  refine fw_iff (cc := .lt) (pc := 13) (off := 25) (by decide +kernel) (by decide) ⟨by omega, by omega⟩ (show ¬ c < 0 by omega) ?_
  refine gm_sz (gm_p_load (pc := 16) (i := .iload_n 2) (sr := 0) (j := 2) (by decide +kernel) rfl rfl rfl) ?_
  refine gm_sz (gm_p_load (pc := 17) (i := .aload_n 0) (sr := 2) (j := 0) (by decide +kernel) rfl rfl rfl) ?_
  refine gm_sz (fw_gi (pc := 18) (ix := 18) (ci := 2) (j := 1) (x := 4) (by decide +kernel) (tE217c hE) (by decide +kernel) (by decide +kernel) (tEm hE).2.2.1) ?_
  refine fw_icf (cc := .ge) (pc := 21) (off := 17) (by decide +kernel) (by decide) ⟨by omega, by omega⟩ ⟨by decide, by decide⟩ (show ¬ 4 ≤ c by omega) ?_
  refine gm_sz (gm_p_load (pc := 24) (i := .aload_n 0) (sr := 2) (j := 0) (by decide +kernel) rfl rfl rfl) ?_
  refine gm_sz (fw_gr (pc := 25) (ix := 21) (ci := 2) (j := 2) (r := 218) (by decide +kernel) (tE217c hE) (by decide +kernel) (by decide +kernel) (tEr hE).2.2.2.2) ?_
  refine gm_sz (gm_p_load (pc := 28) (i := .iload_n 1) (sr := 0) (j := 1) (by decide +kernel) rfl rfl rfl) ?_
  refine gm_sz (gm_p_load (pc := 29) (i := .aload_n 0) (sr := 2) (j := 0) (by decide +kernel) rfl rfl rfl) ?_
  refine gm_sz (fw_gi (pc := 30) (ix := 18) (ci := 2) (j := 1) (x := 4) (by decide +kernel) (tE217c hE) (by decide +kernel) (by decide +kernel) (tEm hE).2.2.1) ?_
  refine gm_sz (gm_p_bin (pc := 33) (i := .imul) (f := fun x y => x * y) (by decide +kernel) rfl) ?_
  refine gm_sz (gm_p_load (pc := 34) (i := .iload_n 2) (sr := 0) (j := 2) (by decide +kernel) rfl rfl rfl) ?_
  refine gm_sz (gm_p_bin (pc := 35) (i := .iadd) (f := fun x y => x + y) (by decide +kernel) rfl) ?_
  refine gm_sz (gm_p_load (pc := 36) (i := .iload_n 3) (sr := 0) (j := 3) (by decide +kernel) rfl rfl rfl) ?_
  refine gm_sz (fw_is (pc := 37) (k := 218) (len := 48) (e0 := (i * 4) + c) (x := x) (M' := ct M e b w us lc (fun z => if z = (i * 4) + c then x else D z) C) (by decide +kernel) (tE218 hE).1 (tE218 hE).2 (by decide) ⟨by omega, by omega⟩ ct_D) ?_
  exact gm_r_void (pc := 38) (by decide +kernel) (by decide +kernel) hq
theorem tx_c80 (hd : 6 ≤ d) (hE : tx_E n K R M e) (hb : 0 ≤ b ∧ b ≤ e) (h1 : tx_is (M 2) e b wo_fast ∨ tx_is (M 2) e b wo_slow → ∀ k, 0 ≤ k → k ≤ 1 → Q (.inl (some (gm_vi k))) n K R (ct M e b w us lc D C)) (h2 : tx_is (M 2) e b wo_open → Q (.inl (some (gm_vi 2))) n K R (ct M e b w us lc D C)) (h0 : ¬ (tx_is (M 2) e b wo_fast ∨ tx_is (M 2) e b wo_slow) → ¬ tx_is (M 2) e b wo_open → Q (.inl (some (gm_vi (-1)))) n K R (ct M e b w us lc D C)) : gm_Wp X LX d bc bs 80 0 (gm_ent 80 [gm_vr 215]) [] n K R (ct M e b w us lc D C) Q := by
  obtain ⟨-, he0, he4⟩ := tEe hE
  refine gm_sz (gm_p_load (pc := 0) (i := .aload_n 0) (sr := 2) (j := 0) (by decide +kernel) rfl rfl rfl) ?_
  refine gm_sz (fw_gr (pc := 1) (ix := 47) (ci := 9) (j := 0) (r := 216) (by decide +kernel) (tE215c hE) (by decide +kernel) (by decide +kernel) (tEr hE).2.1) ?_
  refine gm_sz (gm_p_ldcs (pc := 4) (i := .ldc 82) (ix := 82) (id := 0) (by decide +kernel) (Or.inl rfl) (by decide +kernel)) ?_
  refine gm_c_virt (k := 216) (ci := 8) (mj := 81) (ix := 84) (pc := 6) (as := [gm_vo 0]) (st := []) (d' := d - 1) (bc' := 0) (bs' := 0) (by decide +kernel) (by decide +kernel) (by decide +kernel) (by decide +kernel) (tE216c hE).1 (tE216c hE).2 (by decide) (by decide +kernel) (show 1 = gm_na 81 by decide +kernel) (fw_c1 fw_so) (show 2 ≤ gm_ml 81 by decide +kernel) (Nat.le_of_ble_eq_true rfl) (by omega) (Nat.zero_le _) (Nat.zero_le _) ?_
  refine tx_c81 (by omega) hE (by decide) (show tx_o 0 = wo_fast by decide +kernel) hb (fun j1 => ?_) (fun j1 => ?_)
  · show gm_Wp X LX d _ _ 80 9 _ [gm_vi 1] n K R _ Q
    have j1 : tx_is (M 2) e b wo_fast := j1
    refine fw_iffd (cc := .eq) (pc := 9) (off := 5) (by decide +kernel) (by decide) ⟨by decide, by decide⟩ (by decide) ?_
    refine gm_sz (gm_p_const (pc := 12) (i := .iconst 0) (v := gm_vi 0) (by decide +kernel) (by decide +kernel)) ?_
    exact gm_r_int (pc := 13) (by decide +kernel) (Or.inl (by decide +kernel)) (h1 (Or.inl j1) 0 (by decide) (by decide))
  · show gm_Wp X LX d _ _ 80 9 _ [gm_vi 0] n K R _ Q
    have j1 : ¬ tx_is (M 2) e b wo_fast := j1
    refine fw_iftd (cc := .eq) (pc := 9) (off := 5) (by decide +kernel) (by decide) ⟨by decide, by decide⟩ (by decide) ?_
    refine gm_sz (gm_p_load (pc := 14) (i := .aload_n 0) (sr := 2) (j := 0) (by decide +kernel) rfl rfl rfl) ?_
    refine gm_sz (fw_gr (pc := 15) (ix := 47) (ci := 9) (j := 0) (r := 216) (by decide +kernel) (tE215c hE) (by decide +kernel) (by decide +kernel) (tEr hE).2.1) ?_
    refine gm_sz (gm_p_ldcs (pc := 18) (i := .ldc 87) (ix := 87) (id := 1) (by decide +kernel) (Or.inl rfl) (by decide +kernel)) ?_
    refine gm_c_virt (k := 216) (ci := 8) (mj := 81) (ix := 84) (pc := 20) (as := [gm_vo 1]) (st := []) (d' := d - 1) (bc' := 0) (bs' := 0) (by decide +kernel) (by decide +kernel) (by decide +kernel) (by decide +kernel) (tE216c hE).1 (tE216c hE).2 (by decide) (by decide +kernel) (show 1 = gm_na 81 by decide +kernel) (fw_c1 fw_so) (show 2 ≤ gm_ml 81 by decide +kernel) (Nat.le_of_ble_eq_true rfl) (by omega) (Nat.zero_le _) (Nat.zero_le _) ?_
    refine tx_c81 (by omega) hE (by decide) (show tx_o 1 = wo_slow by decide +kernel) hb (fun j2 => ?_) (fun j2 => ?_)
    · show gm_Wp X LX d _ _ 80 23 _ [gm_vi 1] n K R _ Q
      have j2 : tx_is (M 2) e b wo_slow := j2
      refine fw_iffd (cc := .eq) (pc := 23) (off := 5) (by decide +kernel) (by decide) ⟨by decide, by decide⟩ (by decide) ?_
      refine gm_sz (gm_p_const (pc := 26) (i := .iconst 1) (v := gm_vi 1) (by decide +kernel) (by decide +kernel)) ?_
      exact gm_r_int (pc := 27) (by decide +kernel) (Or.inl (by decide +kernel)) (h1 (Or.inr j2) 1 (by decide) (by decide))
    · show gm_Wp X LX d _ _ 80 23 _ [gm_vi 0] n K R _ Q
      have j2 : ¬ tx_is (M 2) e b wo_slow := j2
      refine fw_iftd (cc := .eq) (pc := 23) (off := 5) (by decide +kernel) (by decide) ⟨by decide, by decide⟩ (by decide) ?_
      refine gm_sz (gm_p_load (pc := 28) (i := .aload_n 0) (sr := 2) (j := 0) (by decide +kernel) rfl rfl rfl) ?_
      refine gm_sz (fw_gr (pc := 29) (ix := 47) (ci := 9) (j := 0) (r := 216) (by decide +kernel) (tE215c hE) (by decide +kernel) (by decide +kernel) (tEr hE).2.1) ?_
      refine gm_sz (gm_p_ldcs (pc := 32) (i := .ldc 89) (ix := 89) (id := 2) (by decide +kernel) (Or.inl rfl) (by decide +kernel)) ?_
      refine gm_c_virt (k := 216) (ci := 8) (mj := 81) (ix := 84) (pc := 34) (as := [gm_vo 2]) (st := []) (d' := d - 1) (bc' := 0) (bs' := 0) (by decide +kernel) (by decide +kernel) (by decide +kernel) (by decide +kernel) (tE216c hE).1 (tE216c hE).2 (by decide) (by decide +kernel) (show 1 = gm_na 81 by decide +kernel) (fw_c1 fw_so) (show 2 ≤ gm_ml 81 by decide +kernel) (Nat.le_of_ble_eq_true rfl) (by omega) (Nat.zero_le _) (Nat.zero_le _) ?_
      refine tx_c81 (by omega) hE (by decide) (show tx_o 2 = wo_open by decide +kernel) hb (fun j3 => ?_) (fun j3 => ?_)
      · show gm_Wp X LX d _ _ 80 37 _ [gm_vi 1] n K R _ Q
        have j3 : tx_is (M 2) e b wo_open := j3
        refine fw_iffd (cc := .eq) (pc := 37) (off := 7) (by decide +kernel) (by decide) ⟨by decide, by decide⟩ (by decide) ?_
        refine gm_sz (gm_p_const (pc := 40) (i := .iconst 2) (v := gm_vi 2) (by decide +kernel) (by decide +kernel)) ?_
        refine gm_sz (gm_p_goto (pc := 41) (off := 4) (by decide +kernel) (by decide)) ?_
        exact gm_r_int (pc := 45) (by decide +kernel) (Or.inl (by decide +kernel)) (h2 j3)
      · show gm_Wp X LX d _ _ 80 37 _ [gm_vi 0] n K R _ Q
        have j3 : ¬ tx_is (M 2) e b wo_open := j3
        refine fw_iftd (cc := .eq) (pc := 37) (off := 7) (by decide +kernel) (by decide) ⟨by decide, by decide⟩ (by decide) ?_
        refine gm_sz (gm_p_const (pc := 44) (i := .iconst (-1)) (v := gm_vi (-1)) (by decide +kernel) (by decide +kernel)) ?_
        exact gm_r_int (pc := 45) (by decide +kernel) (Or.inl (by decide +kernel)) (h0 (fun hh => hh.elim j1 j2) j3)
section GB
variable {f : Int → Int}
theorem g_f1 (h : tx_is f e b wo_if) : g_if f e b = g_cd f e 6 (tx_n f e b) := tif_t h
theorem g_f0 (h : ¬ tx_is f e b wo_if) : g_if f e b = (true, b) := tif_f h
theorem g_n1 (h : tx_is f e b wo_open) : g_line f e b = g_if f e (tx_n f e b) := tif_t h
theorem g_ex {l l2 : List Int} (h : tx_is f e b l) (hl : l.getD 0 0 ≠ l2.getD 0 0 ∧ 0 < l.length ∧ 0 < l2.length) : ¬ tx_is f e b l2 := fun h2 => hl.1 ((h.2.2 0 hl.2.1).symm.trans (h2.2.2 0 hl.2.2))
theorem g_n2 (h : tx_is f e b wo_fast ∨ tx_is f e b wo_slow) (h2 : g_nm f e (tx_n f e b)) : g_line f e b = g_if f e (tx_n f e (tx_n f e b)) := by
  unfold g_line
  rw [tif_f (by rcases h with h | h <;> exact g_ex h (by decide)), tif_t h, tif_t h2]
theorem g_n3 (h : tx_is f e b wo_fast ∨ tx_is f e b wo_slow) (h2 : ¬ g_nm f e (tx_n f e b)) : g_line f e b = (false, tx_n f e b) := by
  unfold g_line
  rw [tif_f (by rcases h with h | h <;> exact g_ex h (by decide)), tif_t h, tif_f h2]
theorem g_n0 (h : ¬ (tx_is f e b wo_fast ∨ tx_is f e b wo_slow)) (h2 : ¬ tx_is f e b wo_open) : g_line f e b = (false, b) := by
  unfold g_line
  rw [tif_f h2, tif_f h]
end GB
/-- readLine -/
noncomputable def cL (X : Int → Int) (LX n : Nat) (K : gm_K) (R : gm_R) (M : gm_M) (e : Int) : Prop := ∀ (d bc bs : Nat) (b us lc : Int) (D C : Int → Int) (Q : gm_Q), 23 ≤ d → 0 ≤ b ∧ b ≤ e → lc < 12 → ctk us lc D C → (∀ us2 D2 C2, ctk us2 (lc + 1) D2 C2 → (g_line (M 2) e b).1 = true → Q (.inl (some (gm_vi 1))) n K R (ct M e (g_line (M 2) e b).2 (-1) us2 (lc + 1) D2 C2)) → (∀ us2 D2 C2, ctk us2 lc D2 C2 → ¬ (g_line (M 2) e b).1 = true → Q (.inl (some (gm_vi 0))) n K R (ct M e (g_line (M 2) e b).2 (g_line (M 2) e b).2 us2 lc D2 C2)) → gm_Wp X LX d bc bs 79 0 (gm_ent 79 [gm_vr 215]) [] n K R (ct M e b (-1) us lc D C) Q
theorem tx_c79 (hE : tx_E n K R M e) : cL X LX n K R M e := by
  obtain ⟨-, he0, he4⟩ := tEe hE
  intro d bc bs b us lc D C Q hd hb hlc hok h1 h0
  have hl0 := hok.1.2.1
  have hu0 := hok.1.1
  refine gm_sz (gm_p_load (pc := 0) (i := .aload_n 0) (sr := 2) (j := 0) (by decide +kernel) rfl rfl rfl) ?_
  refine gm_c_virt (k := 215) (ci := 9) (mj := 80) (ix := 43) (pc := 1) (as := []) (st := []) (d' := d - 1) (bc' := 0) (bs' := 0) (by decide +kernel) (by decide +kernel) (by decide +kernel) (by decide +kernel) (tE215c hE).1 (tE215c hE).2 (by decide) (by decide +kernel) (show 0 = gm_na 80 by decide +kernel) fw_c0 (show 1 ≤ gm_ml 80 by decide +kernel) (Nat.le_of_ble_eq_true rfl) (by omega) (Nat.zero_le _) (Nat.zero_le _) ?_
  refine tx_c80 (by omega) hE hb (fun j1 c2 j3 j4 => ?_) (fun j1 => ?_) (fun j1 j5 => ?_)
  · show gm_Wp X LX d _ _ 79 4 _ [gm_vi c2] n K R _ Q
    have j1 : tx_is (M 2) e b wo_fast ∨ tx_is (M 2) e b wo_slow := j1
    have j3 : 0 ≤ c2 := j3
    have j4 : c2 ≤ 1 := j4
    refine gm_sz (gm_p_stor (pc := 4) (i := .istore_n 1) (sr := 0) (j := 1) (by decide +kernel) rfl (show 2 ≤ _ from Nat.le_of_ble_eq_true rfl) rfl) ?_
    refine gm_sz (gm_p_load (pc := 5) (i := .iload_n 1) (sr := 0) (j := 1) (by decide +kernel) rfl rfl rfl) ?_
    refine gm_sz (gm_p_const (pc := 6) (i := .iconst (-1)) (v := gm_vi (-1)) (by decide +kernel) (by decide +kernel)) ?_
    refine fw_ict (cc := .ne) (pc := 7) (off := 11) (by decide +kernel) (by decide) ⟨by omega, by omega⟩ ⟨by decide, by decide⟩ (show ¬ c2 = (-1) by omega) ?_
    refine gm_sz (gm_p_load (pc := 18) (i := .aload_n 0) (sr := 2) (j := 0) (by decide +kernel) rfl rfl rfl) ?_
    refine gm_sz (fw_gr (pc := 19) (ix := 47) (ci := 9) (j := 0) (r := 216) (by decide +kernel) (tE215c hE) (by decide +kernel) (by decide +kernel) (tEr hE).2.1) ?_
    refine gm_c_virt (k := 216) (ci := 8) (mj := 76) (ix := 57) (pc := 22) (as := []) (st := []) (d' := d - 1) (bc' := 0) (bs' := 0) (by decide +kernel) (by decide +kernel) (by decide +kernel) (by decide +kernel) (tE216c hE).1 (tE216c hE).2 (by decide) (by decide +kernel) (show 0 = gm_na 76 by decide +kernel) fw_c0 (show 1 ≤ gm_ml 76 by decide +kernel) (Nat.le_of_ble_eq_true rfl) (by omega) (Nat.zero_le _) (Nat.zero_le _) ?_
    refine tx_c76 (by omega) hE hb ?_
    show gm_Wp X LX d _ _ 79 25 _ [] n K R _ Q
    have g6 : 0 ≤ tx_n (M 2) e b ∧ tx_n (M 2) e b ≤ e := by have := tx_nb (f := M 2) (b := b) hb.2; omega
    refine gm_sz (gm_p_load (pc := 25) (i := .iload_n 1) (sr := 0) (j := 1) (by decide +kernel) rfl rfl rfl) ?_
    refine gm_sz (gm_p_const (pc := 26) (i := .iconst 2) (v := gm_vi 2) (by decide +kernel) (by decide +kernel)) ?_
    refine fw_ict (cc := .ne) (pc := 27) (off := 7) (by decide +kernel) (by decide) ⟨by omega, by omega⟩ ⟨by decide, by decide⟩ (show ¬ c2 = 2 by omega) ?_
    refine gm_sz (gm_p_load (pc := 34) (i := .aload_n 0) (sr := 2) (j := 0) (by decide +kernel) rfl rfl rfl) ?_
    refine gm_sz (fw_gr (pc := 35) (ix := 47) (ci := 9) (j := 0) (r := 216) (by decide +kernel) (tE215c hE) (by decide +kernel) (by decide +kernel) (tEr hE).2.1) ?_
    refine gm_sz (gm_p_const (pc := 38) (i := .iconst 0) (v := gm_vi 0) (by decide +kernel) (by decide +kernel)) ?_
    refine gm_sz (gm_p_const (pc := 39) (i := .bipush 20) (v := gm_vi 20) (by decide +kernel) (by decide +kernel)) ?_
    refine gm_c_virt (k := 216) (ci := 8) (mj := 94) (ix := 61) (pc := 41) (as := [gm_vi 0, gm_vi 20]) (st := []) (d' := d - 1) (bc' := 0) (bs' := 0) (by decide +kernel) (by decide +kernel) (by decide +kernel) (by decide +kernel) (tE216c hE).1 (tE216c hE).2 (by decide) (by decide +kernel) (show 2 = gm_na 94 by decide +kernel) (fw_c2 fw_si fw_si) (show 3 ≤ gm_ml 94 by decide +kernel) (Nat.le_of_ble_eq_true rfl) (by omega) (Nat.zero_le _) (Nat.zero_le _) ?_
    refine tx_c94 (by omega) hE ⟨by decide, by decide⟩ ⟨by decide, by decide⟩ g6 (fun j9 j10 j11 => ?_) (fun j7 => ?_)
    · show gm_Wp X LX d _ _ 79 44 _ [gm_vi (tx_v (M 2) e 3 (tx_n (M 2) e b))] n K R _ Q
      have j7 : tx_k (M 2) e (tx_n (M 2) e b) = 258 ∧ 0 ≤ tx_v (M 2) e 3 (tx_n (M 2) e b) ∧ tx_v (M 2) e 3 (tx_n (M 2) e b) ≤ 20 := ⟨j9, j10, j11⟩
      have g8 : 0 ≤ tx_n (M 2) e (tx_n (M 2) e b) ∧ tx_n (M 2) e (tx_n (M 2) e b) ≤ e := by have := tx_nb (f := M 2) (b := tx_n (M 2) e b) g6.2; omega
      have j7v := tx_vb (f := M 2) (e := e) (m := 3) (b := tx_n (M 2) e b) (by decide)
      refine gm_sz (gm_p_stor (pc := 44) (i := .istore_n 2) (sr := 0) (j := 2) (by decide +kernel) rfl (show 3 ≤ _ from Nat.le_of_ble_eq_true rfl) rfl) ?_
      refine gm_sz (gm_p_load (pc := 45) (i := .iload_n 2) (sr := 0) (j := 2) (by decide +kernel) rfl rfl rfl) ?_
      refine gm_sz (gm_p_const (pc := 46) (i := .iconst (-1)) (v := gm_vi (-1)) (by decide +kernel) (by decide +kernel)) ?_
      refine fw_ict (cc := .ne) (pc := 47) (off := 5) (by decide +kernel) (by decide) ⟨by omega, by omega⟩ ⟨by decide, by decide⟩ (show ¬ (tx_v (M 2) e 3 (tx_n (M 2) e b)) = (-1) by omega) ?_
      refine gm_sz (gm_p_load (pc := 52) (i := .aload_n 0) (sr := 2) (j := 0) (by decide +kernel) rfl rfl rfl) ?_
      refine gm_sz (fw_gi (pc := 53) (ix := 24) (ci := 9) (j := 4) (x := us) (by decide +kernel) (tE215c hE) (by decide +kernel) (by decide +kernel) rfl) ?_
      refine gm_sz (gm_p_stor (pc := 56) (i := .istore_n 3) (sr := 0) (j := 3) (by decide +kernel) rfl (show 4 ≤ _ from Nat.le_of_ble_eq_true rfl) rfl) ?_
      refine gm_sz (gm_p_load (pc := 57) (i := .aload_n 0) (sr := 2) (j := 0) (by decide +kernel) rfl rfl rfl) ?_
      refine gm_sz (fw_gr (pc := 58) (ix := 47) (ci := 9) (j := 0) (r := 216) (by decide +kernel) (tE215c hE) (by decide +kernel) (by decide +kernel) (tEr hE).2.1) ?_
      refine gm_sz (gm_p_ldcs (pc := 61) (i := .ldc 65) (ix := 65) (id := 3) (by decide +kernel) (Or.inl rfl) (by decide +kernel)) ?_
      refine gm_c_virt (k := 216) (ci := 8) (mj := 95) (ix := 67) (pc := 63) (as := [gm_vo 3]) (st := []) (d' := d - 1) (bc' := 0) (bs' := 0) (by decide +kernel) (by decide +kernel) (by decide +kernel) (by decide +kernel) (tE216c hE).1 (tE216c hE).2 (by decide) (by decide +kernel) (show 1 = gm_na 95 by decide +kernel) (fw_c1 fw_so) (show 2 ≤ gm_ml 95 by decide +kernel) (Nat.le_of_ble_eq_true rfl) (by omega) (Nat.zero_le _) (Nat.zero_le _) ?_
      refine tx_c95 (by omega) hE (by decide) (show tx_o 3 = wo_if by decide +kernel) g8 (fun j12 => ?_) (fun j12 => ?_)
      · show gm_Wp X LX d _ _ 79 66 _ [gm_vi 1] n K R _ Q
        have j12 : tx_is (M 2) e (tx_n (M 2) e (tx_n (M 2) e b)) wo_if := j12
        have g13 : 0 ≤ tx_n (M 2) e (tx_n (M 2) e (tx_n (M 2) e b)) ∧ tx_n (M 2) e (tx_n (M 2) e (tx_n (M 2) e b)) ≤ e := by have := tx_nb (f := M 2) (b := tx_n (M 2) e (tx_n (M 2) e b)) g8.2; omega
        refine fw_iffd (cc := .eq) (pc := 66) (off := 13) (by decide +kernel) (by decide) ⟨by decide, by decide⟩ (by decide) ?_
        refine gm_sz (gm_p_load (pc := 69) (i := .aload_n 0) (sr := 2) (j := 0) (by decide +kernel) rfl rfl rfl) ?_
        refine gm_sz (gm_p_const (pc := 70) (i := .iconst 0) (v := gm_vi 0) (by decide +kernel) (by decide +kernel)) ?_
        refine gm_c_virt (k := 215) (ci := 9) (mj := 96) (ix := 71) (pc := 71) (as := [gm_vi 0]) (st := []) (d' := d - 1) (bc' := 0) (bs' := 0) (by decide +kernel) (by decide +kernel) (by decide +kernel) (by decide +kernel) (tE215c hE).1 (tE215c hE).2 (by decide) (by decide +kernel) (show 1 = gm_na 96 by decide +kernel) (fw_c1 fw_si) (show 2 ≤ gm_ml 96 by decide +kernel) (Nat.le_of_ble_eq_true rfl) (by omega) (Nat.zero_le _) (Nat.zero_le _) ?_
        refine tx_cd hE _ _ _ _ _ _ _ (by omega) g13 hok (fun u14 C15 k16 j17 => ?_) (fun u14 C15 k16 j17 => ?_)
        · show gm_Wp X LX d _ _ 79 74 _ [gm_vi 1] n K R _ Q
          have j17 : (g_cd (M 2) e 6 (tx_n (M 2) e (tx_n (M 2) e (tx_n (M 2) e b)))).1 = true := j17
          have g18 : 0 ≤ (g_cd (M 2) e 6 (tx_n (M 2) e (tx_n (M 2) e (tx_n (M 2) e b)))).2 ∧ (g_cd (M 2) e 6 (tx_n (M 2) e (tx_n (M 2) e (tx_n (M 2) e b)))).2 ≤ e := by have := g_cd_in (f := M 2) 6 (tx_n (M 2) e (tx_n (M 2) e (tx_n (M 2) e b))) g13.1 g13.2; have := g13.1; omega
          refine fw_iftd (cc := .ne) (pc := 74) (off := 5) (by decide +kernel) (by decide) ⟨by decide, by decide⟩ (by decide) ?_
          refine gm_sz (gm_p_load (pc := 79) (i := .aload_n 0) (sr := 2) (j := 0) (by decide +kernel) rfl rfl rfl) ?_
          refine gm_sz (fw_gr (pc := 80) (ix := 14) (ci := 9) (j := 2) (r := 217) (by decide +kernel) (tE215c hE) (by decide +kernel) (by decide +kernel) (tEr hE).2.2.1) ?_
          refine gm_c_virt (k := 217) (ci := 2) (mj := 102) (ix := 75) (pc := 83) (as := []) (st := []) (d' := d - 1) (bc' := 0) (bs' := 0) (by decide +kernel) (by decide +kernel) (by decide +kernel) (by decide +kernel) (tE217c hE).1 (tE217c hE).2 (by decide) (by decide +kernel) (show 0 = gm_na 102 by decide +kernel) fw_c0 (show 1 ≤ gm_ml 102 by decide +kernel) (Nat.le_of_ble_eq_true rfl) (by omega) (Nat.zero_le _) (Nat.zero_le _) ?_
          refine tx_c102 hE ⟨by omega, by omega⟩ ?_
          show gm_Wp X LX d _ _ 79 86 _ [gm_vi (lc + 1 - 1)] n K R _ Q
          refine gm_sz (gm_p_stor (pc := 86) (i := .istore 4) (sr := 0) (j := 4) (by decide +kernel) rfl (show 5 ≤ _ from Nat.le_of_ble_eq_true rfl) rfl) ?_
          refine gm_sz (gm_p_load (pc := 88) (i := .aload_n 0) (sr := 2) (j := 0) (by decide +kernel) rfl rfl rfl) ?_
          refine gm_sz (fw_gr (pc := 89) (ix := 14) (ci := 9) (j := 2) (r := 217) (by decide +kernel) (tE215c hE) (by decide +kernel) (by decide +kernel) (tEr hE).2.2.1) ?_
          refine gm_sz (gm_p_load (pc := 92) (i := .iload 4) (sr := 0) (j := 4) (by decide +kernel) rfl rfl rfl) ?_
          refine gm_sz (gm_p_const (pc := 94) (i := .iconst 0) (v := gm_vi 0) (by decide +kernel) (by decide +kernel)) ?_
          refine gm_sz (gm_p_load (pc := 95) (i := .iload_n 1) (sr := 0) (j := 1) (by decide +kernel) rfl rfl rfl) ?_
          refine gm_c_virt (k := 217) (ci := 2) (mj := 45) (ix := 78) (pc := 96) (as := [gm_vi (lc + 1 - 1), gm_vi 0, gm_vi c2]) (st := []) (d' := d - 1) (bc' := 0) (bs' := 0) (by decide +kernel) (by decide +kernel) (by decide +kernel) (by decide +kernel) (tE217c hE).1 (tE217c hE).2 (by decide) (by decide +kernel) (show 3 = gm_na 45 by decide +kernel) (fw_c3 fw_si fw_si fw_si) (show 4 ≤ gm_ml 45 by decide +kernel) (Nat.le_of_ble_eq_true rfl) (by omega) (Nat.zero_le _) (Nat.zero_le _) ?_
          refine tx_c45 hE ⟨by omega, by omega⟩ ⟨by omega, by omega⟩ ⟨by omega, by omega⟩ ?_
          show gm_Wp X LX d _ _ 79 99 _ [] n K R _ Q
          refine gm_sz (gm_p_load (pc := 99) (i := .aload_n 0) (sr := 2) (j := 0) (by decide +kernel) rfl rfl rfl) ?_
          refine gm_sz (fw_gr (pc := 100) (ix := 14) (ci := 9) (j := 2) (r := 217) (by decide +kernel) (tE215c hE) (by decide +kernel) (by decide +kernel) (tEr hE).2.2.1) ?_
          refine gm_sz (gm_p_load (pc := 103) (i := .iload 4) (sr := 0) (j := 4) (by decide +kernel) rfl rfl rfl) ?_
          refine gm_sz (gm_p_const (pc := 105) (i := .iconst 1) (v := gm_vi 1) (by decide +kernel) (by decide +kernel)) ?_
          refine gm_sz (gm_p_load (pc := 106) (i := .iload_n 2) (sr := 0) (j := 2) (by decide +kernel) rfl rfl rfl) ?_
          refine gm_c_virt (k := 217) (ci := 2) (mj := 45) (ix := 78) (pc := 107) (as := [gm_vi (lc + 1 - 1), gm_vi 1, gm_vi (tx_v (M 2) e 3 (tx_n (M 2) e b))]) (st := []) (d' := d - 1) (bc' := 0) (bs' := 0) (by decide +kernel) (by decide +kernel) (by decide +kernel) (by decide +kernel) (tE217c hE).1 (tE217c hE).2 (by decide) (by decide +kernel) (show 3 = gm_na 45 by decide +kernel) (fw_c3 fw_si fw_si fw_si) (show 4 ≤ gm_ml 45 by decide +kernel) (Nat.le_of_ble_eq_true rfl) (by omega) (Nat.zero_le _) (Nat.zero_le _) ?_
          refine tx_c45 hE ⟨by omega, by omega⟩ ⟨by omega, by omega⟩ ⟨by omega, by omega⟩ ?_
          show gm_Wp X LX d _ _ 79 110 _ [] n K R _ Q
          refine gm_sz (gm_p_load (pc := 110) (i := .aload_n 0) (sr := 2) (j := 0) (by decide +kernel) rfl rfl rfl) ?_
          refine gm_sz (fw_gr (pc := 111) (ix := 14) (ci := 9) (j := 2) (r := 217) (by decide +kernel) (tE215c hE) (by decide +kernel) (by decide +kernel) (tEr hE).2.2.1) ?_
          refine gm_sz (gm_p_load (pc := 114) (i := .iload 4) (sr := 0) (j := 4) (by decide +kernel) rfl rfl rfl) ?_
          refine gm_sz (gm_p_const (pc := 116) (i := .iconst 2) (v := gm_vi 2) (by decide +kernel) (by decide +kernel)) ?_
          refine gm_sz (gm_p_load (pc := 117) (i := .iload_n 3) (sr := 0) (j := 3) (by decide +kernel) rfl rfl rfl) ?_
          refine gm_c_virt (k := 217) (ci := 2) (mj := 45) (ix := 78) (pc := 118) (as := [gm_vi (lc + 1 - 1), gm_vi 2, gm_vi us]) (st := []) (d' := d - 1) (bc' := 0) (bs' := 0) (by decide +kernel) (by decide +kernel) (by decide +kernel) (by decide +kernel) (tE217c hE).1 (tE217c hE).2 (by decide) (by decide +kernel) (show 3 = gm_na 45 by decide +kernel) (fw_c3 fw_si fw_si fw_si) (show 4 ≤ gm_ml 45 by decide +kernel) (Nat.le_of_ble_eq_true rfl) (by omega) (Nat.zero_le _) (Nat.zero_le _) ?_
          refine tx_c45 hE ⟨by omega, by omega⟩ ⟨by omega, by omega⟩ ⟨by omega, by omega⟩ ?_
          show gm_Wp X LX d _ _ 79 121 _ [] n K R _ Q
          refine gm_sz (gm_p_load (pc := 121) (i := .aload_n 0) (sr := 2) (j := 0) (by decide +kernel) rfl rfl rfl) ?_
          refine gm_sz (fw_gr (pc := 122) (ix := 14) (ci := 9) (j := 2) (r := 217) (by decide +kernel) (tE215c hE) (by decide +kernel) (by decide +kernel) (tEr hE).2.2.1) ?_
          refine gm_sz (gm_p_load (pc := 125) (i := .iload 4) (sr := 0) (j := 4) (by decide +kernel) rfl rfl rfl) ?_
          refine gm_sz (gm_p_const (pc := 127) (i := .iconst 3) (v := gm_vi 3) (by decide +kernel) (by decide +kernel)) ?_
          refine gm_sz (gm_p_load (pc := 128) (i := .aload_n 0) (sr := 2) (j := 0) (by decide +kernel) rfl rfl rfl) ?_
          refine gm_sz (fw_gi (pc := 129) (ix := 24) (ci := 9) (j := 4) (x := u14) (by decide +kernel) (tE215c hE) (by decide +kernel) (by decide +kernel) rfl) ?_
          refine gm_c_virt (k := 217) (ci := 2) (mj := 45) (ix := 78) (pc := 132) (as := [gm_vi (lc + 1 - 1), gm_vi 3, gm_vi u14]) (st := []) (d' := d - 1) (bc' := 0) (bs' := 0) (by decide +kernel) (by decide +kernel) (by decide +kernel) (by decide +kernel) (tE217c hE).1 (tE217c hE).2 (by decide) (by decide +kernel) (show 3 = gm_na 45 by decide +kernel) (fw_c3 fw_si fw_si fw_si) (show 4 ≤ gm_ml 45 by decide +kernel) (Nat.le_of_ble_eq_true rfl) (by omega) (Nat.zero_le _) (Nat.zero_le _) ?_
          refine tx_c45 hE ⟨by omega, by omega⟩ ⟨by omega, by omega⟩ ⟨by omega, by omega⟩ ?_
          show gm_Wp X LX d _ _ 79 135 _ [] n K R _ Q
          refine gm_sz (gm_p_const (pc := 135) (i := .iconst 1) (v := gm_vi 1) (by decide +kernel) (by decide +kernel)) ?_
          rw [g_n2 j1 j7, g_f1 j12] at h1
          refine gm_r_int (pc := 136) (by decide +kernel) (Or.inr ⟨(by decide +kernel), Or.inr rfl⟩) (h1 _ _ _ ⟨⟨k16.1.1, by omega⟩, fun j g1 g2 => ?_, k16.2.2⟩ j17)
          have q0 := k16.2.1 j g1 g2
          have q1 := k16.1.1
          show 0 ≤ (if _ then _ else if _ then _ else if _ then _ else if _ then _ else D j) ∧ (if _ then _ else if _ then _ else if _ then _ else if _ then _ else D j) ≤ 400
          repeat' split
          all_goals omega
        · show gm_Wp X LX d _ _ 79 74 _ [gm_vi 0] n K R _ Q
          have j17 : ¬ (g_cd (M 2) e 6 (tx_n (M 2) e (tx_n (M 2) e (tx_n (M 2) e b)))).1 = true := j17
          have g18 : 0 ≤ (g_cd (M 2) e 6 (tx_n (M 2) e (tx_n (M 2) e (tx_n (M 2) e b)))).2 ∧ (g_cd (M 2) e 6 (tx_n (M 2) e (tx_n (M 2) e (tx_n (M 2) e b)))).2 ≤ e := by have := g_cd_in (f := M 2) 6 (tx_n (M 2) e (tx_n (M 2) e (tx_n (M 2) e b))) g13.1 g13.2; have := g13.1; omega
          refine fw_iffd (cc := .ne) (pc := 74) (off := 5) (by decide +kernel) (by decide) ⟨by decide, by decide⟩ (by decide) ?_
          refine gm_sz (gm_p_const (pc := 77) (i := .iconst 0) (v := gm_vi 0) (by decide +kernel) (by decide +kernel)) ?_
          rw [g_n2 j1 j7, g_f1 j12] at h0
          exact gm_r_int (pc := 78) (by decide +kernel) (Or.inr ⟨(by decide +kernel), Or.inl rfl⟩) (h0 _ _ _ k16 j17)
      · show gm_Wp X LX d _ _ 79 66 _ [gm_vi 0] n K R _ Q
        have j12 : ¬ tx_is (M 2) e (tx_n (M 2) e (tx_n (M 2) e b)) wo_if := j12
        refine fw_iftd (cc := .eq) (pc := 66) (off := 13) (by decide +kernel) (by decide) ⟨by decide, by decide⟩ (by decide) ?_
        refine gm_sz (gm_p_load (pc := 79) (i := .aload_n 0) (sr := 2) (j := 0) (by decide +kernel) rfl rfl rfl) ?_
        refine gm_sz (fw_gr (pc := 80) (ix := 14) (ci := 9) (j := 2) (r := 217) (by decide +kernel) (tE215c hE) (by decide +kernel) (by decide +kernel) (tEr hE).2.2.1) ?_
        refine gm_c_virt (k := 217) (ci := 2) (mj := 102) (ix := 75) (pc := 83) (as := []) (st := []) (d' := d - 1) (bc' := 0) (bs' := 0) (by decide +kernel) (by decide +kernel) (by decide +kernel) (by decide +kernel) (tE217c hE).1 (tE217c hE).2 (by decide) (by decide +kernel) (show 0 = gm_na 102 by decide +kernel) fw_c0 (show 1 ≤ gm_ml 102 by decide +kernel) (Nat.le_of_ble_eq_true rfl) (by omega) (Nat.zero_le _) (Nat.zero_le _) ?_
        refine tx_c102 hE ⟨by omega, by omega⟩ ?_
        show gm_Wp X LX d _ _ 79 86 _ [gm_vi (lc + 1 - 1)] n K R _ Q
        refine gm_sz (gm_p_stor (pc := 86) (i := .istore 4) (sr := 0) (j := 4) (by decide +kernel) rfl (show 5 ≤ _ from Nat.le_of_ble_eq_true rfl) rfl) ?_
        refine gm_sz (gm_p_load (pc := 88) (i := .aload_n 0) (sr := 2) (j := 0) (by decide +kernel) rfl rfl rfl) ?_
        refine gm_sz (fw_gr (pc := 89) (ix := 14) (ci := 9) (j := 2) (r := 217) (by decide +kernel) (tE215c hE) (by decide +kernel) (by decide +kernel) (tEr hE).2.2.1) ?_
        refine gm_sz (gm_p_load (pc := 92) (i := .iload 4) (sr := 0) (j := 4) (by decide +kernel) rfl rfl rfl) ?_
        refine gm_sz (gm_p_const (pc := 94) (i := .iconst 0) (v := gm_vi 0) (by decide +kernel) (by decide +kernel)) ?_
        refine gm_sz (gm_p_load (pc := 95) (i := .iload_n 1) (sr := 0) (j := 1) (by decide +kernel) rfl rfl rfl) ?_
        refine gm_c_virt (k := 217) (ci := 2) (mj := 45) (ix := 78) (pc := 96) (as := [gm_vi (lc + 1 - 1), gm_vi 0, gm_vi c2]) (st := []) (d' := d - 1) (bc' := 0) (bs' := 0) (by decide +kernel) (by decide +kernel) (by decide +kernel) (by decide +kernel) (tE217c hE).1 (tE217c hE).2 (by decide) (by decide +kernel) (show 3 = gm_na 45 by decide +kernel) (fw_c3 fw_si fw_si fw_si) (show 4 ≤ gm_ml 45 by decide +kernel) (Nat.le_of_ble_eq_true rfl) (by omega) (Nat.zero_le _) (Nat.zero_le _) ?_
        refine tx_c45 hE ⟨by omega, by omega⟩ ⟨by omega, by omega⟩ ⟨by omega, by omega⟩ ?_
        show gm_Wp X LX d _ _ 79 99 _ [] n K R _ Q
        refine gm_sz (gm_p_load (pc := 99) (i := .aload_n 0) (sr := 2) (j := 0) (by decide +kernel) rfl rfl rfl) ?_
        refine gm_sz (fw_gr (pc := 100) (ix := 14) (ci := 9) (j := 2) (r := 217) (by decide +kernel) (tE215c hE) (by decide +kernel) (by decide +kernel) (tEr hE).2.2.1) ?_
        refine gm_sz (gm_p_load (pc := 103) (i := .iload 4) (sr := 0) (j := 4) (by decide +kernel) rfl rfl rfl) ?_
        refine gm_sz (gm_p_const (pc := 105) (i := .iconst 1) (v := gm_vi 1) (by decide +kernel) (by decide +kernel)) ?_
        refine gm_sz (gm_p_load (pc := 106) (i := .iload_n 2) (sr := 0) (j := 2) (by decide +kernel) rfl rfl rfl) ?_
        refine gm_c_virt (k := 217) (ci := 2) (mj := 45) (ix := 78) (pc := 107) (as := [gm_vi (lc + 1 - 1), gm_vi 1, gm_vi (tx_v (M 2) e 3 (tx_n (M 2) e b))]) (st := []) (d' := d - 1) (bc' := 0) (bs' := 0) (by decide +kernel) (by decide +kernel) (by decide +kernel) (by decide +kernel) (tE217c hE).1 (tE217c hE).2 (by decide) (by decide +kernel) (show 3 = gm_na 45 by decide +kernel) (fw_c3 fw_si fw_si fw_si) (show 4 ≤ gm_ml 45 by decide +kernel) (Nat.le_of_ble_eq_true rfl) (by omega) (Nat.zero_le _) (Nat.zero_le _) ?_
        refine tx_c45 hE ⟨by omega, by omega⟩ ⟨by omega, by omega⟩ ⟨by omega, by omega⟩ ?_
        show gm_Wp X LX d _ _ 79 110 _ [] n K R _ Q
        refine gm_sz (gm_p_load (pc := 110) (i := .aload_n 0) (sr := 2) (j := 0) (by decide +kernel) rfl rfl rfl) ?_
        refine gm_sz (fw_gr (pc := 111) (ix := 14) (ci := 9) (j := 2) (r := 217) (by decide +kernel) (tE215c hE) (by decide +kernel) (by decide +kernel) (tEr hE).2.2.1) ?_
        refine gm_sz (gm_p_load (pc := 114) (i := .iload 4) (sr := 0) (j := 4) (by decide +kernel) rfl rfl rfl) ?_
        refine gm_sz (gm_p_const (pc := 116) (i := .iconst 2) (v := gm_vi 2) (by decide +kernel) (by decide +kernel)) ?_
        refine gm_sz (gm_p_load (pc := 117) (i := .iload_n 3) (sr := 0) (j := 3) (by decide +kernel) rfl rfl rfl) ?_
        refine gm_c_virt (k := 217) (ci := 2) (mj := 45) (ix := 78) (pc := 118) (as := [gm_vi (lc + 1 - 1), gm_vi 2, gm_vi us]) (st := []) (d' := d - 1) (bc' := 0) (bs' := 0) (by decide +kernel) (by decide +kernel) (by decide +kernel) (by decide +kernel) (tE217c hE).1 (tE217c hE).2 (by decide) (by decide +kernel) (show 3 = gm_na 45 by decide +kernel) (fw_c3 fw_si fw_si fw_si) (show 4 ≤ gm_ml 45 by decide +kernel) (Nat.le_of_ble_eq_true rfl) (by omega) (Nat.zero_le _) (Nat.zero_le _) ?_
        refine tx_c45 hE ⟨by omega, by omega⟩ ⟨by omega, by omega⟩ ⟨by omega, by omega⟩ ?_
        show gm_Wp X LX d _ _ 79 121 _ [] n K R _ Q
        refine gm_sz (gm_p_load (pc := 121) (i := .aload_n 0) (sr := 2) (j := 0) (by decide +kernel) rfl rfl rfl) ?_
        refine gm_sz (fw_gr (pc := 122) (ix := 14) (ci := 9) (j := 2) (r := 217) (by decide +kernel) (tE215c hE) (by decide +kernel) (by decide +kernel) (tEr hE).2.2.1) ?_
        refine gm_sz (gm_p_load (pc := 125) (i := .iload 4) (sr := 0) (j := 4) (by decide +kernel) rfl rfl rfl) ?_
        refine gm_sz (gm_p_const (pc := 127) (i := .iconst 3) (v := gm_vi 3) (by decide +kernel) (by decide +kernel)) ?_
        refine gm_sz (gm_p_load (pc := 128) (i := .aload_n 0) (sr := 2) (j := 0) (by decide +kernel) rfl rfl rfl) ?_
        refine gm_sz (fw_gi (pc := 129) (ix := 24) (ci := 9) (j := 4) (x := us) (by decide +kernel) (tE215c hE) (by decide +kernel) (by decide +kernel) rfl) ?_
        refine gm_c_virt (k := 217) (ci := 2) (mj := 45) (ix := 78) (pc := 132) (as := [gm_vi (lc + 1 - 1), gm_vi 3, gm_vi us]) (st := []) (d' := d - 1) (bc' := 0) (bs' := 0) (by decide +kernel) (by decide +kernel) (by decide +kernel) (by decide +kernel) (tE217c hE).1 (tE217c hE).2 (by decide) (by decide +kernel) (show 3 = gm_na 45 by decide +kernel) (fw_c3 fw_si fw_si fw_si) (show 4 ≤ gm_ml 45 by decide +kernel) (Nat.le_of_ble_eq_true rfl) (by omega) (Nat.zero_le _) (Nat.zero_le _) ?_
        refine tx_c45 hE ⟨by omega, by omega⟩ ⟨by omega, by omega⟩ ⟨by omega, by omega⟩ ?_
        show gm_Wp X LX d _ _ 79 135 _ [] n K R _ Q
        refine gm_sz (gm_p_const (pc := 135) (i := .iconst 1) (v := gm_vi 1) (by decide +kernel) (by decide +kernel)) ?_
        rw [g_n2 j1 j7, g_f0 j12] at h1
        refine gm_r_int (pc := 136) (by decide +kernel) (Or.inr ⟨(by decide +kernel), Or.inr rfl⟩) (h1 _ _ _ ⟨⟨hok.1.1, by omega⟩, fun j g1 g2 => ?_, hok.2.2⟩ rfl)
        have q0 := hok.2.1 j g1 g2
        have q1 := hok.1.1
        show 0 ≤ (if _ then _ else if _ then _ else if _ then _ else if _ then _ else D j) ∧ (if _ then _ else if _ then _ else if _ then _ else if _ then _ else D j) ≤ 400
        repeat' split
        all_goals omega
    · show gm_Wp X LX d _ _ 79 44 _ [gm_vi (-1)] n K R _ Q
      have j7 : ¬ (tx_k (M 2) e (tx_n (M 2) e b) = 258 ∧ 0 ≤ tx_v (M 2) e 3 (tx_n (M 2) e b) ∧ tx_v (M 2) e 3 (tx_n (M 2) e b) ≤ 20) := j7
      refine gm_sz (gm_p_stor (pc := 44) (i := .istore_n 2) (sr := 0) (j := 2) (by decide +kernel) rfl (show 3 ≤ _ from Nat.le_of_ble_eq_true rfl) rfl) ?_
      refine gm_sz (gm_p_load (pc := 45) (i := .iload_n 2) (sr := 0) (j := 2) (by decide +kernel) rfl rfl rfl) ?_
      refine gm_sz (gm_p_const (pc := 46) (i := .iconst (-1)) (v := gm_vi (-1)) (by decide +kernel) (by decide +kernel)) ?_
      refine fw_icfd (cc := .ne) (pc := 47) (off := 5) (by decide +kernel) (by decide) ⟨by decide, by decide⟩ ⟨by decide, by decide⟩ (by decide) ?_
      refine gm_sz (gm_p_const (pc := 50) (i := .iconst 0) (v := gm_vi 0) (by decide +kernel) (by decide +kernel)) ?_
      rw [g_n3 j1 j7] at h0
      exact gm_r_int (pc := 51) (by decide +kernel) (Or.inr ⟨(by decide +kernel), Or.inl rfl⟩) (h0 _ _ _ hok (fun h => by cases h))
  · show gm_Wp X LX d _ _ 79 4 _ [gm_vi 2] n K R _ Q
    have j1 : tx_is (M 2) e b wo_open := j1
    refine gm_sz (gm_p_stor (pc := 4) (i := .istore_n 1) (sr := 0) (j := 1) (by decide +kernel) rfl (show 2 ≤ _ from Nat.le_of_ble_eq_true rfl) rfl) ?_
    refine gm_sz (gm_p_load (pc := 5) (i := .iload_n 1) (sr := 0) (j := 1) (by decide +kernel) rfl rfl rfl) ?_
    refine gm_sz (gm_p_const (pc := 6) (i := .iconst (-1)) (v := gm_vi (-1)) (by decide +kernel) (by decide +kernel)) ?_
    refine fw_ictd (cc := .ne) (pc := 7) (off := 11) (by decide +kernel) (by decide) ⟨by decide, by decide⟩ ⟨by decide, by decide⟩ (by decide) ?_
    refine gm_sz (gm_p_load (pc := 18) (i := .aload_n 0) (sr := 2) (j := 0) (by decide +kernel) rfl rfl rfl) ?_
    refine gm_sz (fw_gr (pc := 19) (ix := 47) (ci := 9) (j := 0) (r := 216) (by decide +kernel) (tE215c hE) (by decide +kernel) (by decide +kernel) (tEr hE).2.1) ?_
    refine gm_c_virt (k := 216) (ci := 8) (mj := 76) (ix := 57) (pc := 22) (as := []) (st := []) (d' := d - 1) (bc' := 0) (bs' := 0) (by decide +kernel) (by decide +kernel) (by decide +kernel) (by decide +kernel) (tE216c hE).1 (tE216c hE).2 (by decide) (by decide +kernel) (show 0 = gm_na 76 by decide +kernel) fw_c0 (show 1 ≤ gm_ml 76 by decide +kernel) (Nat.le_of_ble_eq_true rfl) (by omega) (Nat.zero_le _) (Nat.zero_le _) ?_
    refine tx_c76 (by omega) hE hb ?_
    show gm_Wp X LX d _ _ 79 25 _ [] n K R _ Q
    have g19 : 0 ≤ tx_n (M 2) e b ∧ tx_n (M 2) e b ≤ e := by have := tx_nb (f := M 2) (b := b) hb.2; omega
    refine gm_sz (gm_p_load (pc := 25) (i := .iload_n 1) (sr := 0) (j := 1) (by decide +kernel) rfl rfl rfl) ?_
    refine gm_sz (gm_p_const (pc := 26) (i := .iconst 2) (v := gm_vi 2) (by decide +kernel) (by decide +kernel)) ?_
    refine fw_icfd (cc := .ne) (pc := 27) (off := 7) (by decide +kernel) (by decide) ⟨by decide, by decide⟩ ⟨by decide, by decide⟩ (by decide) ?_
    refine gm_sz (gm_p_const (pc := 30) (i := .iconst 0) (v := gm_vi 0) (by decide +kernel) (by decide +kernel)) ?_
    refine gm_sz (gm_p_goto (pc := 31) (off := 13) (by decide +kernel) (by decide)) ?_
    refine gm_sz (gm_p_stor (pc := 44) (i := .istore_n 2) (sr := 0) (j := 2) (by decide +kernel) rfl (show 3 ≤ _ from Nat.le_of_ble_eq_true rfl) rfl) ?_
    refine gm_sz (gm_p_load (pc := 45) (i := .iload_n 2) (sr := 0) (j := 2) (by decide +kernel) rfl rfl rfl) ?_
    refine gm_sz (gm_p_const (pc := 46) (i := .iconst (-1)) (v := gm_vi (-1)) (by decide +kernel) (by decide +kernel)) ?_
    refine fw_ictd (cc := .ne) (pc := 47) (off := 5) (by decide +kernel) (by decide) ⟨by decide, by decide⟩ ⟨by decide, by decide⟩ (by decide) ?_
    refine gm_sz (gm_p_load (pc := 52) (i := .aload_n 0) (sr := 2) (j := 0) (by decide +kernel) rfl rfl rfl) ?_
    refine gm_sz (fw_gi (pc := 53) (ix := 24) (ci := 9) (j := 4) (x := us) (by decide +kernel) (tE215c hE) (by decide +kernel) (by decide +kernel) rfl) ?_
    refine gm_sz (gm_p_stor (pc := 56) (i := .istore_n 3) (sr := 0) (j := 3) (by decide +kernel) rfl (show 4 ≤ _ from Nat.le_of_ble_eq_true rfl) rfl) ?_
    refine gm_sz (gm_p_load (pc := 57) (i := .aload_n 0) (sr := 2) (j := 0) (by decide +kernel) rfl rfl rfl) ?_
    refine gm_sz (fw_gr (pc := 58) (ix := 47) (ci := 9) (j := 0) (r := 216) (by decide +kernel) (tE215c hE) (by decide +kernel) (by decide +kernel) (tEr hE).2.1) ?_
    refine gm_sz (gm_p_ldcs (pc := 61) (i := .ldc 65) (ix := 65) (id := 3) (by decide +kernel) (Or.inl rfl) (by decide +kernel)) ?_
    refine gm_c_virt (k := 216) (ci := 8) (mj := 95) (ix := 67) (pc := 63) (as := [gm_vo 3]) (st := []) (d' := d - 1) (bc' := 0) (bs' := 0) (by decide +kernel) (by decide +kernel) (by decide +kernel) (by decide +kernel) (tE216c hE).1 (tE216c hE).2 (by decide) (by decide +kernel) (show 1 = gm_na 95 by decide +kernel) (fw_c1 fw_so) (show 2 ≤ gm_ml 95 by decide +kernel) (Nat.le_of_ble_eq_true rfl) (by omega) (Nat.zero_le _) (Nat.zero_le _) ?_
    refine tx_c95 (by omega) hE (by decide) (show tx_o 3 = wo_if by decide +kernel) g19 (fun j20 => ?_) (fun j20 => ?_)
    · show gm_Wp X LX d _ _ 79 66 _ [gm_vi 1] n K R _ Q
      have j20 : tx_is (M 2) e (tx_n (M 2) e b) wo_if := j20
      have g21 : 0 ≤ tx_n (M 2) e (tx_n (M 2) e b) ∧ tx_n (M 2) e (tx_n (M 2) e b) ≤ e := by have := tx_nb (f := M 2) (b := tx_n (M 2) e b) g19.2; omega
      refine fw_iffd (cc := .eq) (pc := 66) (off := 13) (by decide +kernel) (by decide) ⟨by decide, by decide⟩ (by decide) ?_
      refine gm_sz (gm_p_load (pc := 69) (i := .aload_n 0) (sr := 2) (j := 0) (by decide +kernel) rfl rfl rfl) ?_
      refine gm_sz (gm_p_const (pc := 70) (i := .iconst 0) (v := gm_vi 0) (by decide +kernel) (by decide +kernel)) ?_
      refine gm_c_virt (k := 215) (ci := 9) (mj := 96) (ix := 71) (pc := 71) (as := [gm_vi 0]) (st := []) (d' := d - 1) (bc' := 0) (bs' := 0) (by decide +kernel) (by decide +kernel) (by decide +kernel) (by decide +kernel) (tE215c hE).1 (tE215c hE).2 (by decide) (by decide +kernel) (show 1 = gm_na 96 by decide +kernel) (fw_c1 fw_si) (show 2 ≤ gm_ml 96 by decide +kernel) (Nat.le_of_ble_eq_true rfl) (by omega) (Nat.zero_le _) (Nat.zero_le _) ?_
      refine tx_cd hE _ _ _ _ _ _ _ (by omega) g21 hok (fun u22 C23 k24 j25 => ?_) (fun u22 C23 k24 j25 => ?_)
      · show gm_Wp X LX d _ _ 79 74 _ [gm_vi 1] n K R _ Q
        have j25 : (g_cd (M 2) e 6 (tx_n (M 2) e (tx_n (M 2) e b))).1 = true := j25
        have g26 : 0 ≤ (g_cd (M 2) e 6 (tx_n (M 2) e (tx_n (M 2) e b))).2 ∧ (g_cd (M 2) e 6 (tx_n (M 2) e (tx_n (M 2) e b))).2 ≤ e := by have := g_cd_in (f := M 2) 6 (tx_n (M 2) e (tx_n (M 2) e b)) g21.1 g21.2; have := g21.1; omega
        refine fw_iftd (cc := .ne) (pc := 74) (off := 5) (by decide +kernel) (by decide) ⟨by decide, by decide⟩ (by decide) ?_
        refine gm_sz (gm_p_load (pc := 79) (i := .aload_n 0) (sr := 2) (j := 0) (by decide +kernel) rfl rfl rfl) ?_
        refine gm_sz (fw_gr (pc := 80) (ix := 14) (ci := 9) (j := 2) (r := 217) (by decide +kernel) (tE215c hE) (by decide +kernel) (by decide +kernel) (tEr hE).2.2.1) ?_
        refine gm_c_virt (k := 217) (ci := 2) (mj := 102) (ix := 75) (pc := 83) (as := []) (st := []) (d' := d - 1) (bc' := 0) (bs' := 0) (by decide +kernel) (by decide +kernel) (by decide +kernel) (by decide +kernel) (tE217c hE).1 (tE217c hE).2 (by decide) (by decide +kernel) (show 0 = gm_na 102 by decide +kernel) fw_c0 (show 1 ≤ gm_ml 102 by decide +kernel) (Nat.le_of_ble_eq_true rfl) (by omega) (Nat.zero_le _) (Nat.zero_le _) ?_
        refine tx_c102 hE ⟨by omega, by omega⟩ ?_
        show gm_Wp X LX d _ _ 79 86 _ [gm_vi (lc + 1 - 1)] n K R _ Q
        refine gm_sz (gm_p_stor (pc := 86) (i := .istore 4) (sr := 0) (j := 4) (by decide +kernel) rfl (show 5 ≤ _ from Nat.le_of_ble_eq_true rfl) rfl) ?_
        refine gm_sz (gm_p_load (pc := 88) (i := .aload_n 0) (sr := 2) (j := 0) (by decide +kernel) rfl rfl rfl) ?_
        refine gm_sz (fw_gr (pc := 89) (ix := 14) (ci := 9) (j := 2) (r := 217) (by decide +kernel) (tE215c hE) (by decide +kernel) (by decide +kernel) (tEr hE).2.2.1) ?_
        refine gm_sz (gm_p_load (pc := 92) (i := .iload 4) (sr := 0) (j := 4) (by decide +kernel) rfl rfl rfl) ?_
        refine gm_sz (gm_p_const (pc := 94) (i := .iconst 0) (v := gm_vi 0) (by decide +kernel) (by decide +kernel)) ?_
        refine gm_sz (gm_p_load (pc := 95) (i := .iload_n 1) (sr := 0) (j := 1) (by decide +kernel) rfl rfl rfl) ?_
        refine gm_c_virt (k := 217) (ci := 2) (mj := 45) (ix := 78) (pc := 96) (as := [gm_vi (lc + 1 - 1), gm_vi 0, gm_vi 2]) (st := []) (d' := d - 1) (bc' := 0) (bs' := 0) (by decide +kernel) (by decide +kernel) (by decide +kernel) (by decide +kernel) (tE217c hE).1 (tE217c hE).2 (by decide) (by decide +kernel) (show 3 = gm_na 45 by decide +kernel) (fw_c3 fw_si fw_si fw_si) (show 4 ≤ gm_ml 45 by decide +kernel) (Nat.le_of_ble_eq_true rfl) (by omega) (Nat.zero_le _) (Nat.zero_le _) ?_
        refine tx_c45 hE ⟨by omega, by omega⟩ ⟨by omega, by omega⟩ ⟨by omega, by omega⟩ ?_
        show gm_Wp X LX d _ _ 79 99 _ [] n K R _ Q
        refine gm_sz (gm_p_load (pc := 99) (i := .aload_n 0) (sr := 2) (j := 0) (by decide +kernel) rfl rfl rfl) ?_
        refine gm_sz (fw_gr (pc := 100) (ix := 14) (ci := 9) (j := 2) (r := 217) (by decide +kernel) (tE215c hE) (by decide +kernel) (by decide +kernel) (tEr hE).2.2.1) ?_
        refine gm_sz (gm_p_load (pc := 103) (i := .iload 4) (sr := 0) (j := 4) (by decide +kernel) rfl rfl rfl) ?_
        refine gm_sz (gm_p_const (pc := 105) (i := .iconst 1) (v := gm_vi 1) (by decide +kernel) (by decide +kernel)) ?_
        refine gm_sz (gm_p_load (pc := 106) (i := .iload_n 2) (sr := 0) (j := 2) (by decide +kernel) rfl rfl rfl) ?_
        refine gm_c_virt (k := 217) (ci := 2) (mj := 45) (ix := 78) (pc := 107) (as := [gm_vi (lc + 1 - 1), gm_vi 1, gm_vi 0]) (st := []) (d' := d - 1) (bc' := 0) (bs' := 0) (by decide +kernel) (by decide +kernel) (by decide +kernel) (by decide +kernel) (tE217c hE).1 (tE217c hE).2 (by decide) (by decide +kernel) (show 3 = gm_na 45 by decide +kernel) (fw_c3 fw_si fw_si fw_si) (show 4 ≤ gm_ml 45 by decide +kernel) (Nat.le_of_ble_eq_true rfl) (by omega) (Nat.zero_le _) (Nat.zero_le _) ?_
        refine tx_c45 hE ⟨by omega, by omega⟩ ⟨by omega, by omega⟩ ⟨by omega, by omega⟩ ?_
        show gm_Wp X LX d _ _ 79 110 _ [] n K R _ Q
        refine gm_sz (gm_p_load (pc := 110) (i := .aload_n 0) (sr := 2) (j := 0) (by decide +kernel) rfl rfl rfl) ?_
        refine gm_sz (fw_gr (pc := 111) (ix := 14) (ci := 9) (j := 2) (r := 217) (by decide +kernel) (tE215c hE) (by decide +kernel) (by decide +kernel) (tEr hE).2.2.1) ?_
        refine gm_sz (gm_p_load (pc := 114) (i := .iload 4) (sr := 0) (j := 4) (by decide +kernel) rfl rfl rfl) ?_
        refine gm_sz (gm_p_const (pc := 116) (i := .iconst 2) (v := gm_vi 2) (by decide +kernel) (by decide +kernel)) ?_
        refine gm_sz (gm_p_load (pc := 117) (i := .iload_n 3) (sr := 0) (j := 3) (by decide +kernel) rfl rfl rfl) ?_
        refine gm_c_virt (k := 217) (ci := 2) (mj := 45) (ix := 78) (pc := 118) (as := [gm_vi (lc + 1 - 1), gm_vi 2, gm_vi us]) (st := []) (d' := d - 1) (bc' := 0) (bs' := 0) (by decide +kernel) (by decide +kernel) (by decide +kernel) (by decide +kernel) (tE217c hE).1 (tE217c hE).2 (by decide) (by decide +kernel) (show 3 = gm_na 45 by decide +kernel) (fw_c3 fw_si fw_si fw_si) (show 4 ≤ gm_ml 45 by decide +kernel) (Nat.le_of_ble_eq_true rfl) (by omega) (Nat.zero_le _) (Nat.zero_le _) ?_
        refine tx_c45 hE ⟨by omega, by omega⟩ ⟨by omega, by omega⟩ ⟨by omega, by omega⟩ ?_
        show gm_Wp X LX d _ _ 79 121 _ [] n K R _ Q
        refine gm_sz (gm_p_load (pc := 121) (i := .aload_n 0) (sr := 2) (j := 0) (by decide +kernel) rfl rfl rfl) ?_
        refine gm_sz (fw_gr (pc := 122) (ix := 14) (ci := 9) (j := 2) (r := 217) (by decide +kernel) (tE215c hE) (by decide +kernel) (by decide +kernel) (tEr hE).2.2.1) ?_
        refine gm_sz (gm_p_load (pc := 125) (i := .iload 4) (sr := 0) (j := 4) (by decide +kernel) rfl rfl rfl) ?_
        refine gm_sz (gm_p_const (pc := 127) (i := .iconst 3) (v := gm_vi 3) (by decide +kernel) (by decide +kernel)) ?_
        refine gm_sz (gm_p_load (pc := 128) (i := .aload_n 0) (sr := 2) (j := 0) (by decide +kernel) rfl rfl rfl) ?_
        refine gm_sz (fw_gi (pc := 129) (ix := 24) (ci := 9) (j := 4) (x := u22) (by decide +kernel) (tE215c hE) (by decide +kernel) (by decide +kernel) rfl) ?_
        refine gm_c_virt (k := 217) (ci := 2) (mj := 45) (ix := 78) (pc := 132) (as := [gm_vi (lc + 1 - 1), gm_vi 3, gm_vi u22]) (st := []) (d' := d - 1) (bc' := 0) (bs' := 0) (by decide +kernel) (by decide +kernel) (by decide +kernel) (by decide +kernel) (tE217c hE).1 (tE217c hE).2 (by decide) (by decide +kernel) (show 3 = gm_na 45 by decide +kernel) (fw_c3 fw_si fw_si fw_si) (show 4 ≤ gm_ml 45 by decide +kernel) (Nat.le_of_ble_eq_true rfl) (by omega) (Nat.zero_le _) (Nat.zero_le _) ?_
        refine tx_c45 hE ⟨by omega, by omega⟩ ⟨by omega, by omega⟩ ⟨by omega, by omega⟩ ?_
        show gm_Wp X LX d _ _ 79 135 _ [] n K R _ Q
        refine gm_sz (gm_p_const (pc := 135) (i := .iconst 1) (v := gm_vi 1) (by decide +kernel) (by decide +kernel)) ?_
        rw [g_n1 j1, g_f1 j20] at h1
        refine gm_r_int (pc := 136) (by decide +kernel) (Or.inr ⟨(by decide +kernel), Or.inr rfl⟩) (h1 _ _ _ ⟨⟨k24.1.1, by omega⟩, fun j g1 g2 => ?_, k24.2.2⟩ j25)
        have q0 := k24.2.1 j g1 g2
        have q1 := k24.1.1
        show 0 ≤ (if _ then _ else if _ then _ else if _ then _ else if _ then _ else D j) ∧ (if _ then _ else if _ then _ else if _ then _ else if _ then _ else D j) ≤ 400
        repeat' split
        all_goals omega
      · show gm_Wp X LX d _ _ 79 74 _ [gm_vi 0] n K R _ Q
        have j25 : ¬ (g_cd (M 2) e 6 (tx_n (M 2) e (tx_n (M 2) e b))).1 = true := j25
        have g26 : 0 ≤ (g_cd (M 2) e 6 (tx_n (M 2) e (tx_n (M 2) e b))).2 ∧ (g_cd (M 2) e 6 (tx_n (M 2) e (tx_n (M 2) e b))).2 ≤ e := by have := g_cd_in (f := M 2) 6 (tx_n (M 2) e (tx_n (M 2) e b)) g21.1 g21.2; have := g21.1; omega
        refine fw_iffd (cc := .ne) (pc := 74) (off := 5) (by decide +kernel) (by decide) ⟨by decide, by decide⟩ (by decide) ?_
        refine gm_sz (gm_p_const (pc := 77) (i := .iconst 0) (v := gm_vi 0) (by decide +kernel) (by decide +kernel)) ?_
        rw [g_n1 j1, g_f1 j20] at h0
        exact gm_r_int (pc := 78) (by decide +kernel) (Or.inr ⟨(by decide +kernel), Or.inl rfl⟩) (h0 _ _ _ k24 j25)
    · show gm_Wp X LX d _ _ 79 66 _ [gm_vi 0] n K R _ Q
      have j20 : ¬ tx_is (M 2) e (tx_n (M 2) e b) wo_if := j20
      refine fw_iftd (cc := .eq) (pc := 66) (off := 13) (by decide +kernel) (by decide) ⟨by decide, by decide⟩ (by decide) ?_
      refine gm_sz (gm_p_load (pc := 79) (i := .aload_n 0) (sr := 2) (j := 0) (by decide +kernel) rfl rfl rfl) ?_
      refine gm_sz (fw_gr (pc := 80) (ix := 14) (ci := 9) (j := 2) (r := 217) (by decide +kernel) (tE215c hE) (by decide +kernel) (by decide +kernel) (tEr hE).2.2.1) ?_
      refine gm_c_virt (k := 217) (ci := 2) (mj := 102) (ix := 75) (pc := 83) (as := []) (st := []) (d' := d - 1) (bc' := 0) (bs' := 0) (by decide +kernel) (by decide +kernel) (by decide +kernel) (by decide +kernel) (tE217c hE).1 (tE217c hE).2 (by decide) (by decide +kernel) (show 0 = gm_na 102 by decide +kernel) fw_c0 (show 1 ≤ gm_ml 102 by decide +kernel) (Nat.le_of_ble_eq_true rfl) (by omega) (Nat.zero_le _) (Nat.zero_le _) ?_
      refine tx_c102 hE ⟨by omega, by omega⟩ ?_
      show gm_Wp X LX d _ _ 79 86 _ [gm_vi (lc + 1 - 1)] n K R _ Q
      refine gm_sz (gm_p_stor (pc := 86) (i := .istore 4) (sr := 0) (j := 4) (by decide +kernel) rfl (show 5 ≤ _ from Nat.le_of_ble_eq_true rfl) rfl) ?_
      refine gm_sz (gm_p_load (pc := 88) (i := .aload_n 0) (sr := 2) (j := 0) (by decide +kernel) rfl rfl rfl) ?_
      refine gm_sz (fw_gr (pc := 89) (ix := 14) (ci := 9) (j := 2) (r := 217) (by decide +kernel) (tE215c hE) (by decide +kernel) (by decide +kernel) (tEr hE).2.2.1) ?_
      refine gm_sz (gm_p_load (pc := 92) (i := .iload 4) (sr := 0) (j := 4) (by decide +kernel) rfl rfl rfl) ?_
      refine gm_sz (gm_p_const (pc := 94) (i := .iconst 0) (v := gm_vi 0) (by decide +kernel) (by decide +kernel)) ?_
      refine gm_sz (gm_p_load (pc := 95) (i := .iload_n 1) (sr := 0) (j := 1) (by decide +kernel) rfl rfl rfl) ?_
      refine gm_c_virt (k := 217) (ci := 2) (mj := 45) (ix := 78) (pc := 96) (as := [gm_vi (lc + 1 - 1), gm_vi 0, gm_vi 2]) (st := []) (d' := d - 1) (bc' := 0) (bs' := 0) (by decide +kernel) (by decide +kernel) (by decide +kernel) (by decide +kernel) (tE217c hE).1 (tE217c hE).2 (by decide) (by decide +kernel) (show 3 = gm_na 45 by decide +kernel) (fw_c3 fw_si fw_si fw_si) (show 4 ≤ gm_ml 45 by decide +kernel) (Nat.le_of_ble_eq_true rfl) (by omega) (Nat.zero_le _) (Nat.zero_le _) ?_
      refine tx_c45 hE ⟨by omega, by omega⟩ ⟨by omega, by omega⟩ ⟨by omega, by omega⟩ ?_
      show gm_Wp X LX d _ _ 79 99 _ [] n K R _ Q
      refine gm_sz (gm_p_load (pc := 99) (i := .aload_n 0) (sr := 2) (j := 0) (by decide +kernel) rfl rfl rfl) ?_
      refine gm_sz (fw_gr (pc := 100) (ix := 14) (ci := 9) (j := 2) (r := 217) (by decide +kernel) (tE215c hE) (by decide +kernel) (by decide +kernel) (tEr hE).2.2.1) ?_
      refine gm_sz (gm_p_load (pc := 103) (i := .iload 4) (sr := 0) (j := 4) (by decide +kernel) rfl rfl rfl) ?_
      refine gm_sz (gm_p_const (pc := 105) (i := .iconst 1) (v := gm_vi 1) (by decide +kernel) (by decide +kernel)) ?_
      refine gm_sz (gm_p_load (pc := 106) (i := .iload_n 2) (sr := 0) (j := 2) (by decide +kernel) rfl rfl rfl) ?_
      refine gm_c_virt (k := 217) (ci := 2) (mj := 45) (ix := 78) (pc := 107) (as := [gm_vi (lc + 1 - 1), gm_vi 1, gm_vi 0]) (st := []) (d' := d - 1) (bc' := 0) (bs' := 0) (by decide +kernel) (by decide +kernel) (by decide +kernel) (by decide +kernel) (tE217c hE).1 (tE217c hE).2 (by decide) (by decide +kernel) (show 3 = gm_na 45 by decide +kernel) (fw_c3 fw_si fw_si fw_si) (show 4 ≤ gm_ml 45 by decide +kernel) (Nat.le_of_ble_eq_true rfl) (by omega) (Nat.zero_le _) (Nat.zero_le _) ?_
      refine tx_c45 hE ⟨by omega, by omega⟩ ⟨by omega, by omega⟩ ⟨by omega, by omega⟩ ?_
      show gm_Wp X LX d _ _ 79 110 _ [] n K R _ Q
      refine gm_sz (gm_p_load (pc := 110) (i := .aload_n 0) (sr := 2) (j := 0) (by decide +kernel) rfl rfl rfl) ?_
      refine gm_sz (fw_gr (pc := 111) (ix := 14) (ci := 9) (j := 2) (r := 217) (by decide +kernel) (tE215c hE) (by decide +kernel) (by decide +kernel) (tEr hE).2.2.1) ?_
      refine gm_sz (gm_p_load (pc := 114) (i := .iload 4) (sr := 0) (j := 4) (by decide +kernel) rfl rfl rfl) ?_
      refine gm_sz (gm_p_const (pc := 116) (i := .iconst 2) (v := gm_vi 2) (by decide +kernel) (by decide +kernel)) ?_
      refine gm_sz (gm_p_load (pc := 117) (i := .iload_n 3) (sr := 0) (j := 3) (by decide +kernel) rfl rfl rfl) ?_
      refine gm_c_virt (k := 217) (ci := 2) (mj := 45) (ix := 78) (pc := 118) (as := [gm_vi (lc + 1 - 1), gm_vi 2, gm_vi us]) (st := []) (d' := d - 1) (bc' := 0) (bs' := 0) (by decide +kernel) (by decide +kernel) (by decide +kernel) (by decide +kernel) (tE217c hE).1 (tE217c hE).2 (by decide) (by decide +kernel) (show 3 = gm_na 45 by decide +kernel) (fw_c3 fw_si fw_si fw_si) (show 4 ≤ gm_ml 45 by decide +kernel) (Nat.le_of_ble_eq_true rfl) (by omega) (Nat.zero_le _) (Nat.zero_le _) ?_
      refine tx_c45 hE ⟨by omega, by omega⟩ ⟨by omega, by omega⟩ ⟨by omega, by omega⟩ ?_
      show gm_Wp X LX d _ _ 79 121 _ [] n K R _ Q
      refine gm_sz (gm_p_load (pc := 121) (i := .aload_n 0) (sr := 2) (j := 0) (by decide +kernel) rfl rfl rfl) ?_
      refine gm_sz (fw_gr (pc := 122) (ix := 14) (ci := 9) (j := 2) (r := 217) (by decide +kernel) (tE215c hE) (by decide +kernel) (by decide +kernel) (tEr hE).2.2.1) ?_
      refine gm_sz (gm_p_load (pc := 125) (i := .iload 4) (sr := 0) (j := 4) (by decide +kernel) rfl rfl rfl) ?_
      refine gm_sz (gm_p_const (pc := 127) (i := .iconst 3) (v := gm_vi 3) (by decide +kernel) (by decide +kernel)) ?_
      refine gm_sz (gm_p_load (pc := 128) (i := .aload_n 0) (sr := 2) (j := 0) (by decide +kernel) rfl rfl rfl) ?_
      refine gm_sz (fw_gi (pc := 129) (ix := 24) (ci := 9) (j := 4) (x := us) (by decide +kernel) (tE215c hE) (by decide +kernel) (by decide +kernel) rfl) ?_
      refine gm_c_virt (k := 217) (ci := 2) (mj := 45) (ix := 78) (pc := 132) (as := [gm_vi (lc + 1 - 1), gm_vi 3, gm_vi us]) (st := []) (d' := d - 1) (bc' := 0) (bs' := 0) (by decide +kernel) (by decide +kernel) (by decide +kernel) (by decide +kernel) (tE217c hE).1 (tE217c hE).2 (by decide) (by decide +kernel) (show 3 = gm_na 45 by decide +kernel) (fw_c3 fw_si fw_si fw_si) (show 4 ≤ gm_ml 45 by decide +kernel) (Nat.le_of_ble_eq_true rfl) (by omega) (Nat.zero_le _) (Nat.zero_le _) ?_
      refine tx_c45 hE ⟨by omega, by omega⟩ ⟨by omega, by omega⟩ ⟨by omega, by omega⟩ ?_
      show gm_Wp X LX d _ _ 79 135 _ [] n K R _ Q
      refine gm_sz (gm_p_const (pc := 135) (i := .iconst 1) (v := gm_vi 1) (by decide +kernel) (by decide +kernel)) ?_
      rw [g_n1 j1, g_f0 j20] at h1
      refine gm_r_int (pc := 136) (by decide +kernel) (Or.inr ⟨(by decide +kernel), Or.inr rfl⟩) (h1 _ _ _ ⟨⟨hok.1.1, by omega⟩, fun j g1 g2 => ?_, hok.2.2⟩ rfl)
      have q0 := hok.2.1 j g1 g2
      have q1 := hok.1.1
      show 0 ≤ (if _ then _ else if _ then _ else if _ then _ else if _ then _ else D j) ∧ (if _ then _ else if _ then _ else if _ then _ else if _ then _ else D j) ≤ 400
      repeat' split
      all_goals omega
  · show gm_Wp X LX d _ _ 79 4 _ [gm_vi (-1)] n K R _ Q
    have j1 : ¬ (tx_is (M 2) e b wo_fast ∨ tx_is (M 2) e b wo_slow) := j1
    have j5 : ¬ tx_is (M 2) e b wo_open := j5
    refine gm_sz (gm_p_stor (pc := 4) (i := .istore_n 1) (sr := 0) (j := 1) (by decide +kernel) rfl (show 2 ≤ _ from Nat.le_of_ble_eq_true rfl) rfl) ?_
    refine gm_sz (gm_p_load (pc := 5) (i := .iload_n 1) (sr := 0) (j := 1) (by decide +kernel) rfl rfl rfl) ?_
    refine gm_sz (gm_p_const (pc := 6) (i := .iconst (-1)) (v := gm_vi (-1)) (by decide +kernel) (by decide +kernel)) ?_
    refine fw_icfd (cc := .ne) (pc := 7) (off := 11) (by decide +kernel) (by decide) ⟨by decide, by decide⟩ ⟨by decide, by decide⟩ (by decide) ?_
    refine gm_sz (gm_p_load (pc := 10) (i := .aload_n 0) (sr := 2) (j := 0) (by decide +kernel) rfl rfl rfl) ?_
    refine gm_sz (fw_gr (pc := 11) (ix := 47) (ci := 9) (j := 0) (r := 216) (by decide +kernel) (tE215c hE) (by decide +kernel) (by decide +kernel) (tEr hE).2.1) ?_
    refine gm_c_virt (k := 216) (ci := 8) (mj := 93) (ix := 51) (pc := 14) (as := []) (st := []) (d' := d - 1) (bc' := 0) (bs' := 0) (by decide +kernel) (by decide +kernel) (by decide +kernel) (by decide +kernel) (tE216c hE).1 (tE216c hE).2 (by decide) (by decide +kernel) (show 0 = gm_na 93 by decide +kernel) fw_c0 (show 1 ≤ gm_ml 93 by decide +kernel) (Nat.le_of_ble_eq_true rfl) (by omega) (Nat.zero_le _) (Nat.zero_le _) ?_
    refine tx_c93 hE hb ?_
    show gm_Wp X LX d _ _ 79 17 _ [gm_vi 0] n K R _ Q
    rw [g_n0 j1 j5] at h0
    exact gm_r_int (pc := 17) (by decide +kernel) (Or.inr ⟨(by decide +kernel), Or.inl rfl⟩) (h0 _ _ _ hok (fun h => by cases h))
end CX
end
/-! 79h.cy -/
section
/-! THE CLASS'S READER OF A LAW: the whole text (laid by wip/pp/p5c.py). -/
section CY
variable {X : Int → Int} {LX d bc bs n : Nat} {K : gm_K} {R : gm_R} {M : gm_M} {Q : gm_Q} {e e0 b w us lc x p k v : Int} {D C : Int → Int}
theorem cm_len : gm_uM (cm M p b w k v us lc D C) 216 ((2 : Nat) : Int) x = cm (gm_uM M 216 2 x) p b w k v us lc D C := by
  show gm_uM (cm M p b w k v us lc D C) 216 2 x = _
  funext a j
  by_cases ha : a = 216 <;> by_cases hj : j = 2 <;> simp [gm_uM, cm, ha, hj]
theorem tx_E2 (h : tx_E n K R M e) (h0 : 0 ≤ e0 ∧ e0 ≤ 400) : tx_E n K R (gm_uM M 216 2 e0) e0 := by
  have f2 : ∀ j, gm_uM M 216 2 e0 2 j = M 2 j := fun j => uM_ne (by omega)
  refine ⟨h.1, ⟨h.2.1.1, (uM_ne (by omega)).trans h.2.1.2.1, (uM_ne (by omega)).trans h.2.1.2.2.1, (uM_ne (by omega)).trans h.2.1.2.2.2.1, (uM_ne (by omega)).trans h.2.1.2.2.2.2⟩, ⟨uM_at, h0⟩, fun j h1 h2 => ?_⟩
  rw [f2]
  exact h.2.2.2 j h1 h2
theorem tx_c75 (hd : 2 ≤ d) (hE : tx_E n K R M e) (h0 : 0 ≤ e0 ∧ e0 ≤ 400) (hq : Q (.inl none) n K R (ct (gm_uM M 216 2 e0) e0 (tx_g (M 2) e0 0) (-1) us lc D C)) : gm_Wp X LX d bc bs 75 0 (gm_ent 75 [gm_vr 216, gm_vi e0]) [] n K R (cm M p b w k v us lc D C) Q := by
  have hE2 := tx_E2 hE h0
  refine gm_sz (gm_p_load (pc := 0) (i := .aload_n 0) (sr := 2) (j := 0) (by decide +kernel) rfl rfl rfl) ?_
  refine gm_sz (gm_p_load (pc := 1) (i := .iload_n 1) (sr := 0) (j := 1) (by decide +kernel) rfl rfl rfl) ?_
  refine gm_sz (gm_p_load (pc := 2) (i := .aload_n 0) (sr := 2) (j := 0) (by decide +kernel) rfl rfl rfl) ?_
  refine gm_sz (fw_gr (pc := 3) (ix := 30) (ci := 8) (j := 0) (r := 2) (by decide +kernel) (tE216c hE) (by decide +kernel) (by decide +kernel) (tEr hE).1) ?_
  refine gm_sz (fw_al (pc := 6) (k := 2) (len := 400) (by decide +kernel) (tE2 hE).1 (tE2 hE).2 (by decide)) ?_
  refine gm_sz (gm_p_min (pc := 7) (ix := 37) (x := e0) (y := 400) (by decide +kernel) (by decide +kernel) (gm_w_id (by omega) (by omega)) (gm_w_id (by omega) (by omega)) (Nat.le_of_ble_eq_true rfl) (by omega)) ?_
  rw [show min e0 400 = e0 by omega]
  refine gm_sz (fw_pi (pc := 10) (ix := 9) (ci := 8) (j := 2) (M' := cm (gm_uM M 216 2 e0) p b w k v us lc D C) (by decide +kernel) (tE216c hE) (by decide +kernel) (by decide +kernel) (by decide +kernel) cm_len) ?_
  refine gm_sz (gm_p_load (pc := 13) (i := .aload_n 0) (sr := 2) (j := 0) (by decide +kernel) rfl rfl rfl) ?_
  refine gm_sz (gm_p_const (pc := 14) (i := .iconst 0) (v := gm_vi 0) (by decide +kernel) (by decide +kernel)) ?_
  refine gm_sz (fw_pi (pc := 15) (ix := 15) (ci := 8) (j := 3) (M' := cm (gm_uM M 216 2 e0) 0 b w k v us lc D C) (by decide +kernel) (tE216c hE) (by decide +kernel) (by decide +kernel) (by decide +kernel) cm_p) ?_
  refine gm_sz (gm_p_load (pc := 18) (i := .aload_n 0) (sr := 2) (j := 0) (by decide +kernel) rfl rfl rfl) ?_
  refine gm_sz (gm_p_const (pc := 19) (i := .iconst (-1)) (v := gm_vi (-1)) (by decide +kernel) (by decide +kernel)) ?_
  refine gm_sz (fw_pi (pc := 20) (ix := 21) (ci := 8) (j := 5) (M' := cm (gm_uM M 216 2 e0) 0 b (-1) k v us lc D C) (by decide +kernel) (tE216c hE) (by decide +kernel) (by decide +kernel) (by decide +kernel) cm_w) ?_
  refine gm_sz (gm_p_load (pc := 23) (i := .aload_n 0) (sr := 2) (j := 0) (by decide +kernel) rfl rfl rfl) ?_
  refine gm_c_virt (k := 216) (ci := 8) (mj := 76) (ix := 43) (pc := 24) (as := []) (st := []) (d' := d - 1) (bc' := 0) (bs' := 0) (by decide +kernel) (by decide +kernel) (by decide +kernel) (by decide +kernel) (tE216c hE).1 (tE216c hE).2 (by decide) (by decide +kernel) (show 0 = gm_na 76 by decide +kernel) fw_c0 (show 1 ≤ gm_ml 76 by decide +kernel) (Nat.le_of_ble_eq_true rfl) (by omega) (Nat.zero_le _) (Nat.zero_le _) ?_
  refine tx_nx (by omega) hE2 ⟨Int.le_refl _, h0.1⟩ ?_
  show gm_Wp X LX d _ _ 75 27 _ [] n K R _ Q
  exact gm_r_void (pc := 27) (by decide +kernel) (by decide +kernel) (by rw [show (gm_uM M 216 2 e0) 2 = M 2 from funext fun j => uM_ne (by omega)]; exact hq)
section GT
variable {f : Int → Int} {t : Nat}
theorem g_t0 (h : ¬ (g_line f e b).1 = true) : g_txt f e (t + 1) b = (false, (g_line f e b).2) := tif_f h
theorem g_t1 (h : (g_line f e b).1 = true) (h2 : tx_k f e (g_line f e b).2 = 256) : g_txt f e (t + 1) b = (true, 12 - (t : Int)) := by unfold g_txt; rw [tif_t h, tif_t h2]
theorem g_t2 (h : (g_line f e b).1 = true) (h2 : ¬ tx_k f e (g_line f e b).2 = 256) (h3 : ¬ tx_k f e (g_line f e b).2 = 59) : g_txt f e (t + 1) b = (false, (g_line f e b).2) := by unfold g_txt; rw [tif_t h, tif_f h2, tif_f h3]
theorem g_t3 (h : (g_line f e b).1 = true) (h2 : ¬ tx_k f e (g_line f e b).2 = 256) (h3 : tx_k f e (g_line f e b).2 = 59) : g_txt f e (t + 1) b = g_txt f e t (tx_n f e (g_line f e b).2) := by
  show tif ((g_line f e b).1 = true) _ _ = _
  rw [tif_t h, tif_f h2, tif_t h3]
end GT
theorem tx_l72 (hd : 24 ≤ d) (hE : tx_E n K R M e) (z : Int) : ∀ (t : Nat) (i b us : Int) (D C : Int → Int), i + t = 12 → 0 ≤ i → 0 ≤ b ∧ b ≤ e → ctk us i D C → (∀ us2 D2 C2 b2, (g_txt (M 2) e t b).1 = true → Q (.inl (some (gm_vi (-1)))) n K R (ct M e b2 (-1) us2 (g_txt (M 2) e t b).2 D2 C2)) → (∀ us2 lc2 D2 C2 b2, ¬ (g_txt (M 2) e t b).1 = true → Q (.inl (some (gm_vi (g_txt (M 2) e t b).2))) n K R (ct M e b2 (g_txt (M 2) e t b).2 us2 lc2 D2 C2)) → gm_Wp X LX d bc bs 72 29 [some (gm_vr 215), some (gm_vi z), some (gm_vi i)] [] n K R (ct M e b (-1) us i D C) Q := by
  obtain ⟨-, he0, he4⟩ := tEe hE
  intro t
  induction t with
  | zero =>
    intro i b us D C hit hi0 hb hok h1 h0
    refine gm_sz (gm_p_load (pc := 29) (i := .iload_n 2) (sr := 0) (j := 2) (by decide +kernel) rfl rfl rfl) ?_
    refine gm_sz (gm_p_load (pc := 30) (i := .aload_n 0) (sr := 2) (j := 0) (by decide +kernel) rfl rfl rfl) ?_
    refine gm_sz (fw_gi (pc := 31) (ix := 20) (ci := 9) (j := 1) (x := 12) (by decide +kernel) (tE215c hE) (by decide +kernel) (by decide +kernel) (tEm hE).2.2.2) ?_
    refine fw_ict (cc := .ge) (pc := 34) (off := 49) (by decide +kernel) (by decide) ⟨by omega, by omega⟩ ⟨by decide, by decide⟩ (show 12 ≤ i by omega) ?_
    refine gm_sz (gm_p_load (pc := 83) (i := .aload_n 0) (sr := 2) (j := 0) (by decide +kernel) rfl rfl rfl) ?_
    refine gm_sz (fw_gr (pc := 84) (ix := 14) (ci := 9) (j := 0) (r := 216) (by decide +kernel) (tE215c hE) (by decide +kernel) (by decide +kernel) (tEr hE).2.1) ?_
    refine gm_c_virt (k := 216) (ci := 8) (mj := 93) (ix := 46) (pc := 87) (as := []) (st := []) (d' := d - 1) (bc' := 0) (bs' := 0) (by decide +kernel) (by decide +kernel) (by decide +kernel) (by decide +kernel) (tE216c hE).1 (tE216c hE).2 (by decide) (by decide +kernel) (show 0 = gm_na 93 by decide +kernel) fw_c0 (show 1 ≤ gm_ml 93 by decide +kernel) (Nat.le_of_ble_eq_true rfl) (by omega) (Nat.zero_le _) (Nat.zero_le _) ?_
    refine tx_c93 hE hb ?_
    show gm_Wp X LX d _ _ 72 90 _ [gm_vi 0] n K R _ Q
    refine gm_sz (gm_p_pop (pc := 90) (by decide +kernel) fw_si) ?_
    refine gm_sz (gm_p_load (pc := 91) (i := .aload_n 0) (sr := 2) (j := 0) (by decide +kernel) rfl rfl rfl) ?_
    refine gm_sz (fw_gr (pc := 92) (ix := 14) (ci := 9) (j := 0) (r := 216) (by decide +kernel) (tE215c hE) (by decide +kernel) (by decide +kernel) (tEr hE).2.1) ?_
    refine gm_c_virt (k := 216) (ci := 8) (mj := 121) (ix := 42) (pc := 95) (as := []) (st := []) (d' := d - 1) (bc' := 0) (bs' := 0) (by decide +kernel) (by decide +kernel) (by decide +kernel) (by decide +kernel) (tE216c hE).1 (tE216c hE).2 (by decide) (by decide +kernel) (show 0 = gm_na 121 by decide +kernel) fw_c0 (show 1 ≤ gm_ml 121 by decide +kernel) (Nat.le_of_ble_eq_true rfl) (by omega) (Nat.zero_le _) (Nat.zero_le _) ?_
    refine tx_c121 hE ?_
    show gm_Wp X LX d _ _ 72 98 _ [gm_vi b] n K R _ Q
    exact gm_r_int (pc := 98) (by decide +kernel) (Or.inl (by decide +kernel)) (h0 _ _ _ _ _ (fun h => by cases h))
  | succ t ih =>
    intro i b us D C hit hi0 hb hok h1 h0
    have hkk := tx_kc (f := M 2) (e := e) (b := (g_line (M 2) e b).2) (fun h => tEb hE (by have := (g_line_in (f := M 2) hb.1 hb.2).1; omega) (by omega))
    refine gm_sz (gm_p_load (pc := 29) (i := .iload_n 2) (sr := 0) (j := 2) (by decide +kernel) rfl rfl rfl) ?_
    refine gm_sz (gm_p_load (pc := 30) (i := .aload_n 0) (sr := 2) (j := 0) (by decide +kernel) rfl rfl rfl) ?_
    refine gm_sz (fw_gi (pc := 31) (ix := 20) (ci := 9) (j := 1) (x := 12) (by decide +kernel) (tE215c hE) (by decide +kernel) (by decide +kernel) (tEm hE).2.2.2) ?_
    refine fw_icf (cc := .ge) (pc := 34) (off := 49) (by decide +kernel) (by decide) ⟨by omega, by omega⟩ ⟨by decide, by decide⟩ (show ¬ 12 ≤ i by omega) ?_
    refine gm_sz (gm_p_load (pc := 37) (i := .aload_n 0) (sr := 2) (j := 0) (by decide +kernel) rfl rfl rfl) ?_
    refine gm_c_up (k := 215) (ci := 9) (mj := 79) (ix := 34) (pc := 38) (as := []) (st := []) (d' := d - 1) (bc' := 0) (bs' := 0) (by decide +kernel) (by decide +kernel) (by decide +kernel) (tE215c hE).1 (tE215c hE).2 (show 0 = gm_na 79 by decide +kernel) fw_c0 (show 1 ≤ gm_ml 79 by decide +kernel) (Nat.le_of_ble_eq_true rfl) (by omega) (Nat.zero_le _) (Nat.zero_le _) ?_
    refine tx_c79 hE _ _ _ _ _ _ _ _ _ (by omega) hb (by omega) hok (fun u1 D2 C3 k4 j5 => ?_) (fun u1 D2 C3 k4 j5 => ?_)
    · show gm_Wp X LX d _ _ 72 41 _ [gm_vi 1] n K R _ Q
      have j5 : (g_line (M 2) e b).1 = true := j5
      have g6 : 0 ≤ (g_line (M 2) e b).2 ∧ (g_line (M 2) e b).2 ≤ e := by have := g_line_in (f := M 2) hb.1 hb.2; have := hb.1; omega
      refine fw_iffd (cc := .eq) (pc := 41) (off := 28) (by decide +kernel) (by decide) ⟨by decide, by decide⟩ (by decide) ?_
      refine gm_sz (gm_p_load (pc := 44) (i := .aload_n 0) (sr := 2) (j := 0) (by decide +kernel) rfl rfl rfl) ?_
      refine gm_sz (fw_gr (pc := 45) (ix := 14) (ci := 9) (j := 0) (r := 216) (by decide +kernel) (tE215c hE) (by decide +kernel) (by decide +kernel) (tEr hE).2.1) ?_
      refine gm_sz (fw_gi (pc := 48) (ix := 31) (ci := 8) (j := 6) (x := tx_k (M 2) e ((g_line (M 2) e b).2)) (by decide +kernel) (tE216c hE) (by decide +kernel) (by decide +kernel) rfl) ?_
      refine gm_sz (gm_p_const (pc := 51) (i := .sipush 256) (v := gm_vi 256) (by decide +kernel) (by decide +kernel)) ?_
      refine fw_ic (cc := .eq) (pc := 54) (off := 15) (by decide +kernel) (by decide) ⟨by omega, by omega⟩ ⟨by decide, by decide⟩ (fun j7 => ?_) (fun j7 => ?_)
      · have j7 : (tx_k (M 2) e ((g_line (M 2) e b).2)) = 256 := j7
        refine gm_sz (gm_p_load (pc := 69) (i := .aload_n 0) (sr := 2) (j := 0) (by decide +kernel) rfl rfl rfl) ?_
        refine gm_sz (fw_gr (pc := 70) (ix := 14) (ci := 9) (j := 0) (r := 216) (by decide +kernel) (tE215c hE) (by decide +kernel) (by decide +kernel) (tEr hE).2.1) ?_
        refine gm_c_virt (k := 216) (ci := 8) (mj := 121) (ix := 42) (pc := 73) (as := []) (st := []) (d' := d - 1) (bc' := 0) (bs' := 0) (by decide +kernel) (by decide +kernel) (by decide +kernel) (by decide +kernel) (tE216c hE).1 (tE216c hE).2 (by decide) (by decide +kernel) (show 0 = gm_na 121 by decide +kernel) fw_c0 (show 1 ≤ gm_ml 121 by decide +kernel) (Nat.le_of_ble_eq_true rfl) (by omega) (Nat.zero_le _) (Nat.zero_le _) ?_
        refine tx_c121 hE ?_
        show gm_Wp X LX d _ _ 72 76 _ [gm_vi (-1)] n K R _ Q
        rw [g_t1 j5 j7] at h1
        have h1 := fun a2 b2 c2 d2 => h1 a2 b2 c2 d2 rfl
        rw [show ((true, 12 - (t : Int)) : Bool × Int).2 = i + 1 by show 12 - (t : Int) = i + 1; omega] at h1
        exact gm_r_int (pc := 76) (by decide +kernel) (Or.inl (by decide +kernel)) (h1 _ _ _ _)
      · have j7 : ¬ (tx_k (M 2) e ((g_line (M 2) e b).2)) = 256 := j7
        refine gm_sz (gm_p_load (pc := 57) (i := .aload_n 0) (sr := 2) (j := 0) (by decide +kernel) rfl rfl rfl) ?_
        refine gm_sz (fw_gr (pc := 58) (ix := 14) (ci := 9) (j := 0) (r := 216) (by decide +kernel) (tE215c hE) (by decide +kernel) (by decide +kernel) (tEr hE).2.1) ?_
        refine gm_sz (gm_p_const (pc := 61) (i := .bipush 59) (v := gm_vi 59) (by decide +kernel) (by decide +kernel)) ?_
        refine gm_c_virt (k := 216) (ci := 8) (mj := 98) (ix := 38) (pc := 63) (as := [gm_vi 59]) (st := []) (d' := d - 1) (bc' := 0) (bs' := 0) (by decide +kernel) (by decide +kernel) (by decide +kernel) (by decide +kernel) (tE216c hE).1 (tE216c hE).2 (by decide) (by decide +kernel) (show 1 = gm_na 98 by decide +kernel) (fw_c1 fw_si) (show 2 ≤ gm_ml 98 by decide +kernel) (Nat.le_of_ble_eq_true rfl) (by omega) (Nat.zero_le _) (Nat.zero_le _) ?_
        refine tx_c98 (by omega) hE ⟨by decide, by decide⟩ g6 (fun j8 => ?_) (fun j8 => ?_)
        · show gm_Wp X LX d _ _ 72 66 _ [gm_vi 1] n K R _ Q
          have j8 : tx_k (M 2) e ((g_line (M 2) e b).2) = 59 := j8
          have g9 : 0 ≤ tx_n (M 2) e ((g_line (M 2) e b).2) ∧ tx_n (M 2) e ((g_line (M 2) e b).2) ≤ e := by have := tx_nb (f := M 2) (b := (g_line (M 2) e b).2) g6.2; omega
          refine fw_iftd (cc := .ne) (pc := 66) (off := 11) (by decide +kernel) (by decide) ⟨by decide, by decide⟩ (by decide) ?_
          refine gm_sz (gm_p_iinc (pc := 77) (j := 2) (z := 1) (by decide +kernel) rfl) ?_
          refine gm_sz (gm_p_goto (pc := 80) (off := (-51)) (by decide +kernel) (by decide)) ?_
          rw [g_t3 j5 j7 j8] at h1 h0
          exact gm_Wp_wk (d' := d) (bc' := bc) (bs' := bs) (Nat.le_refl _) (by omega) (by omega) (ih (i + 1) _ _ _ _ (by omega) (by omega) g9 k4 h1 h0)
        · show gm_Wp X LX d _ _ 72 66 _ [gm_vi 0] n K R _ Q
          have j8 : ¬ tx_k (M 2) e ((g_line (M 2) e b).2) = 59 := j8
          refine fw_iffd (cc := .ne) (pc := 66) (off := 11) (by decide +kernel) (by decide) ⟨by decide, by decide⟩ (by decide) ?_
          refine gm_sz (gm_p_load (pc := 69) (i := .aload_n 0) (sr := 2) (j := 0) (by decide +kernel) rfl rfl rfl) ?_
          refine gm_sz (fw_gr (pc := 70) (ix := 14) (ci := 9) (j := 0) (r := 216) (by decide +kernel) (tE215c hE) (by decide +kernel) (by decide +kernel) (tEr hE).2.1) ?_
          refine gm_c_virt (k := 216) (ci := 8) (mj := 121) (ix := 42) (pc := 73) (as := []) (st := []) (d' := d - 1) (bc' := 0) (bs' := 0) (by decide +kernel) (by decide +kernel) (by decide +kernel) (by decide +kernel) (tE216c hE).1 (tE216c hE).2 (by decide) (by decide +kernel) (show 0 = gm_na 121 by decide +kernel) fw_c0 (show 1 ≤ gm_ml 121 by decide +kernel) (Nat.le_of_ble_eq_true rfl) (by omega) (Nat.zero_le _) (Nat.zero_le _) ?_
          refine tx_c121 hE ?_
          show gm_Wp X LX d _ _ 72 76 _ [gm_vi ((g_line (M 2) e b).2)] n K R _ Q
          rw [g_t2 j5 j7 j8] at h0
          exact gm_r_int (pc := 76) (by decide +kernel) (Or.inl (by decide +kernel)) (h0 _ _ _ _ _ (fun h => by cases h))
    · show gm_Wp X LX d _ _ 72 41 _ [gm_vi 0] n K R _ Q
      have j5 : ¬ (g_line (M 2) e b).1 = true := j5
      have g6 : 0 ≤ (g_line (M 2) e b).2 ∧ (g_line (M 2) e b).2 ≤ e := by have := g_line_in (f := M 2) hb.1 hb.2; have := hb.1; omega
      refine fw_iftd (cc := .eq) (pc := 41) (off := 28) (by decide +kernel) (by decide) ⟨by decide, by decide⟩ (by decide) ?_
      refine gm_sz (gm_p_load (pc := 69) (i := .aload_n 0) (sr := 2) (j := 0) (by decide +kernel) rfl rfl rfl) ?_
      refine gm_sz (fw_gr (pc := 70) (ix := 14) (ci := 9) (j := 0) (r := 216) (by decide +kernel) (tE215c hE) (by decide +kernel) (by decide +kernel) (tEr hE).2.1) ?_
      refine gm_c_virt (k := 216) (ci := 8) (mj := 121) (ix := 42) (pc := 73) (as := []) (st := []) (d' := d - 1) (bc' := 0) (bs' := 0) (by decide +kernel) (by decide +kernel) (by decide +kernel) (by decide +kernel) (tE216c hE).1 (tE216c hE).2 (by decide) (by decide +kernel) (show 0 = gm_na 121 by decide +kernel) fw_c0 (show 1 ≤ gm_ml 121 by decide +kernel) (Nat.le_of_ble_eq_true rfl) (by omega) (Nat.zero_le _) (Nat.zero_le _) ?_
      refine tx_c121 hE ?_
      show gm_Wp X LX d _ _ 72 76 _ [gm_vi ((g_line (M 2) e b).2)] n K R _ Q
      rw [g_t0 j5] at h0
      exact gm_r_int (pc := 76) (by decide +kernel) (Or.inl (by decide +kernel)) (h0 _ _ _ _ _ (fun h => by cases h))
theorem tx_EF (hF : gm_Fx p2_O 245 K R M) : tx_E 245 K R M (M 216 2) := by
  have kd : ∀ k e, p2_O.1 k = some e → (1 ≤ k ∧ k ≤ 245) ∧ K k = e := fun k e h => ⟨⟨(hF.1 k e h).1, (hF.1 k e h).2.1⟩, (hF.1 k e h).2.2⟩
  have rf : ∀ k j r, p2_O.2.1 k j = some r → R k j = r := fun k j r h => (hF.2.1 k j r h).2
  have ty : ∀ k j a b, gm_tyr p2_O k j j = some (a, b) → a ≤ M k j ∧ M k j ≤ b := fun k j a b h => ((gm_tyr_s hF h).2 j (Int.le_refl _) (Int.le_refl _)).2
  have t1 := ty 216 1 3 3 (by decide +kernel)
  have t2 := ty 217 0 12 12 (by decide +kernel)
  have t3 := ty 217 1 4 4 (by decide +kernel)
  have t4 := ty 215 1 12 12 (by decide +kernel)
  have t5 := ty 216 2 0 400 (by decide +kernel)
  exact ⟨⟨⟨kd 2 _ (by decide +kernel), kd 215 _ (by decide +kernel), kd 216 _ (by decide +kernel)⟩, kd 217 _ (by decide +kernel), kd 218 _ (by decide +kernel), kd 219 _ (by decide +kernel)⟩, ⟨⟨rf 216 0 _ (by decide +kernel), rf 215 0 _ (by decide +kernel), rf 215 2 _ (by decide +kernel), rf 215 3 _ (by decide +kernel), rf 217 2 _ (by decide +kernel)⟩, by omega, by omega, by omega, by omega⟩, ⟨rfl, t5⟩, fun j h1 h2 => ((gm_tyr_s hF (show gm_tyr p2_O 2 0 399 = some (-128, 127) by decide +kernel)).2 j h1 (by omega)).2⟩
theorem g_w0 {f : Int → Int} (h : tx_k f e (tx_g f e 0) = 256) : g_law f e = (true, 0) := tif_t h
theorem g_w1 {f : Int → Int} (h : ¬ tx_k f e (tx_g f e 0) = 256) : g_law f e = g_txt f e 12 (tx_g f e 0) := tif_f h
/-- readText of a law -/
theorem tx_c72 (hd : 25 ≤ d) (hF : gm_Fx p2_O 245 K R M) (h0 : 0 ≤ e0 ∧ e0 ≤ 400) (h1 : ∀ (K2 : gm_K) R2 M2, (∀ k, k ≤ 245 → K2 k = K k) → (g_law (M 2) e0).1 = true → M2 217 3 = (g_law (M 2) e0).2 → Q (.inl (some (gm_vi (-1)))) 245 K2 R2 M2) (hq0 : ∀ K2 R2 M2, ¬ (g_law (M 2) e0).1 = true → Q (.inl (some (gm_vi (g_law (M 2) e0).2))) 245 K2 R2 M2) : gm_Wp X LX d bc bs 72 0 (gm_ent 72 [gm_vr 215, gm_vi e0]) [] 245 K R M Q := by
  have hE0 := tx_EF hF
  refine gm_sz (gm_p_load (pc := 0) (i := .aload_n 0) (sr := 2) (j := 0) (by decide +kernel) rfl rfl rfl) ?_
  refine gm_c_up (k := 215) (ci := 9) (mj := 73) (ix := 24) (pc := 1) (as := []) (st := []) (d' := d - 1) (bc' := 0) (bs' := 0) (by decide +kernel) (by decide +kernel) (by decide +kernel) (tE215c hE0).1 (tE215c hE0).2 (show 0 = gm_na 73 by decide +kernel) fw_c0 (show 1 ≤ gm_ml 73 by decide +kernel) (Nat.le_of_ble_eq_true rfl) (by omega) (Nat.zero_le _) (Nat.zero_le _) ?_
  refine gm_Wp_mono (fun o n9 K1 R1 M1 h => ?_) (pm_s2_s (d - 1) (ck_sn p2_O (fun _ => 0) M) [gm_vr 215] 245 K R M (show 2 ≤ d - 1 by omega) rfl ⟨_, _, rfl, rfl, rfl⟩ (ck_sn_s p2_nmu) hF ⟨(fun _ h => nomatch h), (fun _ h => nomatch h), (fun _ h => nomatch h)⟩)
  obtain ⟨f1, f2, oc, f3, f4, f5, f6⟩ := h
  rw [List.mem_singleton.mp f3] at f4 f5 f6
  have f5 : n9 = 245 := f5
  subst f5
  rcases o with (_ | v9) | x9
  case inl.some => exact absurd f4 id
  case inr => exact absurd f4 id
  have u0 := ((f6.2.2 (215, 4, 4, ck_one 0) List.mem_cons_self).2 4 (Int.le_refl _) (Int.le_refl _)).2
  have u1 := ((f6.2.2 (217, 3, 3, ck_one 0) (List.mem_cons_of_mem _ List.mem_cons_self)).2 3 (Int.le_refl _) (Int.le_refl _)).2
  have v0 : M1 215 4 = 0 := Int.le_antisymm u0.2.1 u0.1
  have v1 : M1 217 3 = 0 := Int.le_antisymm u1.2.1 u1.1
  have hf : M1 2 = M 2 := funext fun j => f2.2.2.1 2 j (by decide) (fun w hw hh => by
    have := List.all_eq_true.mp (show pm_s2.2.2.2.2.1.1.all (fun w => decide (¬ w.1 = 2)) = true by decide) w hw
    exact absurd hh.1 (of_decide_eq_true this))
  have hE := tx_EF f1
  have hok : ctk 0 0 (M1 218) (M1 219) := ⟨⟨⟨by decide, by decide⟩, by decide, by decide⟩, fun j g1 g2 => ((gm_tyr_s f1 (show gm_tyr p2_O 218 0 47 = some (0, 400) by decide +kernel)).2 j g1 (by omega)).2, fun j g1 g2 => ((gm_tyr_s f1 (show gm_tyr p2_O 219 0 399 = some (-2147483648, 2147483647) by decide +kernel)).2 j g1 (by omega)).1⟩
  show gm_Wp X LX d _ _ 72 4 (gm_ent 72 [gm_vr 215, gm_vi e0]) [] 245 K1 R1 M1 Q
  rw [← cm_id (M := M1), v0, v1]
  rw [← hf] at h1 hq0
  have hE2 := tx_E2 hE h0
  have hf2 : (gm_uM M1 216 2 e0) 2 = M1 2 := funext fun j => uM_ne (by omega)
  obtain ⟨gb1, gb2, -⟩ := tx_gb (f := M1 2) h0.1
  have hkb := tx_kc (f := M1 2) (e := e0) (b := tx_g (M1 2) e0 0) (fun h => tEb hE gb1 (by omega))
  generalize hD : M1 218 = D9 at *
  generalize hC : M1 219 = C9 at *
  refine gm_sz (gm_p_load (pc := 4) (i := .aload_n 0) (sr := 2) (j := 0) (by decide +kernel) rfl rfl rfl) ?_
  refine gm_sz (fw_gr (pc := 5) (ix := 14) (ci := 9) (j := 0) (r := 216) (by decide +kernel) (tE215c hE) (by decide +kernel) (by decide +kernel) (tEr hE).2.1) ?_
  refine gm_sz (gm_p_load (pc := 8) (i := .iload_n 1) (sr := 0) (j := 1) (by decide +kernel) rfl rfl rfl) ?_
  refine gm_c_virt (k := 216) (ci := 8) (mj := 75) (ix := 27) (pc := 9) (as := [gm_vi e0]) (st := []) (d' := d - 1) (bc' := 0) (bs' := 0) (by decide +kernel) (by decide +kernel) (by decide +kernel) (by decide +kernel) (tE216c hE).1 (tE216c hE).2 (by decide) (by decide +kernel) (show 1 = gm_na 75 by decide +kernel) (fw_c1 fw_si) (show 2 ≤ gm_ml 75 by decide +kernel) (Nat.le_of_ble_eq_true rfl) (by omega) (Nat.zero_le _) (Nat.zero_le _) ?_
  refine tx_c75 (by omega) hE h0 ?_
  show gm_Wp X LX d _ _ 72 12 (gm_ent 72 [gm_vr 215, gm_vi e0]) [] 245 K1 R1 (ct (gm_uM M1 216 2 e0) e0 (tx_g (M1 2) e0 0) (-1) 0 0 D9 C9) Q
  refine gm_sz (gm_p_load (pc := 12) (i := .aload_n 0) (sr := 2) (j := 0) (by decide +kernel) rfl rfl rfl) ?_
  refine gm_sz (fw_gr (pc := 13) (ix := 14) (ci := 9) (j := 0) (r := 216) (by decide +kernel) (tE215c hE2) (by decide +kernel) (by decide +kernel) (tEr hE2).2.1) ?_
  refine gm_sz (fw_gi (pc := 16) (ix := 31) (ci := 8) (j := 6) (x := tx_k (M1 2) e0 (tx_g (M1 2) e0 0)) (by decide +kernel) (tE216c hE2) (by decide +kernel) (by decide +kernel) (show tx_k ((gm_uM M1 216 2 e0) 2) e0 (tx_g (M1 2) e0 0) = tx_k (M1 2) e0 (tx_g (M1 2) e0 0) by rw [hf2])) ?_
  refine gm_sz (gm_p_const (pc := 19) (i := .sipush 256) (v := gm_vi 256) (by decide +kernel) (by decide +kernel)) ?_
  refine fw_ic (cc := .ne) (pc := 22) (off := 5) (by decide +kernel) (by decide) ⟨by omega, by omega⟩ ⟨by decide, by decide⟩ (fun j1 => ?_) (fun j1 => ?_)
  · have j1 : ¬ (tx_k (M1 2) e0 (tx_g (M1 2) e0 0)) = 256 := j1
    refine gm_sz (gm_p_const (pc := 27) (i := .iconst 0) (v := gm_vi 0) (by decide +kernel) (by decide +kernel)) ?_
    refine gm_sz (gm_p_stor (pc := 28) (i := .istore_n 2) (sr := 0) (j := 2) (by decide +kernel) rfl (show 3 ≤ _ from Nat.le_of_ble_eq_true rfl) rfl) ?_
    rw [g_w1 j1, ← hf2] at h1 hq0
    have hb9 : 0 ≤ tx_g ((gm_uM M1 216 2 e0) 2) e0 0 ∧ tx_g ((gm_uM M1 216 2 e0) 2) e0 0 ≤ e0 := by rw [hf2]; exact ⟨by omega, gb2⟩
    rw [show tx_g (M1 2) e0 0 = tx_g ((gm_uM M1 216 2 e0) 2) e0 0 by rw [hf2]]
    exact tx_l72 (by omega) hE2 _ 12 0 _ 0 D9 C9 rfl (Int.le_refl _) hb9 hok (fun us2 D2 C2 b2 g => h1 _ _ _ f2.2.1 g rfl) (fun us2 lc2 D2 C2 b2 g => hq0 _ _ _ g)
  · have j1 : (tx_k (M1 2) e0 (tx_g (M1 2) e0 0)) = 256 := Classical.not_not.mp j1
    refine gm_sz (gm_p_const (pc := 25) (i := .iconst (-1)) (v := gm_vi (-1)) (by decide +kernel) (by decide +kernel)) ?_
    rw [g_w0 j1] at h1
    exact gm_r_int (pc := 26) (by decide +kernel) (Or.inl (by decide +kernel)) (h1 _ _ _ f2.2.1 rfl rfl)
end CY
end
